/- dc.mpins -/
section
set_option maxRecDepth 512
/-! The model: changePin, unlock. -/
/- 352 PasskeyHouseModel.changePin(III)I -/
theorem s352_0 {d : Nat} {ls : mj_L} {st : List Value} {M : mj_H} : mj_Rn d mj_m352 0 ls st M = mq_k0 d mj_m352 1 ls M (mj_ldi (mj_lk ls 1) st) := mj_R0 (r := (.iload_n 1, 1, 0, 0, 0)) rfl rfl
theorem s352_1 {d : Nat} {ls : mj_L} {st : List Value} {M : mj_H} : mj_Rn (d + 1) mj_m352 1 ls st M = mq_k5a (d + 1) mj_m352 4 ls M 336 (mq_cb 2 1 11 st M) := mj_R5e (r := (.invokestatic 587, 3, 2, 336, 37056)) (z := mj_m336) rfl rfl (by decide) (by decide) rfl
theorem s352_4 {d : Nat} {ls : mj_L} {st : List Value} {M : mj_H} : mj_Rn d mj_m352 4 ls st M = mq_k2 d mj_m352 ls M (mj_br (.ifCond .eq 29) 4 st) := mj_R2 (r := (.ifCond .eq 29, 3, 0, 0, 0)) rfl rfl
theorem s352_7 {d : Nat} {ls : mj_L} {st : List Value} {M : mj_H} : mj_Rn d mj_m352 7 ls st M = mq_k0 d mj_m352 8 ls M (mj_lda (mj_lk ls 0) st) := mj_R0 (r := (.aload_n 0, 1, 0, 0, 0)) rfl rfl
theorem s352_8 {d : Nat} {ls : mj_L} {st : List Value} {M : mj_H} : mj_Rn d mj_m352 8 ls st M = mq_k0 d mj_m352 9 ls M (mj_ldi (mj_lk ls 2) st) := mj_R0 (r := (.iload_n 2, 1, 0, 0, 0)) rfl rfl
theorem s352_9 {d : Nat} {ls : mj_L} {st : List Value} {M : mj_H} : mj_Rn (d + 1) mj_m352 9 ls st M = mq_k5a (d + 1) mj_m352 12 ls M 271 (mq_cb 0 1 11 st M) := mj_R5e (r := (.invokevirtual 578, 3, 0, 271, 32935)) (z := mj_m271) rfl rfl (by decide) (by decide) rfl
theorem s352_12 {d : Nat} {ls : mj_L} {st : List Value} {M : mj_H} : mj_Rn d mj_m352 12 ls st M = mq_k2 d mj_m352 ls M (mj_br (.ifCond .eq 21) 12 st) := mj_R2 (r := (.ifCond .eq 21, 3, 0, 0, 0)) rfl rfl
theorem s352_15 {d : Nat} {ls : mj_L} {st : List Value} {M : mj_H} : mj_Rn d mj_m352 15 ls st M = mq_k0 d mj_m352 16 ls M (mj_ldi (mj_lk ls 3) st) := mj_R0 (r := (.iload_n 3, 1, 0, 0, 0)) rfl rfl
theorem s352_16 {d : Nat} {ls : mj_L} {st : List Value} {M : mj_H} : mj_Rn d mj_m352 16 ls st M = mq_k2 d mj_m352 ls M (mj_br (.ifCond .lt 17) 16 st) := mj_R2 (r := (.ifCond .lt 17, 3, 0, 0, 0)) rfl rfl
theorem s352_19 {d : Nat} {ls : mj_L} {st : List Value} {M : mj_H} : mj_Rn d mj_m352 19 ls st M = mq_k0 d mj_m352 20 ls M (mj_ldi (mj_lk ls 3) st) := mj_R0 (r := (.iload_n 3, 1, 0, 0, 0)) rfl rfl
theorem s352_20 {d : Nat} {ls : mj_L} {st : List Value} {M : mj_H} : mj_Rn d mj_m352 20 ls st M = mj_Rn d mj_m352 22 ls (.int 12 :: st) M := mj_R0 (r := (.bipush 12, 2, 0, 0, 0)) rfl rfl
theorem s352_22 {d : Nat} {ls : mj_L} {st : List Value} {M : mj_H} : mj_Rn d mj_m352 22 ls st M = mq_k2 d mj_m352 ls M (mj_br (.if_icmp .gt 11) 22 st) := mj_R2 (r := (.if_icmp .gt 11, 3, 0, 0, 0)) rfl rfl
theorem s352_25 {d : Nat} {ls : mj_L} {st : List Value} {M : mj_H} : mj_Rn d mj_m352 25 ls st M = mq_k0 d mj_m352 26 ls M (mj_ldi (mj_lk ls 3) st) := mj_R0 (r := (.iload_n 3, 1, 0, 0, 0)) rfl rfl
theorem s352_26 {d : Nat} {ls : mj_L} {st : List Value} {M : mj_H} : mj_Rn d mj_m352 26 ls st M = mq_k0 d mj_m352 27 ls M (mj_lda (mj_lk ls 0) st) := mj_R0 (r := (.aload_n 0, 1, 0, 0, 0)) rfl rfl
theorem s352_27 {d : Nat} {ls : mj_L} {st : List Value} {M : mj_H} : mj_Rn d mj_m352 27 ls st M = mq_k0 d mj_m352 30 ls M (mq_gf 11 11 st M) := (mj_R3 (r := (.getfield 303, 3, 11, 11, 49618)) rfl rfl).trans (congrArg (mq_k0 d mj_m352 30 ls M) mq_gf_eq)
theorem s352_30 {d : Nat} {ls : mj_L} {st : List Value} {M : mj_H} : mj_Rn d mj_m352 30 ls st M = mq_k2 d mj_m352 ls M (mj_br (.if_icmp .le 5) 30 st) := mj_R2 (r := (.if_icmp .le 5, 3, 0, 0, 0)) rfl rfl
theorem s352_33 {d : Nat} {ls : mj_L} {st : List Value} {M : mj_H} : mj_Rn d mj_m352 33 ls st M = mj_Rn d mj_m352 34 ls (.int (-1) :: st) M := mj_R0 (r := (.iconst (-1), 1, 0, 0, 0)) rfl rfl
theorem s352_34 {d : Nat} {ls : mj_L} {st : List Value} {M : mj_H} : mj_Rn d mj_m352 34 ls st M = mq_k6 M (mj_re (some .int) (.ireturn) st) := mj_R6 (r := (.ireturn, 1, 0, 0, 0)) rfl rfl
theorem s352_35 {d : Nat} {ls : mj_L} {st : List Value} {M : mj_H} : mj_Rn d mj_m352 35 ls st M = mq_k0 d mj_m352 36 ls M (mj_lda (mj_lk ls 0) st) := mj_R0 (r := (.aload_n 0, 1, 0, 0, 0)) rfl rfl
theorem s352_36 {d : Nat} {ls : mj_L} {st : List Value} {M : mj_H} : mj_Rn d mj_m352 36 ls st M = mq_k0 d mj_m352 37 ls M (mj_ldi (mj_lk ls 1) st) := mj_R0 (r := (.iload_n 1, 1, 0, 0, 0)) rfl rfl
theorem s352_37 {d : Nat} {ls : mj_L} {st : List Value} {M : mj_H} : mj_Rn d mj_m352 37 ls st M = mq_k0 d mj_m352 38 ls M (mj_ldi (mj_lk ls 2) st) := mj_R0 (r := (.iload_n 2, 1, 0, 0, 0)) rfl rfl
theorem s352_38 {d : Nat} {ls : mj_L} {st : List Value} {M : mj_H} : mj_Rn (d + 1) mj_m352 38 ls st M = mq_k5a (d + 1) mj_m352 41 ls M 344 (mq_cb 0 2 11 st M) := mj_R5e (r := (.invokevirtual 604, 3, 0, 344, 37087)) (z := mj_m344) rfl rfl (by decide) (by decide) rfl
theorem s352_41 {d : Nat} {ls : mj_L} {st : List Value} {M : mj_H} : mj_Rn d mj_m352 41 ls st M = mq_k1 d mj_m352 43 M (mj_lo 8 (.istore 4) ls st) := mj_R1 (r := (.istore 4, 2, 0, 0, 0)) rfl rfl
theorem s352_43 {d : Nat} {ls : mj_L} {st : List Value} {M : mj_H} : mj_Rn d mj_m352 43 ls st M = mq_k0 d mj_m352 45 ls M (mj_ldi (mj_lk ls 4) st) := mj_R0 (r := (.iload 4, 2, 0, 0, 0)) rfl rfl
theorem s352_45 {d : Nat} {ls : mj_L} {st : List Value} {M : mj_H} : mj_Rn d mj_m352 45 ls st M = mq_k2 d mj_m352 ls M (mj_br (.ifCond .eq 6) 45 st) := mj_R2 (r := (.ifCond .eq 6, 3, 0, 0, 0)) rfl rfl
theorem s352_48 {d : Nat} {ls : mj_L} {st : List Value} {M : mj_H} : mj_Rn d mj_m352 48 ls st M = mq_k0 d mj_m352 50 ls M (mj_ldi (mj_lk ls 4) st) := mj_R0 (r := (.iload 4, 2, 0, 0, 0)) rfl rfl
theorem s352_50 {d : Nat} {ls : mj_L} {st : List Value} {M : mj_H} : mj_Rn d mj_m352 50 ls st M = mq_k6 M (mj_re (some .int) (.ireturn) st) := mj_R6 (r := (.ireturn, 1, 0, 0, 0)) rfl rfl
theorem s352_51 {d : Nat} {ls : mj_L} {st : List Value} {M : mj_H} : mj_Rn d mj_m352 51 ls st M = mq_k0 d mj_m352 52 ls M (mj_lda (mj_lk ls 0) st) := mj_R0 (r := (.aload_n 0, 1, 0, 0, 0)) rfl rfl
theorem s352_52 {d : Nat} {ls : mj_L} {st : List Value} {M : mj_H} : mj_Rn d mj_m352 52 ls st M = mq_k0 d mj_m352 53 ls M (mj_ldi (mj_lk ls 1) st) := mj_R0 (r := (.iload_n 1, 1, 0, 0, 0)) rfl rfl
theorem s352_53 {d : Nat} {ls : mj_L} {st : List Value} {M : mj_H} : mj_Rn d mj_m352 53 ls st M = mq_k0 d mj_m352 54 ls M (mj_lda (mj_lk ls 0) st) := mj_R0 (r := (.aload_n 0, 1, 0, 0, 0)) rfl rfl
theorem s352_54 {d : Nat} {ls : mj_L} {st : List Value} {M : mj_H} : mj_Rn d mj_m352 54 ls st M = mq_k0 d mj_m352 57 ls M (mq_gf 11 10 st M) := (mj_R3 (r := (.getfield 27, 3, 11, 10, 49616)) rfl rfl).trans (congrArg (mq_k0 d mj_m352 57 ls M) mq_gf_eq)
theorem s352_57 {d : Nat} {ls : mj_L} {st : List Value} {M : mj_H} : mj_Rn d mj_m352 57 ls st M = mj_Rn d mj_m352 58 ls (.int 0 :: st) M := mj_R0 (r := (.iconst 0, 1, 0, 0, 0)) rfl rfl
theorem s352_58 {d : Nat} {ls : mj_L} {st : List Value} {M : mj_H} : mj_Rn d mj_m352 58 ls st M = mq_k0 d mj_m352 59 ls M (mj_ldi (mj_lk ls 3) st) := mj_R0 (r := (.iload_n 3, 1, 0, 0, 0)) rfl rfl
theorem s352_59 {d : Nat} {ls : mj_L} {st : List Value} {M : mj_H} : mj_Rn (d + 1) mj_m352 59 ls st M = mq_k5a (d + 1) mj_m352 62 ls M 348 (mq_cb 0 4 11 st M) := mj_R5e (r := (.invokevirtual 606, 3, 0, 348, 40961)) (z := mj_m348) rfl rfl (by decide) (by decide) rfl
theorem s352_62 {d : Nat} {ls : mj_L} {st : List Value} {M : mj_H} : mj_Rn d mj_m352 62 ls st M = mq_k1 d mj_m352 64 M (mj_lo 8 (.istore 5) ls st) := mj_R1 (r := (.istore 5, 2, 0, 0, 0)) rfl rfl
theorem s352_64 {d : Nat} {ls : mj_L} {st : List Value} {M : mj_H} : mj_Rn d mj_m352 64 ls st M = mq_k0 d mj_m352 65 ls M (mj_lda (mj_lk ls 0) st) := mj_R0 (r := (.aload_n 0, 1, 0, 0, 0)) rfl rfl
theorem s352_65 {d : Nat} {ls : mj_L} {st : List Value} {M : mj_H} : mj_Rn d mj_m352 65 ls st M = mq_k0 d mj_m352 66 ls M (mj_ldi (mj_lk ls 1) st) := mj_R0 (r := (.iload_n 1, 1, 0, 0, 0)) rfl rfl
theorem s352_66 {d : Nat} {ls : mj_L} {st : List Value} {M : mj_H} : mj_Rn (d + 1) mj_m352 66 ls st M = mq_k5a (d + 1) mj_m352 69 ls M 353 (mq_cb 0 1 11 st M) := mj_R5e (r := (.invokevirtual 620, 3, 0, 353, 40981)) (z := mj_m353) rfl rfl (by decide) (by decide) rfl
theorem s352_69 {d : Nat} {ls : mj_L} {st : List Value} {M : mj_H} : mj_Rn d mj_m352 69 ls st M = mq_k1 d mj_m352 71 M (mj_lo 8 (.istore 6) ls st) := mj_R1 (r := (.istore 6, 2, 0, 0, 0)) rfl rfl
theorem s352_71 {d : Nat} {ls : mj_L} {st : List Value} {M : mj_H} : mj_Rn d mj_m352 71 ls st M = mq_k0 d mj_m352 72 ls M (mj_lda (mj_lk ls 0) st) := mj_R0 (r := (.aload_n 0, 1, 0, 0, 0)) rfl rfl
theorem s352_72 {d : Nat} {ls : mj_L} {st : List Value} {M : mj_H} : mj_Rn d mj_m352 72 ls st M = mq_k0 d mj_m352 73 ls M (mj_ldi (mj_lk ls 1) st) := mj_R0 (r := (.iload_n 1, 1, 0, 0, 0)) rfl rfl
theorem s352_73 {d : Nat} {ls : mj_L} {st : List Value} {M : mj_H} : mj_Rn d mj_m352 73 ls st M = mq_k0 d mj_m352 75 ls M (mj_ldi (mj_lk ls 5) st) := mj_R0 (r := (.iload 5, 2, 0, 0, 0)) rfl rfl
theorem s352_75 {d : Nat} {ls : mj_L} {st : List Value} {M : mj_H} : mj_Rn d mj_m352 75 ls st M = mq_k0 d mj_m352 77 ls M (mj_ldi (mj_lk ls 6) st) := mj_R0 (r := (.iload 6, 2, 0, 0, 0)) rfl rfl
theorem s352_77 {d : Nat} {ls : mj_L} {st : List Value} {M : mj_H} : mj_Rn (d + 1) mj_m352 77 ls st M = mq_k5a (d + 1) mj_m352 80 ls M 349 (mq_cb 0 3 11 st M) := mj_R5e (r := (.invokevirtual 610, 3, 0, 349, 40965)) (z := mj_m349) rfl rfl (by decide) (by decide) rfl
theorem s352_80 {d : Nat} {ls : mj_L} {st : List Value} {M : mj_H} : mj_Rn d mj_m352 80 ls st M = mq_k1 d mj_m352 82 M (mj_lo 8 (.istore 7) ls st) := mj_R1 (r := (.istore 7, 2, 0, 0, 0)) rfl rfl
theorem s352_82 {d : Nat} {ls : mj_L} {st : List Value} {M : mj_H} : mj_Rn d mj_m352 82 ls st M = mq_k0 d mj_m352 83 ls M (mj_lda (mj_lk ls 0) st) := mj_R0 (r := (.aload_n 0, 1, 0, 0, 0)) rfl rfl
theorem s352_83 {d : Nat} {ls : mj_L} {st : List Value} {M : mj_H} : mj_Rn d mj_m352 83 ls st M = mq_k0 d mj_m352 84 ls M (mj_ldi (mj_lk ls 1) st) := mj_R0 (r := (.iload_n 1, 1, 0, 0, 0)) rfl rfl
theorem s352_84 {d : Nat} {ls : mj_L} {st : List Value} {M : mj_H} : mj_Rn d mj_m352 84 ls st M = mj_Rn d mj_m352 86 ls (.int 6 :: st) M := mj_R0 (r := (.bipush 6, 2, 0, 0, 0)) rfl rfl
theorem s352_86 {d : Nat} {ls : mj_L} {st : List Value} {M : mj_H} : mj_Rn d mj_m352 86 ls st M = mj_Rn d mj_m352 87 ls (.int 4 :: st) M := mj_R0 (r := (.iconst 4, 1, 0, 0, 0)) rfl rfl
theorem s352_87 {d : Nat} {ls : mj_L} {st : List Value} {M : mj_H} : mj_Rn (d + 1) mj_m352 87 ls st M = mq_k5a (d + 1) mj_m352 90 ls M 350 (mq_cb 0 3 11 st M) := mj_R5e (r := (.invokevirtual 613, 3, 0, 350, 40969)) (z := mj_m350) rfl rfl (by decide) (by decide) rfl
theorem s352_90 {d : Nat} {ls : mj_L} {st : List Value} {M : mj_H} : mj_Rn d mj_m352 90 ls st M = mq_k0 d mj_m352 91 ls M (mj_lda (mj_lk ls 0) st) := mj_R0 (r := (.aload_n 0, 1, 0, 0, 0)) rfl rfl
theorem s352_91 {d : Nat} {ls : mj_L} {st : List Value} {M : mj_H} : mj_Rn d mj_m352 91 ls st M = mj_Rn d mj_m352 92 ls (.int 4 :: st) M := mj_R0 (r := (.iconst 4, 1, 0, 0, 0)) rfl rfl
theorem s352_92 {d : Nat} {ls : mj_L} {st : List Value} {M : mj_H} : mj_Rn d mj_m352 92 ls st M = mq_k0 d mj_m352 94 ls M (mj_ldi (mj_lk ls 7) st) := mj_R0 (r := (.iload 7, 2, 0, 0, 0)) rfl rfl
theorem s352_94 {d : Nat} {ls : mj_L} {st : List Value} {M : mj_H} : mj_Rn (d + 1) mj_m352 94 ls st M = mq_k5a (d + 1) mj_m352 97 ls M 351 (mq_cb 0 2 11 st M) := mj_R5e (r := (.invokevirtual 617, 3, 0, 351, 40973)) (z := mj_m351) rfl rfl (by decide) (by decide) rfl
theorem s352_97 {d : Nat} {ls : mj_L} {st : List Value} {M : mj_H} : mj_Rn d mj_m352 97 ls st M = mq_k0 d mj_m352 98 ls M (mj_lda (mj_lk ls 0) st) := mj_R0 (r := (.aload_n 0, 1, 0, 0, 0)) rfl rfl
theorem s352_98 {d : Nat} {ls : mj_L} {st : List Value} {M : mj_H} : mj_Rn d mj_m352 98 ls st M = mj_Rn d mj_m352 99 ls (.int 5 :: st) M := mj_R0 (r := (.iconst 5, 1, 0, 0, 0)) rfl rfl
theorem s352_99 {d : Nat} {ls : mj_L} {st : List Value} {M : mj_H} : mj_Rn d mj_m352 99 ls st M = mq_k0 d mj_m352 101 ls M (mj_ldi (mj_lk ls 5) st) := mj_R0 (r := (.iload 5, 2, 0, 0, 0)) rfl rfl
theorem s352_101 {d : Nat} {ls : mj_L} {st : List Value} {M : mj_H} : mj_Rn (d + 1) mj_m352 101 ls st M = mq_k5a (d + 1) mj_m352 104 ls M 351 (mq_cb 0 2 11 st M) := mj_R5e (r := (.invokevirtual 617, 3, 0, 351, 40973)) (z := mj_m351) rfl rfl (by decide) (by decide) rfl
theorem s352_104 {d : Nat} {ls : mj_L} {st : List Value} {M : mj_H} : mj_Rn d mj_m352 104 ls st M = mq_k0 d mj_m352 105 ls M (mj_lda (mj_lk ls 0) st) := mj_R0 (r := (.aload_n 0, 1, 0, 0, 0)) rfl rfl
theorem s352_105 {d : Nat} {ls : mj_L} {st : List Value} {M : mj_H} : mj_Rn d mj_m352 105 ls st M = mj_Rn d mj_m352 107 ls (.int 6 :: st) M := mj_R0 (r := (.bipush 6, 2, 0, 0, 0)) rfl rfl
theorem s352_107 {d : Nat} {ls : mj_L} {st : List Value} {M : mj_H} : mj_Rn d mj_m352 107 ls st M = mq_k0 d mj_m352 109 ls M (mj_ldi (mj_lk ls 6) st) := mj_R0 (r := (.iload 6, 2, 0, 0, 0)) rfl rfl
theorem s352_109 {d : Nat} {ls : mj_L} {st : List Value} {M : mj_H} : mj_Rn (d + 1) mj_m352 109 ls st M = mq_k5a (d + 1) mj_m352 112 ls M 351 (mq_cb 0 2 11 st M) := mj_R5e (r := (.invokevirtual 617, 3, 0, 351, 40973)) (z := mj_m351) rfl rfl (by decide) (by decide) rfl
theorem s352_112 {d : Nat} {ls : mj_L} {st : List Value} {M : mj_H} : mj_Rn d mj_m352 112 ls st M = mq_k0 d mj_m352 113 ls M (mj_lda (mj_lk ls 0) st) := mj_R0 (r := (.aload_n 0, 1, 0, 0, 0)) rfl rfl
theorem s352_113 {d : Nat} {ls : mj_L} {st : List Value} {M : mj_H} : mj_Rn d mj_m352 113 ls st M = mq_k0 d mj_m352 114 ls M (mj_ldi (mj_lk ls 2) st) := mj_R0 (r := (.iload_n 2, 1, 0, 0, 0)) rfl rfl
theorem s352_114 {d : Nat} {ls : mj_L} {st : List Value} {M : mj_H} : mj_Rn (d + 1) mj_m352 114 ls st M = mq_k5a (d + 1) mj_m352 117 ls M 346 (mq_cb 0 1 11 st M) := mj_R5e (r := (.invokevirtual 595, 3, 0, 346, 37096)) (z := mj_m346) rfl rfl (by decide) (by decide) rfl
theorem s352_117 {d : Nat} {ls : mj_L} {st : List Value} {M : mj_H} : mj_Rn d mj_m352 117 ls st M = mq_k6 M (mj_re (some .int) (.ireturn) st) := mj_R6 (r := (.ireturn, 1, 0, 0, 0)) rfl rfl
/- 354 PasskeyHouseModel.unlock(II)I -/
theorem s354_0 {d : Nat} {ls : mj_L} {st : List Value} {M : mj_H} : mj_Rn d mj_m354 0 ls st M = mq_k0 d mj_m354 1 ls M (mj_ldi (mj_lk ls 1) st) := mj_R0 (r := (.iload_n 1, 1, 0, 0, 0)) rfl rfl
theorem s354_1 {d : Nat} {ls : mj_L} {st : List Value} {M : mj_H} : mj_Rn (d + 1) mj_m354 1 ls st M = mq_k5a (d + 1) mj_m354 4 ls M 336 (mq_cb 2 1 11 st M) := mj_R5e (r := (.invokestatic 587, 3, 2, 336, 37056)) (z := mj_m336) rfl rfl (by decide) (by decide) rfl
theorem s354_4 {d : Nat} {ls : mj_L} {st : List Value} {M : mj_H} : mj_Rn d mj_m354 4 ls st M = mq_k2 d mj_m354 ls M (mj_br (.ifCond .eq 11) 4 st) := mj_R2 (r := (.ifCond .eq 11, 3, 0, 0, 0)) rfl rfl
theorem s354_7 {d : Nat} {ls : mj_L} {st : List Value} {M : mj_H} : mj_Rn d mj_m354 7 ls st M = mq_k0 d mj_m354 8 ls M (mj_lda (mj_lk ls 0) st) := mj_R0 (r := (.aload_n 0, 1, 0, 0, 0)) rfl rfl
theorem s354_8 {d : Nat} {ls : mj_L} {st : List Value} {M : mj_H} : mj_Rn d mj_m354 8 ls st M = mq_k0 d mj_m354 9 ls M (mj_ldi (mj_lk ls 2) st) := mj_R0 (r := (.iload_n 2, 1, 0, 0, 0)) rfl rfl
theorem s354_9 {d : Nat} {ls : mj_L} {st : List Value} {M : mj_H} : mj_Rn (d + 1) mj_m354 9 ls st M = mq_k5a (d + 1) mj_m354 12 ls M 271 (mq_cb 0 1 11 st M) := mj_R5e (r := (.invokevirtual 578, 3, 0, 271, 32935)) (z := mj_m271) rfl rfl (by decide) (by decide) rfl
theorem s354_12 {d : Nat} {ls : mj_L} {st : List Value} {M : mj_H} : mj_Rn d mj_m354 12 ls st M = mq_k2 d mj_m354 ls M (mj_br (.ifCond .ne 5) 12 st) := mj_R2 (r := (.ifCond .ne 5, 3, 0, 0, 0)) rfl rfl
theorem s354_15 {d : Nat} {ls : mj_L} {st : List Value} {M : mj_H} : mj_Rn d mj_m354 15 ls st M = mj_Rn d mj_m354 16 ls (.int (-1) :: st) M := mj_R0 (r := (.iconst (-1), 1, 0, 0, 0)) rfl rfl
theorem s354_16 {d : Nat} {ls : mj_L} {st : List Value} {M : mj_H} : mj_Rn d mj_m354 16 ls st M = mq_k6 M (mj_re (some .int) (.ireturn) st) := mj_R6 (r := (.ireturn, 1, 0, 0, 0)) rfl rfl
theorem s354_17 {d : Nat} {ls : mj_L} {st : List Value} {M : mj_H} : mj_Rn d mj_m354 17 ls st M = mq_k0 d mj_m354 18 ls M (mj_lda (mj_lk ls 0) st) := mj_R0 (r := (.aload_n 0, 1, 0, 0, 0)) rfl rfl
theorem s354_18 {d : Nat} {ls : mj_L} {st : List Value} {M : mj_H} : mj_Rn d mj_m354 18 ls st M = mq_k0 d mj_m354 19 ls M (mj_ldi (mj_lk ls 1) st) := mj_R0 (r := (.iload_n 1, 1, 0, 0, 0)) rfl rfl
theorem s354_19 {d : Nat} {ls : mj_L} {st : List Value} {M : mj_H} : mj_Rn d mj_m354 19 ls st M = mq_k0 d mj_m354 20 ls M (mj_ldi (mj_lk ls 2) st) := mj_R0 (r := (.iload_n 2, 1, 0, 0, 0)) rfl rfl
theorem s354_20 {d : Nat} {ls : mj_L} {st : List Value} {M : mj_H} : mj_Rn (d + 1) mj_m354 20 ls st M = mq_k5a (d + 1) mj_m354 23 ls M 344 (mq_cb 0 2 11 st M) := mj_R5e (r := (.invokevirtual 604, 3, 0, 344, 37087)) (z := mj_m344) rfl rfl (by decide) (by decide) rfl
theorem s354_23 {d : Nat} {ls : mj_L} {st : List Value} {M : mj_H} : mj_Rn d mj_m354 23 ls st M = mq_k1 d mj_m354 24 M (mj_lo 5 (.istore 3) ls st) := (mj_R1 (r := (.istore_n 3, 1, 0, 0, 0)) rfl rfl).trans (congrArg (mq_k1 d mj_m354 24 M) (mq_sti (k := 3)))
theorem s354_24 {d : Nat} {ls : mj_L} {st : List Value} {M : mj_H} : mj_Rn d mj_m354 24 ls st M = mq_k0 d mj_m354 25 ls M (mj_ldi (mj_lk ls 3) st) := mj_R0 (r := (.iload_n 3, 1, 0, 0, 0)) rfl rfl
theorem s354_25 {d : Nat} {ls : mj_L} {st : List Value} {M : mj_H} : mj_Rn d mj_m354 25 ls st M = mq_k2 d mj_m354 ls M (mj_br (.ifCond .eq 5) 25 st) := mj_R2 (r := (.ifCond .eq 5, 3, 0, 0, 0)) rfl rfl
theorem s354_28 {d : Nat} {ls : mj_L} {st : List Value} {M : mj_H} : mj_Rn d mj_m354 28 ls st M = mq_k0 d mj_m354 29 ls M (mj_ldi (mj_lk ls 3) st) := mj_R0 (r := (.iload_n 3, 1, 0, 0, 0)) rfl rfl
theorem s354_29 {d : Nat} {ls : mj_L} {st : List Value} {M : mj_H} : mj_Rn d mj_m354 29 ls st M = mq_k6 M (mj_re (some .int) (.ireturn) st) := mj_R6 (r := (.ireturn, 1, 0, 0, 0)) rfl rfl
theorem s354_30 {d : Nat} {ls : mj_L} {st : List Value} {M : mj_H} : mj_Rn d mj_m354 30 ls st M = mq_k0 d mj_m354 31 ls M (mj_lda (mj_lk ls 0) st) := mj_R0 (r := (.aload_n 0, 1, 0, 0, 0)) rfl rfl
theorem s354_31 {d : Nat} {ls : mj_L} {st : List Value} {M : mj_H} : mj_Rn d mj_m354 31 ls st M = mq_k0 d mj_m354 32 ls M (mj_ldi (mj_lk ls 1) st) := mj_R0 (r := (.iload_n 1, 1, 0, 0, 0)) rfl rfl
theorem s354_32 {d : Nat} {ls : mj_L} {st : List Value} {M : mj_H} : mj_Rn (d + 1) mj_m354 32 ls st M = mq_k5a (d + 1) mj_m354 35 ls M 353 (mq_cb 0 1 11 st M) := mj_R5e (r := (.invokevirtual 620, 3, 0, 353, 40981)) (z := mj_m353) rfl rfl (by decide) (by decide) rfl
theorem s354_35 {d : Nat} {ls : mj_L} {st : List Value} {M : mj_H} : mj_Rn d mj_m354 35 ls st M = mq_k1 d mj_m354 37 M (mj_lo 5 (.istore 4) ls st) := mj_R1 (r := (.istore 4, 2, 0, 0, 0)) rfl rfl
theorem s354_37 {d : Nat} {ls : mj_L} {st : List Value} {M : mj_H} : mj_Rn d mj_m354 37 ls st M = mq_k0 d mj_m354 38 ls M (mj_lda (mj_lk ls 0) st) := mj_R0 (r := (.aload_n 0, 1, 0, 0, 0)) rfl rfl
theorem s354_38 {d : Nat} {ls : mj_L} {st : List Value} {M : mj_H} : mj_Rn d mj_m354 38 ls st M = mq_k0 d mj_m354 39 ls M (mj_ldi (mj_lk ls 1) st) := mj_R0 (r := (.iload_n 1, 1, 0, 0, 0)) rfl rfl
theorem s354_39 {d : Nat} {ls : mj_L} {st : List Value} {M : mj_H} : mj_Rn d mj_m354 39 ls st M = mj_Rn d mj_m354 40 ls (.int 4 :: st) M := mj_R0 (r := (.iconst 4, 1, 0, 0, 0)) rfl rfl
theorem s354_40 {d : Nat} {ls : mj_L} {st : List Value} {M : mj_H} : mj_Rn d mj_m354 40 ls st M = mj_Rn d mj_m354 41 ls (.int 5 :: st) M := mj_R0 (r := (.iconst 5, 1, 0, 0, 0)) rfl rfl
theorem s354_41 {d : Nat} {ls : mj_L} {st : List Value} {M : mj_H} : mj_Rn (d + 1) mj_m354 41 ls st M = mq_k5a (d + 1) mj_m354 44 ls M 350 (mq_cb 0 3 11 st M) := mj_R5e (r := (.invokevirtual 613, 3, 0, 350, 40969)) (z := mj_m350) rfl rfl (by decide) (by decide) rfl
theorem s354_44 {d : Nat} {ls : mj_L} {st : List Value} {M : mj_H} : mj_Rn d mj_m354 44 ls st M = mq_k0 d mj_m354 45 ls M (mj_lda (mj_lk ls 0) st) := mj_R0 (r := (.aload_n 0, 1, 0, 0, 0)) rfl rfl
theorem s354_45 {d : Nat} {ls : mj_L} {st : List Value} {M : mj_H} : mj_Rn d mj_m354 45 ls st M = mj_Rn d mj_m354 47 ls (.int 6 :: st) M := mj_R0 (r := (.bipush 6, 2, 0, 0, 0)) rfl rfl
theorem s354_47 {d : Nat} {ls : mj_L} {st : List Value} {M : mj_H} : mj_Rn d mj_m354 47 ls st M = mq_k0 d mj_m354 49 ls M (mj_ldi (mj_lk ls 4) st) := mj_R0 (r := (.iload 4, 2, 0, 0, 0)) rfl rfl
theorem s354_49 {d : Nat} {ls : mj_L} {st : List Value} {M : mj_H} : mj_Rn (d + 1) mj_m354 49 ls st M = mq_k5a (d + 1) mj_m354 52 ls M 351 (mq_cb 0 2 11 st M) := mj_R5e (r := (.invokevirtual 617, 3, 0, 351, 40973)) (z := mj_m351) rfl rfl (by decide) (by decide) rfl
theorem s354_52 {d : Nat} {ls : mj_L} {st : List Value} {M : mj_H} : mj_Rn d mj_m354 52 ls st M = mq_k0 d mj_m354 53 ls M (mj_lda (mj_lk ls 0) st) := mj_R0 (r := (.aload_n 0, 1, 0, 0, 0)) rfl rfl
theorem s354_53 {d : Nat} {ls : mj_L} {st : List Value} {M : mj_H} : mj_Rn d mj_m354 53 ls st M = mq_k0 d mj_m354 54 ls M (mj_ldi (mj_lk ls 2) st) := mj_R0 (r := (.iload_n 2, 1, 0, 0, 0)) rfl rfl
theorem s354_54 {d : Nat} {ls : mj_L} {st : List Value} {M : mj_H} : mj_Rn (d + 1) mj_m354 54 ls st M = mq_k5a (d + 1) mj_m354 57 ls M 346 (mq_cb 0 1 11 st M) := mj_R5e (r := (.invokevirtual 595, 3, 0, 346, 37096)) (z := mj_m346) rfl rfl (by decide) (by decide) rfl
theorem s354_57 {d : Nat} {ls : mj_L} {st : List Value} {M : mj_H} : mj_Rn d mj_m354 57 ls st M = mq_k1 d mj_m354 58 M (mj_lo 5 (.istore 3) ls st) := (mj_R1 (r := (.istore_n 3, 1, 0, 0, 0)) rfl rfl).trans (congrArg (mq_k1 d mj_m354 58 M) (mq_sti (k := 3)))
theorem s354_58 {d : Nat} {ls : mj_L} {st : List Value} {M : mj_H} : mj_Rn d mj_m354 58 ls st M = mq_k0 d mj_m354 59 ls M (mj_ldi (mj_lk ls 3) st) := mj_R0 (r := (.iload_n 3, 1, 0, 0, 0)) rfl rfl
theorem s354_59 {d : Nat} {ls : mj_L} {st : List Value} {M : mj_H} : mj_Rn d mj_m354 59 ls st M = mq_k2 d mj_m354 ls M (mj_br (.ifCond .ne 20) 59 st) := mj_R2 (r := (.ifCond .ne 20, 3, 0, 0, 0)) rfl rfl
theorem s354_62 {d : Nat} {ls : mj_L} {st : List Value} {M : mj_H} : mj_Rn d mj_m354 62 ls st M = mq_k0 d mj_m354 63 ls M (mj_lda (mj_lk ls 0) st) := mj_R0 (r := (.aload_n 0, 1, 0, 0, 0)) rfl rfl
theorem s354_63 {d : Nat} {ls : mj_L} {st : List Value} {M : mj_H} : mj_Rn d mj_m354 63 ls st M = mq_k0 d mj_m354 66 ls M (mq_gf 11 63 st M) := (mj_R3 (r := (.getfield 173, 3, 11, 63, 57434)) rfl rfl).trans (congrArg (mq_k0 d mj_m354 66 ls M) mq_gf_eq)
theorem s354_66 {d : Nat} {ls : mj_L} {st : List Value} {M : mj_H} : mj_Rn d mj_m354 66 ls st M = mq_k0 d mj_m354 67 ls M (mj_ldi (mj_lk ls 1) st) := mj_R0 (r := (.iload_n 1, 1, 0, 0, 0)) rfl rfl
theorem s354_67 {d : Nat} {ls : mj_L} {st : List Value} {M : mj_H} : mj_Rn d mj_m354 67 ls st M = mq_k0 d mj_m354 68 ls M (mj_lda (mj_lk ls 0) st) := mj_R0 (r := (.aload_n 0, 1, 0, 0, 0)) rfl rfl
theorem s354_68 {d : Nat} {ls : mj_L} {st : List Value} {M : mj_H} : mj_Rn d mj_m354 68 ls st M = mq_k0 d mj_m354 69 ls M (mj_lda (mj_lk ls 0) st) := mj_R0 (r := (.aload_n 0, 1, 0, 0, 0)) rfl rfl
theorem s354_69 {d : Nat} {ls : mj_L} {st : List Value} {M : mj_H} : mj_Rn d mj_m354 69 ls st M = mq_k0 d mj_m354 70 ls M (mj_ldi (mj_lk ls 2) st) := mj_R0 (r := (.iload_n 2, 1, 0, 0, 0)) rfl rfl
theorem s354_70 {d : Nat} {ls : mj_L} {st : List Value} {M : mj_H} : mj_Rn d mj_m354 70 ls st M = mj_Rn d mj_m354 71 ls (.int 4 :: st) M := mj_R0 (r := (.iconst 4, 1, 0, 0, 0)) rfl rfl
theorem s354_71 {d : Nat} {ls : mj_L} {st : List Value} {M : mj_H} : mj_Rn (d + 1) mj_m354 71 ls st M = mq_k5a (d + 1) mj_m354 74 ls M 347 (mq_cb 0 2 11 st M) := mj_R5e (r := (.invokevirtual 598, 3, 0, 347, 37100)) (z := mj_m347) rfl rfl (by decide) (by decide) rfl
theorem s354_74 {d : Nat} {ls : mj_L} {st : List Value} {M : mj_H} : mj_Rn d mj_m354 74 ls st M = mj_Rn d mj_m354 75 ls (.int 2 :: st) M := mj_R0 (r := (.iconst 2, 1, 0, 0, 0)) rfl rfl
theorem s354_75 {d : Nat} {ls : mj_L} {st : List Value} {M : mj_H} : mj_Rn (d + 1) mj_m354 75 ls st M = mq_k5a (d + 1) mj_m354 78 ls M 234 (mq_cb 0 2 11 st M) := mj_R5e (r := (.invokevirtual 300, 3, 0, 234, 32791)) (z := mj_m234) rfl rfl (by decide) (by decide) rfl
theorem s354_78 {d : Nat} {ls : mj_L} {st : List Value} {M : mj_H} : mj_Rn d mj_m354 78 ls st M = mq_k4 d mj_m354 79 ls (mj_hw (.iastore, 1, 0, 0, 0) st M) := mj_R4 (r := (.iastore, 1, 0, 0, 0)) rfl rfl
theorem s354_79 {d : Nat} {ls : mj_L} {st : List Value} {M : mj_H} : mj_Rn d mj_m354 79 ls st M = mq_k0 d mj_m354 80 ls M (mj_ldi (mj_lk ls 3) st) := mj_R0 (r := (.iload_n 3, 1, 0, 0, 0)) rfl rfl
theorem s354_80 {d : Nat} {ls : mj_L} {st : List Value} {M : mj_H} : mj_Rn d mj_m354 80 ls st M = mq_k6 M (mj_re (some .int) (.ireturn) st) := mj_R6 (r := (.ireturn, 1, 0, 0, 0)) rfl rfl
theorem c352 {d : Nat} {a0 : Nat} {x1 : Int32} {x2 : Int32} {x3 : Int32} {M : mj_H} : mj_V (d + 1) 352 [.ref a0, .int x1, .int x2, .int x3] M = mj_Rn d mj_m352 0 [(0, .ref a0), (1, .int x1), (2, .int x2), (3, .int x3)] [] M := mj_V_go rfl (Nat.le_of_ble_eq_true rfl)
theorem c354 {d : Nat} {a0 : Nat} {x1 : Int32} {x2 : Int32} {M : mj_H} : mj_V (d + 1) 354 [.ref a0, .int x1, .int x2] M = mj_Rn d mj_m354 0 [(0, .ref a0), (1, .int x1), (2, .int x2)] [] M := mj_V_go rfl (Nat.le_of_ble_eq_true rfl)
def cpI (h : Hd) (k : Ky) (T : Tm) (own : Int32) (b : List Int32) (g : Nat) : Prop := ((k.1.1.1.1.2.1 = true → kI k (g + 3)) ∧ k.2.1.2.2 ≤ 8) ∧ (T.1.length + 10 < 1000) ∧ (cp_o h T b ≠ 0) ∧ (nI (tm_no (tm_mk (cp_T h T b) (mac_row h (b4 (cp_e h T b) ++ b4 (cp_o h T b)))) [2, h.2.2.1]) = own ∧ tm_mk (tm_mk (cp_T h T b) (mac_row h (b4 (cp_e h T b) ++ b4 (cp_o h T b)))) [2, h.2.2.1] = tm_mk (cp_T h T b) (mac_row h (b4 (cp_e h T b) ++ b4 (cp_o h T b)))) ∧ (tk8 (tm_mk (cp_T h T b) (mac_row h (b4 (cp_e h T b) ++ b4 (cp_o h T b))))) ∧ (tk9 (tm_mk (cp_T h T b) (mac_row h (b4 (cp_e h T b) ++ b4 (cp_o h T b))))) ∧ ((cp_2 h k T own b).2.1.1.1.1.1.1.length = 512)
theorem cpI.i {h : Hd} {k : Ky} {T : Tm} {own : Int32} {b : List Int32} {g : Nat} (hh_ : cpI h k T own b g) : (k.1.1.1.1.2.1 = true → kI k (g + 3)) ∧ k.2.1.2.2 ≤ 8 := hh_.1
theorem cpI.tn {h : Hd} {k : Ky} {T : Tm} {own : Int32} {b : List Int32} {g : Nat} (hh_ : cpI h k T own b g) : T.1.length + 10 < 1000 := hh_.2.1
theorem cpI.on {h : Hd} {k : Ky} {T : Tm} {own : Int32} {b : List Int32} {g : Nat} (hh_ : cpI h k T own b g) : cp_o h T b ≠ 0 := hh_.2.2.1
theorem cpI.ow {h : Hd} {k : Ky} {T : Tm} {own : Int32} {b : List Int32} {g : Nat} (hh_ : cpI h k T own b g) : nI (tm_no (tm_mk (cp_T h T b) (mac_row h (b4 (cp_e h T b) ++ b4 (cp_o h T b)))) [2, h.2.2.1]) = own ∧ tm_mk (tm_mk (cp_T h T b) (mac_row h (b4 (cp_e h T b) ++ b4 (cp_o h T b)))) [2, h.2.2.1] = tm_mk (cp_T h T b) (mac_row h (b4 (cp_e h T b) ++ b4 (cp_o h T b))) := hh_.2.2.2.1
theorem cpI.t8 {h : Hd} {k : Ky} {T : Tm} {own : Int32} {b : List Int32} {g : Nat} (hh_ : cpI h k T own b g) : tk8 (tm_mk (cp_T h T b) (mac_row h (b4 (cp_e h T b) ++ b4 (cp_o h T b)))) := hh_.2.2.2.2.1
theorem cpI.t9 {h : Hd} {k : Ky} {T : Tm} {own : Int32} {b : List Int32} {g : Nat} (hh_ : cpI h k T own b g) : tk9 (tm_mk (cp_T h T b) (mac_row h (b4 (cp_e h T b) ++ b4 (cp_o h T b)))) := hh_.2.2.2.2.2.1
theorem cpI.fl {h : Hd} {k : Ky} {T : Tm} {own : Int32} {b : List Int32} {g : Nat} (hh_ : cpI h k T own b g) : (cp_2 h k T own b).2.1.1.1.1.1.1.length = 512 := hh_.2.2.2.2.2.2
theorem cpI_mk_ {h : Hd} {k : Ky} {T : Tm} {own : Int32} {b : List Int32} {g : Nat} (f_0_ : (k.1.1.1.1.2.1 = true → kI k (g + 3)) ∧ k.2.1.2.2 ≤ 8) (f_1_ : T.1.length + 10 < 1000) (f_2_ : cp_o h T b ≠ 0) (f_3_ : nI (tm_no (tm_mk (cp_T h T b) (mac_row h (b4 (cp_e h T b) ++ b4 (cp_o h T b)))) [2, h.2.2.1]) = own ∧ tm_mk (tm_mk (cp_T h T b) (mac_row h (b4 (cp_e h T b) ++ b4 (cp_o h T b)))) [2, h.2.2.1] = tm_mk (cp_T h T b) (mac_row h (b4 (cp_e h T b) ++ b4 (cp_o h T b)))) (f_4_ : tk8 (tm_mk (cp_T h T b) (mac_row h (b4 (cp_e h T b) ++ b4 (cp_o h T b))))) (f_5_ : tk9 (tm_mk (cp_T h T b) (mac_row h (b4 (cp_e h T b) ++ b4 (cp_o h T b))))) (f_6_ : (cp_2 h k T own b).2.1.1.1.1.1.1.length = 512) : cpI h k T own b g := And.intro f_0_ (And.intro f_1_ (And.intro f_2_ (And.intro f_3_ (And.intro f_4_ (And.intro f_5_ f_6_)))))
def ulI (h : Hd) (k : Ky) (T : Tm) (own : Int32) (g : Nat) : Prop := ((k.1.1.1.1.2.1 = true → kI k (g + 3)) ∧ k.2.1.2.2 ≤ 8) ∧ (T.1.length + 10 < 1000) ∧ (nI (tm_no (eh_T h T) [2, h.2.2.1]) = own ∧ tm_mk (eh_T h T) [2, h.2.2.1] = eh_T h T) ∧ (tk8 (eh_T h T)) ∧ (tk9 (eh_T h T)) ∧ ((ul_2 h k T own).2.1.1.1.1.1.1.length = 512) ∧ (tk8 (ul_2 h k T own).2.2) ∧ ((ul_2 h k T own).1 = 0 → tok_ok h (ul_2 h k T own).2.2 (w4a (ul_2 h k T own).2.1.1.1.1.2 4) ∧ 8 ≤ (ul_2 h k T own).2.1.1.1.1.2.length ∧ ∀ v ∈ (ul_2 h k T own).2.1.1.1.1.2, v &&& 255 = v)
theorem ulI.i {h : Hd} {k : Ky} {T : Tm} {own : Int32} {g : Nat} (hh_ : ulI h k T own g) : (k.1.1.1.1.2.1 = true → kI k (g + 3)) ∧ k.2.1.2.2 ≤ 8 := hh_.1
theorem ulI.tn {h : Hd} {k : Ky} {T : Tm} {own : Int32} {g : Nat} (hh_ : ulI h k T own g) : T.1.length + 10 < 1000 := hh_.2.1
theorem ulI.ow {h : Hd} {k : Ky} {T : Tm} {own : Int32} {g : Nat} (hh_ : ulI h k T own g) : nI (tm_no (eh_T h T) [2, h.2.2.1]) = own ∧ tm_mk (eh_T h T) [2, h.2.2.1] = eh_T h T := hh_.2.2.1
theorem ulI.t8 {h : Hd} {k : Ky} {T : Tm} {own : Int32} {g : Nat} (hh_ : ulI h k T own g) : tk8 (eh_T h T) := hh_.2.2.2.1
theorem ulI.t9 {h : Hd} {k : Ky} {T : Tm} {own : Int32} {g : Nat} (hh_ : ulI h k T own g) : tk9 (eh_T h T) := hh_.2.2.2.2.1
theorem ulI.fl {h : Hd} {k : Ky} {T : Tm} {own : Int32} {g : Nat} (hh_ : ulI h k T own g) : (ul_2 h k T own).2.1.1.1.1.1.1.length = 512 := hh_.2.2.2.2.2.1
theorem ulI.r8 {h : Hd} {k : Ky} {T : Tm} {own : Int32} {g : Nat} (hh_ : ulI h k T own g) : tk8 (ul_2 h k T own).2.2 := hh_.2.2.2.2.2.2.1
theorem ulI.ok {h : Hd} {k : Ky} {T : Tm} {own : Int32} {g : Nat} (hh_ : ulI h k T own g) : (ul_2 h k T own).1 = 0 → tok_ok h (ul_2 h k T own).2.2 (w4a (ul_2 h k T own).2.1.1.1.1.2 4) ∧ 8 ≤ (ul_2 h k T own).2.1.1.1.1.2.length ∧ ∀ v ∈ (ul_2 h k T own).2.1.1.1.1.2, v &&& 255 = v := hh_.2.2.2.2.2.2.2
theorem ulI_mk_ {h : Hd} {k : Ky} {T : Tm} {own : Int32} {g : Nat} (f_0_ : (k.1.1.1.1.2.1 = true → kI k (g + 3)) ∧ k.2.1.2.2 ≤ 8) (f_1_ : T.1.length + 10 < 1000) (f_2_ : nI (tm_no (eh_T h T) [2, h.2.2.1]) = own ∧ tm_mk (eh_T h T) [2, h.2.2.1] = eh_T h T) (f_3_ : tk8 (eh_T h T)) (f_4_ : tk9 (eh_T h T)) (f_5_ : (ul_2 h k T own).2.1.1.1.1.1.1.length = 512) (f_6_ : tk8 (ul_2 h k T own).2.2) (f_7_ : (ul_2 h k T own).1 = 0 → tok_ok h (ul_2 h k T own).2.2 (w4a (ul_2 h k T own).2.1.1.1.1.2 4) ∧ 8 ≤ (ul_2 h k T own).2.1.1.1.1.2.length ∧ ∀ v ∈ (ul_2 h k T own).2.1.1.1.1.2, v &&& 255 = v) : ulI h k T own g := And.intro f_0_ (And.intro f_1_ (And.intro f_2_ (And.intro f_3_ (And.intro f_4_ (And.intro f_5_ (And.intro f_6_ f_7_))))))
section
variable {d g : Nat} {B : Bs} {x : Fx} {y : Sy} {H : Ho} {a b : Nat} {h : Hd} {k : Ky}
theorem eh_len (q : Hd) (T : Tm) : (eh_T q T).1.length ≤ T.1.length + 2 := by
  unfold eh_T
  have h1 := tm_mk_len T (7 :: q.1)
  have h2 := tm_mk_len (tm_mk T (7 :: q.1)) (enc_row q (b4 (nI (tm_no T (7 :: q.1)))))
  omega
theorem o_changePin (z : mz x y H) (i l n : Int32) (I : ∀ k ∈ H.2.2.1, agI k H.2.1 g) (J : ∀ h ∈ H.2.2.2.1, ∀ k ∈ H.2.2.1, (ag_k h k H.2.1).1 = 0 → ∀ c, c ≤ 12 → cpI (ag_h h k H.2.1) (ag_k h k H.2.1).2.1 (ag_T h k H.2.1) (own_n H.2.1) (H.1.take c) g) : oR (d + 13) 352 [.ref 67, .int i, .int l, .int n] B x y (ho_changePin H i l n) := by
  have rh := q_isHand (d := d + 11) (M := mm B x y) i
  have rk := q_isKey (d := d + 11) (B := B) (y := y) z.k.n z.k.n3 l
  have hle := z.t.1.le
  have hsz := z.t.2
  unfold ho_changePin
  cases hi : ix i 4 with
  | none =>
    rw [hi] at rh
    simp only [on1, Option.isSome_none, Bool.false_eq_true, if_false] at rh
    dsimp only
    refine ⟨x, y, ?_, z⟩
    simp (disch := (first | omega | decide)) [S_cb_mmade4_0, S_bx_mcan1_0, S_b8_mkey_1, S_b8_mkey_0, S_b1_mterm_0, S_b1_copy_0, S_b0_mod_7, S_b0_mod_6, S_b0_mod_5, S_b0_mod_3, S_b0_mod_2, S_b0_mod_1, S_b0_mod_0, S_cb_mmade4_1h, S_bx_mcan1_1h, S_b0_mod_4h, c352, s352_0, s352_1, s352_4, s352_7, s352_8, s352_9, s352_12, s352_15, s352_16, s352_19, s352_20, s352_22, s352_25, s352_26, s352_27, s352_30, s352_33, s352_34, s352_35, s352_36, s352_37, s352_38, s352_41, s352_43, s352_45, s352_48, s352_50, s352_51, s352_52, s352_53, s352_54, s352_57, s352_58, s352_59, s352_62, s352_64, s352_65, s352_66, s352_69, s352_71, s352_72, s352_73, s352_75, s352_77, s352_80, s352_82, s352_83, s352_84, s352_86, s352_87, s352_90, s352_91, s352_92, s352_94, s352_97, s352_98, s352_99, s352_101, s352_104, s352_105, s352_107, s352_109, s352_112, s352_113, s352_114, s352_117, mq_k0s, mq_k1s, mq_k2s, mq_k4s, mq_k5s, mq_k5n, mq_k5as, mq_k6s, mj_pu, mj_lo, mj_br, mj_hr, mj_hw, mq_gf, mq_len, mq_al, mq_pf, mq_ok, mj_re, mq_lkm, mq_lkn, mj_ldi, mj_ldl, mj_lda, mj_ii, mj_ll, mj_li, mj_i1, ms_1, ms_2, f1_n, f1_i, f1_r, f1_u, f1_l, f2_n, f2_i, f2_r, f2_u, f2_l, mj_tg, mj_c1, mj_c2, mj_ar, mj_aw, mq_cb, mq_oi, mj_rm, Value.category, -getElem?_pos, List.getElem?_cons_zero, decide_eq_true, decide_eq_false, nl_lt, nl_le, ln_lt, ln_le, nl_eq, ln_eq, nl_add, ln_add, nl_sub, ln_mul, nI_sub, nI_mul, nI_add, nI_lt_iff, nI_le_iff, nI_inj, nI_num, mq_ix, nI_1, nl_mul, nl_div, rh, narrow]
  | some a =>
    rw [hi] at rh
    simp only [on1, Option.isSome_some, if_true] at rh
    cases hl : ix l H.2.2.1.length with
    | none =>
      rw [hl] at rk
      simp only [on1, Option.isSome_none, Bool.false_eq_true, if_false] at rk
      dsimp only
      refine ⟨x, y, ?_, z⟩
      simp (disch := (first | omega | decide)) [S_cb_mmade4_0, S_bx_mcan1_0, S_b8_mkey_1, S_b8_mkey_0, S_b1_mterm_0, S_b1_copy_0, S_b0_mod_7, S_b0_mod_6, S_b0_mod_5, S_b0_mod_3, S_b0_mod_2, S_b0_mod_1, S_b0_mod_0, S_cb_mmade4_1h, S_bx_mcan1_1h, S_b0_mod_4h, c352, s352_0, s352_1, s352_4, s352_7, s352_8, s352_9, s352_12, s352_15, s352_16, s352_19, s352_20, s352_22, s352_25, s352_26, s352_27, s352_30, s352_33, s352_34, s352_35, s352_36, s352_37, s352_38, s352_41, s352_43, s352_45, s352_48, s352_50, s352_51, s352_52, s352_53, s352_54, s352_57, s352_58, s352_59, s352_62, s352_64, s352_65, s352_66, s352_69, s352_71, s352_72, s352_73, s352_75, s352_77, s352_80, s352_82, s352_83, s352_84, s352_86, s352_87, s352_90, s352_91, s352_92, s352_94, s352_97, s352_98, s352_99, s352_101, s352_104, s352_105, s352_107, s352_109, s352_112, s352_113, s352_114, s352_117, mq_k0s, mq_k1s, mq_k2s, mq_k4s, mq_k5s, mq_k5n, mq_k5as, mq_k6s, mj_pu, mj_lo, mj_br, mj_hr, mj_hw, mq_gf, mq_len, mq_al, mq_pf, mq_ok, mj_re, mq_lkm, mq_lkn, mj_ldi, mj_ldl, mj_lda, mj_ii, mj_ll, mj_li, mj_i1, ms_1, ms_2, f1_n, f1_i, f1_r, f1_u, f1_l, f2_n, f2_i, f2_r, f2_u, f2_l, mj_tg, mj_c1, mj_c2, mj_ar, mj_aw, mq_cb, mq_oi, mj_rm, Value.category, -getElem?_pos, List.getElem?_cons_zero, decide_eq_true, decide_eq_false, nl_lt, nl_le, ln_lt, ln_le, nl_eq, ln_eq, nl_add, ln_add, nl_sub, ln_mul, nI_sub, nI_mul, nI_add, nI_lt_iff, nI_le_iff, nI_inj, nI_num, mq_ix, nI_1, nl_mul, nl_div, rh, rk, narrow]
    | some b =>
      rw [hl] at rk
      simp only [on1, Option.isSome_some, if_true] at rk
      obtain ⟨h, hh, rfl, ha, hm⟩ := hand_at z hi
      obtain ⟨k, hk, rfl⟩ := key_at hl
      dsimp only
      rw [hh, hk]
      dsimp only
      have hmk := List.mem_of_getElem? hk
      have hmh := List.mem_of_getElem? hh
      by_cases c : inR n 0 12 = true
      · obtain ⟨m, rfl, -, hm12, hcl⟩ := inR_nI (a := 0) (b := 12) c (by decide) (by decide)
        rw [hcl]
        by_cases hmt : m ≤ H.1.length
        · rw [if_neg (fun w => w ⟨c, hmt⟩)]
          have to35 : ∀ r, mj_Rn (d + 12) mj_m352 35 [(0, .ref 67), (1, .int (nI a)), (2, .int (nI b)), (3, .int (nI m))] [] (mm B x y) = some r → mj_V (d + 13) 352 [.ref 67, .int (nI a), .int (nI b), .int (nI m)] (mm B x y) = some r := by
            intro r hr
            simp (disch := (first | omega | decide)) [S_cb_mmade4_0, S_bx_mcan1_0, S_b8_mkey_1, S_b8_mkey_0, S_b1_mterm_0, S_b1_copy_0, S_b0_mod_7, S_b0_mod_6, S_b0_mod_5, S_b0_mod_3, S_b0_mod_2, S_b0_mod_1, S_b0_mod_0, S_cb_mmade4_1h, S_bx_mcan1_1h, S_b0_mod_4h, c352, s352_0, s352_1, s352_4, s352_7, s352_8, s352_9, s352_12, s352_15, s352_16, s352_19, s352_20, s352_22, s352_25, s352_26, s352_27, s352_30, s352_33, s352_34, s352_36, s352_37, s352_38, s352_41, s352_43, s352_45, s352_48, s352_50, s352_51, s352_52, s352_53, s352_54, s352_57, s352_58, s352_59, s352_62, s352_64, s352_65, s352_66, s352_69, s352_71, s352_72, s352_73, s352_75, s352_77, s352_80, s352_82, s352_83, s352_84, s352_86, s352_87, s352_90, s352_91, s352_92, s352_94, s352_97, s352_98, s352_99, s352_101, s352_104, s352_105, s352_107, s352_109, s352_112, s352_113, s352_114, s352_117, mq_k0s, mq_k1s, mq_k2s, mq_k4s, mq_k5s, mq_k5n, mq_k5as, mq_k6s, mj_pu, mj_lo, mj_br, mj_hr, mj_hw, mq_gf, mq_len, mq_al, mq_pf, mq_ok, mj_re, mq_lkm, mq_lkn, mj_ldi, mj_ldl, mj_lda, mj_ii, mj_ll, mj_li, mj_i1, ms_1, ms_2, f1_n, f1_i, f1_r, f1_u, f1_l, f2_n, f2_i, f2_r, f2_u, f2_l, mj_tg, mj_c1, mj_c2, mj_ar, mj_aw, mq_cb, mq_oi, mj_rm, Value.category, -getElem?_pos, List.getElem?_cons_zero, decide_eq_true, decide_eq_false, nl_lt, nl_le, ln_lt, ln_le, nl_eq, ln_eq, nl_add, ln_add, nl_sub, ln_mul, nI_sub, nI_mul, nI_add, nI_lt_iff, nI_le_iff, nI_inj, nI_num, mq_ix, nI_1, nl_mul, nl_div, rh, rk, hsz, nI_pos (show m < 2 ^ 31 by omega), show ¬ 12 < m by omega, hmt]
            exact hr
          obtain ⟨x1, y1, p1, z1, ht1, hs1⟩ := q_agreeing (d := d) (B := B) z hh ha hk (I k hmk)
          unfold agH at z1
          by_cases h0 : (ag_k h k H.2.1).1 = 0
          · rw [if_pos h0] at z1
            rw [if_neg (fun w => w h0)]
            have Q := J h hmh k hmk h0 m hm12
            rw [h0] at p1
            have hh1 : (H.hk a (ag_h h k H.2.1) b ((ag_k h k H.2.1).2.1, ag_T h k H.2.1)).2.2.2.1[a]? = some (ag_h h k H.2.1) := set_get hh
            have hk1 : (H.hk a (ag_h h k H.2.1) b ((ag_k h k H.2.1).2.1, ag_T h k H.2.1)).2.2.1[b]? = some (ag_k h k H.2.1).2.1 := set_get hk
            have hm1 := z1.h.hs a _ hh1
            obtain ⟨D, O, hyT⟩ : ∃ D O, yz y1 (ag_T h k H.2.1) D O := z1.y
            have zt1 : xt x1 H.1 := z1.t
            generalize hh2 : ag_h h k H.2.1 = h2 at *
            generalize hk2 : (ag_k h k H.2.1).2.1 = k2 at *
            generalize hT2 : ag_T h k H.2.1 = T2 at *
            have tn := Q.tn
            have l2 := z1.h.l.agreed
            have l4 := z1.h.l.secretOf
            have htl : x1.1.1.1.2.1.1.length = 400 := by obtain ⟨g, -, hl⟩ := zt1.1; exact hl
            have hsl : (x1.1.1.1.2.1.1.drop 0).take m = H.1.take m := by rw [zt1.1.sub (q := 0) (by omega), List.drop_zero]
            obtain ⟨y2, p2, D2, z2⟩ := q_enc (d := d + 8) (B := B) (x := x1) hyT l2 hm1.ag ha (a := 73) (q := 0) (n := m) (l := x1.1.1.1.2.1.1) (fun y' => by simp [S_cb_mmade4_0, S_bx_mcan1_0, S_b8_mkey_1, S_b8_mkey_0, S_b1_mterm_0, S_b1_copy_0, S_b0_mod_7, S_b0_mod_6, S_b0_mod_5, S_b0_mod_3, S_b0_mod_2, S_b0_mod_1, S_b0_mod_0, S_cb_mmade4_1h, S_bx_mcan1_1h, S_b0_mod_4h]) (by omega) (by omega) (by omega) (by omega)
            rw [hsl, show 4 :: h2.2.2.2.1 :: H.1.take m = enc_row h2 (H.1.take m) from rfl] at p2 z2
            have r2 := tm_mk_len T2 (enc_row h2 (H.1.take m))
            obtain ⟨y3, p3, D3, z3⟩ := q_encPin (d := d + 8) (B := B) (x := x1) z2 z1.h.l hm1 ha (by omega)
            have r3 := eh_len h2 (tm_mk T2 (enc_row h2 (H.1.take m)))
            rw [show eh_n h2 (tm_mk T2 (enc_row h2 (H.1.take m))) = cp_o h2 T2 (H.1.take m) from rfl] at p3
            rw [show eh_T h2 (tm_mk T2 (enc_row h2 (H.1.take m))) = cp_T h2 T2 (H.1.take m) from rfl] at z3 r3
            rw [show nI (tm_no T2 (enc_row h2 (H.1.take m))) = cp_e h2 T2 (H.1.take m) from rfl] at p2
            obtain ⟨y4, p4, D4, z4⟩ := q_macOf (d := d + 8) (B := B) (x := x1) z3 l2 hm1.ag ha (cp_e h2 T2 (H.1.take m)) (cp_o h2 T2 (H.1.take m)) (by omega)
            rw [if_neg Q.on, show 5 :: h2.2.2.2.1 :: (b4 (cp_e h2 T2 (H.1.take m)) ++ b4 (cp_o h2 T2 (H.1.take m))) = mac_row h2 (b4 (cp_e h2 T2 (H.1.take m)) ++ b4 (cp_o h2 T2 (H.1.take m))) from rfl] at p4 z4
            have r4 := tm_mk_len (cp_T h2 T2 (H.1.take m)) (mac_row h2 (b4 (cp_e h2 T2 (H.1.take m)) ++ b4 (cp_o h2 T2 (H.1.take m))))
            obtain ⟨y5, p5, D5, z5⟩ := q_askPin (d := d + 7) (B := B) (x := x1) z4 l4 hm1.se ha 6 (by omega) 4 (by omega)
            rw [Q.ow.1, Q.ow.2] at z5
            have q8 := Q.t8
            have q9 := Q.t9
            have qfl := Q.fl
            have qi := Q.i
            have e2 : cp_2 h2 k2 T2 (own_n H.2.1) (H.1.take m) = ky_recv (pnMsg 166 4 (own_n H.2.1) (mbr 4 (nI (tm_no (cp_T h2 T2 (H.1.take m)) (mac_row h2 (b4 (cp_e h2 T2 (H.1.take m)) ++ b4 (cp_o h2 T2 (H.1.take m)))))) ++ (mbr 5 (cp_e h2 T2 (H.1.take m)) ++ mbr 6 (cp_o h2 T2 (H.1.take m))))) k2 (tm_mk (cp_T h2 T2 (H.1.take m)) (mac_row h2 (b4 (cp_e h2 T2 (H.1.take m)) ++ b4 (cp_o h2 T2 (H.1.take m))))) := rfl
            clear Q
            generalize hT4 : tm_mk (cp_T h2 T2 (H.1.take m)) (mac_row h2 (b4 (cp_e h2 T2 (H.1.take m)) ++ b4 (cp_o h2 T2 (H.1.take m)))) = T4 at *
            generalize hmac : nI (tm_no (cp_T h2 T2 (H.1.take m)) (mac_row h2 (b4 (cp_e h2 T2 (H.1.take m)) ++ b4 (cp_o h2 T2 (H.1.take m))))) = mac at *
            generalize henc : cp_e h2 T2 (H.1.take m) = enc at *
            generalize hold : cp_o h2 T2 (H.1.take m) = old at *
            obtain ⟨y6, p6, z6⟩ := q_tellMember (d := d + 9) (B := B) (x := x1) z5 (by simp [S_cb_mmade4_0, S_bx_mcan1_0, S_b8_mkey_1, S_b8_mkey_0, S_b1_mterm_0, S_b1_copy_0, S_b0_mod_7, S_b0_mod_6, S_b0_mod_5, S_b0_mod_3, S_b0_mod_2, S_b0_mod_1, S_b0_mod_0, S_cb_mmade4_1h, S_bx_mcan1_1h, S_b0_mod_4h, b4_len]) 4 mac
            obtain ⟨y7, p7, z7⟩ := q_tellMember (d := d + 9) (B := B) (x := x1) z6 (by simp [S_cb_mmade4_0, S_bx_mcan1_0, S_b8_mkey_1, S_b8_mkey_0, S_b1_mterm_0, S_b1_copy_0, S_b0_mod_7, S_b0_mod_6, S_b0_mod_5, S_b0_mod_3, S_b0_mod_2, S_b0_mod_1, S_b0_mod_0, S_cb_mmade4_1h, S_bx_mcan1_1h, S_b0_mod_4h, b4_len, mbr]) 5 enc
            obtain ⟨y8, p8, z8⟩ := q_tellMember (d := d + 9) (B := B) (x := x1) z7 (by simp [S_cb_mmade4_0, S_bx_mcan1_0, S_b8_mkey_1, S_b8_mkey_0, S_b1_mterm_0, S_b1_copy_0, S_b0_mod_7, S_b0_mod_6, S_b0_mod_5, S_b0_mod_3, S_b0_mod_2, S_b0_mod_1, S_b0_mod_0, S_cb_mmade4_1h, S_bx_mcan1_1h, S_b0_mod_4h, b4_len, mbr]) 6 old
            have emsg : [6, nI (160 + 6), 1, 1, 2, 4, 3] ++ 68 :: b4 (own_n H.2.1) ++ mbr 4 mac ++ mbr 5 enc ++ mbr 6 old = pnMsg 166 4 (own_n H.2.1) (mbr 4 mac ++ (mbr 5 enc ++ mbr 6 old)) := by
              unfold pnMsg
              simp only [List.append_assoc, List.cons_append, List.nil_append]
              rfl
            rw [emsg] at z8
            have zz : mz x1 y8 (H.hk a h2 b (k2, T4)) := (mz_mk_ z1.t z1.m z1.k z1.h (⟨_, _, z8⟩))
            obtain ⟨x9, y9, p9, z9, -⟩ := q_sent (d := d + 1) (B := B) (g := g) (H := H.hk a h2 b (k2, T4)) zz (k := k2) hk1 z8 (pnMsg_by (by decide) (by decide) (app_by (mbr_by (by decide)) (app_by (mbr_by (by decide)) (mbr_by (by decide))))) (by simp [S_cb_mmade4_0, S_bx_mcan1_0, S_b8_mkey_1, S_b8_mkey_0, S_b1_mterm_0, S_b1_copy_0, S_b0_mod_7, S_b0_mod_6, S_b0_mod_5, S_b0_mod_3, S_b0_mod_2, S_b0_mod_1, S_b0_mod_0, S_cb_mmade4_1h, S_bx_mcan1_1h, S_b0_mod_4h, pnMsg, mbr, b4_len]) qi q8 q9 (by show T4.1.length + 4 < 1000; omega) (by rw [e2] at qfl; exact qfl)
            have p9 : mj_V (d + 12) 346 [.ref 67, .int (nI b)] (mm B x1 y8) = some (some (.int (ky_recv (pnMsg 166 4 (own_n H.2.1) (mbr 4 mac ++ (mbr 5 enc ++ mbr 6 old))) k2 T4).1), mm B x9 y9) := p9
            rw [← e2] at p9
            refine ⟨x9, y9, to35 _ ?_, ?_⟩
            · rw [show nI 6 = (6 : Int32) from rfl] at p5
              rw [nI_0] at p2
              clear to35
              generalize (cp_2 h2 k2 T2 (own_n H.2.1) (H.1.take m)).1 = st at *
              simp (disch := (first | omega | decide)) [S_cb_mmade4_0, S_bx_mcan1_0, S_b8_mkey_1, S_b8_mkey_0, S_b1_mterm_0, S_b1_copy_0, S_b0_mod_7, S_b0_mod_6, S_b0_mod_5, S_b0_mod_3, S_b0_mod_2, S_b0_mod_1, S_b0_mod_0, S_cb_mmade4_1h, S_bx_mcan1_1h, S_b0_mod_4h, s352_0, s352_1, s352_4, s352_7, s352_8, s352_9, s352_12, s352_15, s352_16, s352_19, s352_20, s352_22, s352_25, s352_26, s352_27, s352_30, s352_33, s352_34, s352_35, s352_36, s352_37, s352_38, s352_41, s352_43, s352_45, s352_48, s352_50, s352_51, s352_52, s352_53, s352_54, s352_57, s352_58, s352_59, s352_62, s352_64, s352_65, s352_66, s352_69, s352_71, s352_72, s352_73, s352_75, s352_77, s352_80, s352_82, s352_83, s352_84, s352_86, s352_87, s352_90, s352_91, s352_92, s352_94, s352_97, s352_98, s352_99, s352_101, s352_104, s352_105, s352_107, s352_109, s352_112, s352_113, s352_114, s352_117, mq_k0s, mq_k1s, mq_k2s, mq_k4s, mq_k5s, mq_k5n, mq_k5as, mq_k6s, mj_pu, mj_lo, mj_br, mj_hr, mj_hw, mq_gf, mq_len, mq_al, mq_pf, mq_ok, mj_re, mq_lkm, mq_lkn, mj_ldi, mj_ldl, mj_lda, mj_ii, mj_ll, mj_li, mj_i1, ms_1, ms_2, f1_n, f1_i, f1_r, f1_u, f1_l, f2_n, f2_i, f2_r, f2_u, f2_l, mj_tg, mj_c1, mj_c2, mj_ar, mj_aw, mq_cb, mq_oi, mj_rm, Value.category, -getElem?_pos, List.getElem?_cons_zero, decide_eq_true, decide_eq_false, nl_lt, nl_le, ln_lt, ln_le, nl_eq, ln_eq, nl_add, ln_add, nl_sub, ln_mul, nI_sub, nI_mul, nI_add, nI_lt_iff, nI_le_iff, nI_inj, nI_num, mq_ix, nI_1, nl_mul, nl_div, p1, p2, p3, p4, p5, p6, p7, p8, p9, narrow]
            · have e : (H.hk a h2 b (k2, T4)).kt b (cp_2 h2 k2 T2 (own_n H.2.1) (H.1.take m)).2 = H.hk a h2 b (cp_2 h2 k2 T2 (own_n H.2.1) (H.1.take m)).2 := by
                unfold Ho.hk Ho.kt
                simp only [List.set_set]
              rw [← e, e2]
              exact z9
          · rw [if_neg h0] at z1
            rw [if_pos h0]
            refine ⟨x1, y1, to35 _ ?_, z1⟩
            generalize (ag_k h k H.2.1).1 = st at *
            simp (disch := (first | omega | decide)) [S_cb_mmade4_0, S_bx_mcan1_0, S_b8_mkey_1, S_b8_mkey_0, S_b1_mterm_0, S_b1_copy_0, S_b0_mod_7, S_b0_mod_6, S_b0_mod_5, S_b0_mod_3, S_b0_mod_2, S_b0_mod_1, S_b0_mod_0, S_cb_mmade4_1h, S_bx_mcan1_1h, S_b0_mod_4h, s352_0, s352_1, s352_4, s352_7, s352_8, s352_9, s352_12, s352_15, s352_16, s352_19, s352_20, s352_22, s352_25, s352_26, s352_27, s352_30, s352_33, s352_34, s352_35, s352_36, s352_37, s352_38, s352_41, s352_43, s352_45, s352_48, s352_50, s352_51, s352_52, s352_53, s352_54, s352_57, s352_58, s352_59, s352_62, s352_64, s352_65, s352_66, s352_69, s352_71, s352_72, s352_73, s352_75, s352_77, s352_80, s352_82, s352_83, s352_84, s352_86, s352_87, s352_90, s352_91, s352_92, s352_94, s352_97, s352_98, s352_99, s352_101, s352_104, s352_105, s352_107, s352_109, s352_112, s352_113, s352_114, s352_117, mq_k0s, mq_k1s, mq_k2s, mq_k4s, mq_k5s, mq_k5n, mq_k5as, mq_k6s, mj_pu, mj_lo, mj_br, mj_hr, mj_hw, mq_gf, mq_len, mq_al, mq_pf, mq_ok, mj_re, mq_lkm, mq_lkn, mj_ldi, mj_ldl, mj_lda, mj_ii, mj_ll, mj_li, mj_i1, ms_1, ms_2, f1_n, f1_i, f1_r, f1_u, f1_l, f2_n, f2_i, f2_r, f2_u, f2_l, mj_tg, mj_c1, mj_c2, mj_ar, mj_aw, mq_cb, mq_oi, mj_rm, Value.category, -getElem?_pos, List.getElem?_cons_zero, decide_eq_true, decide_eq_false, nl_lt, nl_le, ln_lt, ln_le, nl_eq, ln_eq, nl_add, ln_add, nl_sub, ln_mul, nI_sub, nI_mul, nI_add, nI_lt_iff, nI_le_iff, nI_inj, nI_num, mq_ix, nI_1, nl_mul, nl_div, p1, h0, narrow]
        · rw [if_pos (fun w => hmt w.2)]
          refine ⟨x, y, ?_, z⟩
          simp (disch := (first | omega | decide)) [S_cb_mmade4_0, S_bx_mcan1_0, S_b8_mkey_1, S_b8_mkey_0, S_b1_mterm_0, S_b1_copy_0, S_b0_mod_7, S_b0_mod_6, S_b0_mod_5, S_b0_mod_3, S_b0_mod_2, S_b0_mod_1, S_b0_mod_0, S_cb_mmade4_1h, S_bx_mcan1_1h, S_b0_mod_4h, c352, s352_0, s352_1, s352_4, s352_7, s352_8, s352_9, s352_12, s352_15, s352_16, s352_19, s352_20, s352_22, s352_25, s352_26, s352_27, s352_30, s352_33, s352_34, s352_35, s352_36, s352_37, s352_38, s352_41, s352_43, s352_45, s352_48, s352_50, s352_51, s352_52, s352_53, s352_54, s352_57, s352_58, s352_59, s352_62, s352_64, s352_65, s352_66, s352_69, s352_71, s352_72, s352_73, s352_75, s352_77, s352_80, s352_82, s352_83, s352_84, s352_86, s352_87, s352_90, s352_91, s352_92, s352_94, s352_97, s352_98, s352_99, s352_101, s352_104, s352_105, s352_107, s352_109, s352_112, s352_113, s352_114, s352_117, mq_k0s, mq_k1s, mq_k2s, mq_k4s, mq_k5s, mq_k5n, mq_k5as, mq_k6s, mj_pu, mj_lo, mj_br, mj_hr, mj_hw, mq_gf, mq_len, mq_al, mq_pf, mq_ok, mj_re, mq_lkm, mq_lkn, mj_ldi, mj_ldl, mj_lda, mj_ii, mj_ll, mj_li, mj_i1, ms_1, ms_2, f1_n, f1_i, f1_r, f1_u, f1_l, f2_n, f2_i, f2_r, f2_u, f2_l, mj_tg, mj_c1, mj_c2, mj_ar, mj_aw, mq_cb, mq_oi, mj_rm, Value.category, -getElem?_pos, List.getElem?_cons_zero, decide_eq_true, decide_eq_false, nl_lt, nl_le, ln_lt, ln_le, nl_eq, ln_eq, nl_add, ln_add, nl_sub, ln_mul, nI_sub, nI_mul, nI_add, nI_lt_iff, nI_le_iff, nI_inj, nI_num, mq_ix, nI_1, nl_mul, nl_div, rh, rk, hsz, nI_pos (show m < 2 ^ 31 by omega), show ¬ 12 < m by omega, hmt, narrow]
      · rw [if_pos (fun w => c w.1)]
        refine ⟨x, y, ?_, z⟩
        by_cases h0 : n < 0
        · simp (disch := (first | omega | decide)) [S_cb_mmade4_0, S_bx_mcan1_0, S_b8_mkey_1, S_b8_mkey_0, S_b1_mterm_0, S_b1_copy_0, S_b0_mod_7, S_b0_mod_6, S_b0_mod_5, S_b0_mod_3, S_b0_mod_2, S_b0_mod_1, S_b0_mod_0, S_cb_mmade4_1h, S_bx_mcan1_1h, S_b0_mod_4h, c352, s352_0, s352_1, s352_4, s352_7, s352_8, s352_9, s352_12, s352_15, s352_16, s352_19, s352_20, s352_22, s352_25, s352_26, s352_27, s352_30, s352_33, s352_34, s352_35, s352_36, s352_37, s352_38, s352_41, s352_43, s352_45, s352_48, s352_50, s352_51, s352_52, s352_53, s352_54, s352_57, s352_58, s352_59, s352_62, s352_64, s352_65, s352_66, s352_69, s352_71, s352_72, s352_73, s352_75, s352_77, s352_80, s352_82, s352_83, s352_84, s352_86, s352_87, s352_90, s352_91, s352_92, s352_94, s352_97, s352_98, s352_99, s352_101, s352_104, s352_105, s352_107, s352_109, s352_112, s352_113, s352_114, s352_117, mq_k0s, mq_k1s, mq_k2s, mq_k4s, mq_k5s, mq_k5n, mq_k5as, mq_k6s, mj_pu, mj_lo, mj_br, mj_hr, mj_hw, mq_gf, mq_len, mq_al, mq_pf, mq_ok, mj_re, mq_lkm, mq_lkn, mj_ldi, mj_ldl, mj_lda, mj_ii, mj_ll, mj_li, mj_i1, ms_1, ms_2, f1_n, f1_i, f1_r, f1_u, f1_l, f2_n, f2_i, f2_r, f2_u, f2_l, mj_tg, mj_c1, mj_c2, mj_ar, mj_aw, mq_cb, mq_oi, mj_rm, Value.category, -getElem?_pos, List.getElem?_cons_zero, decide_eq_true, decide_eq_false, nl_lt, nl_le, ln_lt, ln_le, nl_eq, ln_eq, nl_add, ln_add, nl_sub, ln_mul, nI_sub, nI_mul, nI_add, nI_lt_iff, nI_le_iff, nI_inj, nI_num, mq_ix, nI_1, nl_mul, nl_div, rh, rk, h0, narrow]
        · have h12 : (12 : Int32) < n := by
            apply Decidable.byContradiction
            intro w
            apply c
            unfold inR
            rw [decide_eq_true ((lt_or 0 n).mpr h0), decide_eq_true ((lt_or n 12).mpr w)]
            rfl
          simp (disch := (first | omega | decide)) [S_cb_mmade4_0, S_bx_mcan1_0, S_b8_mkey_1, S_b8_mkey_0, S_b1_mterm_0, S_b1_copy_0, S_b0_mod_7, S_b0_mod_6, S_b0_mod_5, S_b0_mod_3, S_b0_mod_2, S_b0_mod_1, S_b0_mod_0, S_cb_mmade4_1h, S_bx_mcan1_1h, S_b0_mod_4h, c352, s352_0, s352_1, s352_4, s352_7, s352_8, s352_9, s352_12, s352_15, s352_16, s352_19, s352_20, s352_22, s352_25, s352_26, s352_27, s352_30, s352_33, s352_34, s352_35, s352_36, s352_37, s352_38, s352_41, s352_43, s352_45, s352_48, s352_50, s352_51, s352_52, s352_53, s352_54, s352_57, s352_58, s352_59, s352_62, s352_64, s352_65, s352_66, s352_69, s352_71, s352_72, s352_73, s352_75, s352_77, s352_80, s352_82, s352_83, s352_84, s352_86, s352_87, s352_90, s352_91, s352_92, s352_94, s352_97, s352_98, s352_99, s352_101, s352_104, s352_105, s352_107, s352_109, s352_112, s352_113, s352_114, s352_117, mq_k0s, mq_k1s, mq_k2s, mq_k4s, mq_k5s, mq_k5n, mq_k5as, mq_k6s, mj_pu, mj_lo, mj_br, mj_hr, mj_hw, mq_gf, mq_len, mq_al, mq_pf, mq_ok, mj_re, mq_lkm, mq_lkn, mj_ldi, mj_ldl, mj_lda, mj_ii, mj_ll, mj_li, mj_i1, ms_1, ms_2, f1_n, f1_i, f1_r, f1_u, f1_l, f2_n, f2_i, f2_r, f2_u, f2_l, mj_tg, mj_c1, mj_c2, mj_ar, mj_aw, mq_cb, mq_oi, mj_rm, Value.category, -getElem?_pos, List.getElem?_cons_zero, decide_eq_true, decide_eq_false, nl_lt, nl_le, ln_lt, ln_le, nl_eq, ln_eq, nl_add, ln_add, nl_sub, ln_mul, nI_sub, nI_mul, nI_add, nI_lt_iff, nI_le_iff, nI_inj, nI_num, mq_ix, nI_1, nl_mul, nl_div, rh, rk, h0, h12, narrow]
theorem o_unlock (z : mz x y H) (i l : Int32) (I : ∀ k ∈ H.2.2.1, agI k H.2.1 g) (J : ∀ h ∈ H.2.2.2.1, ∀ k ∈ H.2.2.1, (ag_k h k H.2.1).1 = 0 → ulI (ag_h h k H.2.1) (ag_k h k H.2.1).2.1 (ag_T h k H.2.1) (own_n H.2.1) g) : oR (d + 13) 354 [.ref 67, .int i, .int l] B x y (ho_unlock H i l) := by
  have rh := q_isHand (d := d + 11) (M := mm B x y) i
  have rk := q_isKey (d := d + 11) (B := B) (y := y) z.k.n z.k.n3 l
  unfold ho_unlock
  cases hi : ix i 4 with
  | none =>
    rw [hi] at rh
    simp only [on1, Option.isSome_none, Bool.false_eq_true, if_false] at rh
    dsimp only
    refine ⟨x, y, ?_, z⟩
    simp (disch := (first | omega | decide)) [S_cb_mmade4_0, S_bx_mcan1_0, S_b8_mkey_1, S_b8_mkey_0, S_b1_mterm_0, S_b1_copy_0, S_b0_mod_7, S_b0_mod_6, S_b0_mod_5, S_b0_mod_3, S_b0_mod_2, S_b0_mod_1, S_b0_mod_0, S_cb_mmade4_1h, S_bx_mcan1_1h, S_b0_mod_4h, c354, s354_0, s354_1, s354_4, s354_7, s354_8, s354_9, s354_12, s354_15, s354_16, s354_17, s354_18, s354_19, s354_20, s354_23, s354_24, s354_25, s354_28, s354_29, s354_30, s354_31, s354_32, s354_35, s354_37, s354_38, s354_39, s354_40, s354_41, s354_44, s354_45, s354_47, s354_49, s354_52, s354_53, s354_54, s354_57, s354_58, s354_59, s354_62, s354_63, s354_66, s354_67, s354_68, s354_69, s354_70, s354_71, s354_74, s354_75, s354_78, s354_79, s354_80, mq_k0s, mq_k1s, mq_k2s, mq_k4s, mq_k5s, mq_k5n, mq_k5as, mq_k6s, mj_pu, mj_lo, mj_br, mj_hr, mj_hw, mq_gf, mq_len, mq_al, mq_pf, mq_ok, mj_re, mq_lkm, mq_lkn, mj_ldi, mj_ldl, mj_lda, mj_ii, mj_ll, mj_li, mj_i1, ms_1, ms_2, f1_n, f1_i, f1_r, f1_u, f1_l, f2_n, f2_i, f2_r, f2_u, f2_l, mj_tg, mj_c1, mj_c2, mj_ar, mj_aw, mq_cb, mq_oi, mj_rm, Value.category, -getElem?_pos, List.getElem?_cons_zero, decide_eq_true, decide_eq_false, nl_lt, nl_le, ln_lt, ln_le, nl_eq, ln_eq, nl_add, ln_add, nl_sub, ln_mul, nI_sub, nI_mul, nI_add, nI_lt_iff, nI_le_iff, nI_inj, nI_num, mq_ix, nI_1, nl_mul, nl_div, rh, narrow]
  | some a =>
    rw [hi] at rh
    simp only [on1, Option.isSome_some, if_true] at rh
    cases hl : ix l H.2.2.1.length with
    | none =>
      rw [hl] at rk
      simp only [on1, Option.isSome_none, Bool.false_eq_true, if_false] at rk
      dsimp only
      refine ⟨x, y, ?_, z⟩
      simp (disch := (first | omega | decide)) [S_cb_mmade4_0, S_bx_mcan1_0, S_b8_mkey_1, S_b8_mkey_0, S_b1_mterm_0, S_b1_copy_0, S_b0_mod_7, S_b0_mod_6, S_b0_mod_5, S_b0_mod_3, S_b0_mod_2, S_b0_mod_1, S_b0_mod_0, S_cb_mmade4_1h, S_bx_mcan1_1h, S_b0_mod_4h, c354, s354_0, s354_1, s354_4, s354_7, s354_8, s354_9, s354_12, s354_15, s354_16, s354_17, s354_18, s354_19, s354_20, s354_23, s354_24, s354_25, s354_28, s354_29, s354_30, s354_31, s354_32, s354_35, s354_37, s354_38, s354_39, s354_40, s354_41, s354_44, s354_45, s354_47, s354_49, s354_52, s354_53, s354_54, s354_57, s354_58, s354_59, s354_62, s354_63, s354_66, s354_67, s354_68, s354_69, s354_70, s354_71, s354_74, s354_75, s354_78, s354_79, s354_80, mq_k0s, mq_k1s, mq_k2s, mq_k4s, mq_k5s, mq_k5n, mq_k5as, mq_k6s, mj_pu, mj_lo, mj_br, mj_hr, mj_hw, mq_gf, mq_len, mq_al, mq_pf, mq_ok, mj_re, mq_lkm, mq_lkn, mj_ldi, mj_ldl, mj_lda, mj_ii, mj_ll, mj_li, mj_i1, ms_1, ms_2, f1_n, f1_i, f1_r, f1_u, f1_l, f2_n, f2_i, f2_r, f2_u, f2_l, mj_tg, mj_c1, mj_c2, mj_ar, mj_aw, mq_cb, mq_oi, mj_rm, Value.category, -getElem?_pos, List.getElem?_cons_zero, decide_eq_true, decide_eq_false, nl_lt, nl_le, ln_lt, ln_le, nl_eq, ln_eq, nl_add, ln_add, nl_sub, ln_mul, nI_sub, nI_mul, nI_add, nI_lt_iff, nI_le_iff, nI_inj, nI_num, mq_ix, nI_1, nl_mul, nl_div, rh, rk, narrow]
    | some b =>
      rw [hl] at rk
      simp only [on1, Option.isSome_some, if_true] at rk
      obtain ⟨h, hh, rfl, ha, hm⟩ := hand_at z hi
      obtain ⟨k, hk, rfl⟩ := key_at hl
      dsimp only
      rw [hh, hk]
      dsimp only
      have hmk := List.mem_of_getElem? hk
      have hmh := List.mem_of_getElem? hh
      obtain ⟨x1, y1, p1, z1, -⟩ := q_agreeing (d := d) (B := B) z hh ha hk (I k hmk)
      unfold agH at z1
      by_cases h0 : (ag_k h k H.2.1).1 = 0
      · rw [if_pos h0] at z1
        rw [if_neg (fun w => w h0)]
        have Q := J h hmh k hmk h0
        rw [h0] at p1
        have hh1 : (H.hk a (ag_h h k H.2.1) b ((ag_k h k H.2.1).2.1, ag_T h k H.2.1)).2.2.2.1[a]? = some (ag_h h k H.2.1) := set_get hh
        have hk1 : (H.hk a (ag_h h k H.2.1) b ((ag_k h k H.2.1).2.1, ag_T h k H.2.1)).2.2.1[b]? = some (ag_k h k H.2.1).2.1 := set_get hk
        have hm1 := z1.h.hs a _ hh1
        obtain ⟨D, O, hyT⟩ : ∃ D O, yz y1 (ag_T h k H.2.1) D O := z1.y
        generalize hh2 : ag_h h k H.2.1 = h2 at *
        generalize hk2 : (ag_k h k H.2.1).2.1 = k2 at *
        generalize hT2 : ag_T h k H.2.1 = T2 at *
        have tn := Q.tn
        have l4 := z1.h.l.secretOf
        obtain ⟨y3, p3, D3, z3⟩ := q_encPin (d := d + 8) (B := B) (x := x1) hyT z1.h.l hm1 ha (by omega)
        have r3 := eh_len h2 T2
        obtain ⟨y5, p5, D5, z5⟩ := q_askPin (d := d + 7) (B := B) (x := x1) z3 l4 hm1.se ha 4 (by omega) 5 (by omega)
        rw [Q.ow.1, Q.ow.2] at z5
        obtain ⟨y6, p6, z6⟩ := q_tellMember (d := d + 9) (B := B) (x := x1) z5 (by simp [S_cb_mmade4_0, S_bx_mcan1_0, S_b8_mkey_1, S_b8_mkey_0, S_b1_mterm_0, S_b1_copy_0, S_b0_mod_7, S_b0_mod_6, S_b0_mod_5, S_b0_mod_3, S_b0_mod_2, S_b0_mod_1, S_b0_mod_0, S_cb_mmade4_1h, S_bx_mcan1_1h, S_b0_mod_4h, b4_len]) 6 (eh_n h2 T2)
        have emsg : [6, nI (160 + 4), 1, 1, 2, 5, 3] ++ 68 :: b4 (own_n H.2.1) ++ mbr 6 (eh_n h2 T2) = pnMsg 164 5 (own_n H.2.1) (mbr 6 (eh_n h2 T2)) := by
          unfold pnMsg
          simp only [List.append_assoc, List.cons_append, List.nil_append]
          rfl
        rw [emsg] at z6
        have e2 : ul_2 h2 k2 T2 (own_n H.2.1) = ky_recv (pnMsg 164 5 (own_n H.2.1) (mbr 6 (eh_n h2 T2))) k2 (eh_T h2 T2) := rfl
        have zz : mz x1 y6 (H.hk a h2 b (k2, eh_T h2 T2)) := (mz_mk_ z1.t z1.m z1.k z1.h (⟨_, _, z6⟩))
        obtain ⟨x7, y7, p7, z7, -⟩ := q_sent (d := d + 1) (B := B) (g := g) (H := H.hk a h2 b (k2, eh_T h2 T2)) zz (k := k2) hk1 z6 (pnMsg_by (by decide) (by decide) (mbr_by (by decide))) (by simp [S_cb_mmade4_0, S_bx_mcan1_0, S_b8_mkey_1, S_b8_mkey_0, S_b1_mterm_0, S_b1_copy_0, S_b0_mod_7, S_b0_mod_6, S_b0_mod_5, S_b0_mod_3, S_b0_mod_2, S_b0_mod_1, S_b0_mod_0, S_cb_mmade4_1h, S_bx_mcan1_1h, S_b0_mod_4h, pnMsg, mbr, b4_len]) Q.i Q.t8 Q.t9 (by show (eh_T h2 T2).1.length + 4 < 1000; omega) (by have := Q.fl; rw [e2] at this; exact this)
        have p7 : mj_V (d + 12) 346 [.ref 67, .int (nI b)] (mm B x1 y6) = some (some (.int (ky_recv (pnMsg 164 5 (own_n H.2.1) (mbr 6 (eh_n h2 T2))) k2 (eh_T h2 T2)).1), mm B x7 y7) := p7
        rw [← e2] at p7
        have ez : (H.hk a h2 b (k2, eh_T h2 T2)).kt b (ul_2 h2 k2 T2 (own_n H.2.1)).2 = H.hk a h2 b (ul_2 h2 k2 T2 (own_n H.2.1)).2 := by
          unfold Ho.hk Ho.kt
          simp only [List.set_set]
        have z7 : mz x7 y7 (H.hk a h2 b (ul_2 h2 k2 T2 (own_n H.2.1)).2) := by rw [← ez, e2]; exact z7
        have to57 : ∀ r, mj_Rn (d + 12) mj_m354 57 [(0, .ref 67), (1, .int (nI a)), (2, .int (nI b))] [.int (ul_2 h2 k2 T2 (own_n H.2.1)).1] (mm B x7 y7) = some r → mj_V (d + 13) 354 [.ref 67, .int (nI a), .int (nI b)] (mm B x y) = some r := by
          intro r hr
          rw [show nI 4 = (4 : Int32) from rfl] at p5
          generalize (ul_2 h2 k2 T2 (own_n H.2.1)).1 = st at *
          simp (disch := (first | omega | decide)) [S_cb_mmade4_0, S_bx_mcan1_0, S_b8_mkey_1, S_b8_mkey_0, S_b1_mterm_0, S_b1_copy_0, S_b0_mod_7, S_b0_mod_6, S_b0_mod_5, S_b0_mod_3, S_b0_mod_2, S_b0_mod_1, S_b0_mod_0, S_cb_mmade4_1h, S_bx_mcan1_1h, S_b0_mod_4h, c354, s354_0, s354_1, s354_4, s354_7, s354_8, s354_9, s354_12, s354_15, s354_16, s354_17, s354_18, s354_19, s354_20, s354_23, s354_24, s354_25, s354_28, s354_29, s354_30, s354_31, s354_32, s354_35, s354_37, s354_38, s354_39, s354_40, s354_41, s354_44, s354_45, s354_47, s354_49, s354_52, s354_53, s354_54, s354_58, s354_59, s354_62, s354_63, s354_66, s354_67, s354_68, s354_69, s354_70, s354_71, s354_74, s354_75, s354_78, s354_79, s354_80, mq_k0s, mq_k1s, mq_k2s, mq_k4s, mq_k5s, mq_k5n, mq_k5as, mq_k6s, mj_pu, mj_lo, mj_br, mj_hr, mj_hw, mq_gf, mq_len, mq_al, mq_pf, mq_ok, mj_re, mq_lkm, mq_lkn, mj_ldi, mj_ldl, mj_lda, mj_ii, mj_ll, mj_li, mj_i1, ms_1, ms_2, f1_n, f1_i, f1_r, f1_u, f1_l, f2_n, f2_i, f2_r, f2_u, f2_l, mj_tg, mj_c1, mj_c2, mj_ar, mj_aw, mq_cb, mq_oi, mj_rm, Value.category, -getElem?_pos, List.getElem?_cons_zero, decide_eq_true, decide_eq_false, nl_lt, nl_le, ln_lt, ln_le, nl_eq, ln_eq, nl_add, ln_add, nl_sub, ln_mul, nI_sub, nI_mul, nI_add, nI_lt_iff, nI_le_iff, nI_inj, nI_num, mq_ix, nI_1, nl_mul, nl_div, rh, rk, p1, p3, p5, p6, p7]
          refine mq_wk ?_ hr
          simp [S_cb_mmade4_0, S_bx_mcan1_0, S_b8_mkey_1, S_b8_mkey_0, S_b1_mterm_0, S_b1_copy_0, S_b0_mod_7, S_b0_mod_6, S_b0_mod_5, S_b0_mod_3, S_b0_mod_2, S_b0_mod_1, S_b0_mod_0, S_cb_mmade4_1h, S_bx_mcan1_1h, S_b0_mod_4h, mq_sub, mj_lk]
        unfold ul_h
        by_cases hst : (ul_2 h2 k2 T2 (own_n H.2.1)).1 = 0
        · rw [if_pos hst]
          obtain ⟨o1, o2, o3⟩ := Q.ok hst
          have hh7 : (H.hk a h2 b (ul_2 h2 k2 T2 (own_n H.2.1)).2).2.2.2.1[a]? = some h2 := set_get hh
          have hk7 : (H.hk a h2 b (ul_2 h2 k2 T2 (own_n H.2.1)).2).2.2.1[b]? = some (ul_2 h2 k2 T2 (own_n H.2.1)).2.1 := set_get hk
          have hm7 := z7.h.hs a _ hh7
          have ra := q_answerInt (d := d + 10) (B := B) z7 hk7 (p := 4) (by omega) o3
          obtain ⟨D7, O7, hy7⟩ : ∃ D O, yz y7 (ul_2 h2 k2 T2 (own_n H.2.1)).2.2 D O := z7.y
          have rp := q_partA (d := d + 11) (B := B) (x := x7) hy7 (t := w4a (ul_2 h2 k2 T2 (own_n H.2.1)).2.1.1.1.1.2 4) (k := 2) (by rw [Q.r8.s9 _ o1.2.1]; omega)
          have l3 := z7.h.l.tokenOf
          have etk : tok_h h2 (ul_2 h2 k2 T2 (own_n H.2.1)).2.2 (w4a (ul_2 h2 k2 T2 (own_n H.2.1)).2.1.1.1.1.2 4) = ((h2.1, (h2.2.1, (h2.2.2.1, (h2.2.2.2.1, bt_at (tm_row (ul_2 h2 k2 T2 (own_n H.2.1)).2.2.1 (w4a (ul_2 h2 k2 T2 (own_n H.2.1)).2.1.1.1.1.2 4)) 2)))) : Hd) := by unfold tok_h; rw [if_pos o1]
          rw [etk]
          have ex : x7.w3 a h2.2.2.1 h2.2.2.2.1 (bt_at (tm_row (ul_2 h2 k2 T2 (own_n H.2.1)).2.2.1 (w4a (ul_2 h2 k2 T2 (own_n H.2.1)).2.1.1.1.1.2 4)) 2) = (((((((x7.1.1.1.1.1.1, x7.1.1.1.1.1.2), (x7.1.1.1.1.2.1, x7.1.1.1.1.2.2)), ((x7.1.1.1.2.1.1, x7.1.1.1.2.1.2), (x7.1.1.1.2.2.1, x7.1.1.1.2.2.2))), (((x7.1.1.2.1.1.1, x7.1.1.2.1.1.2), (x7.1.1.2.1.2.1, x7.1.1.2.1.2.2)), ((x7.1.1.2.2.1.1, x7.1.1.2.2.1.2), (x7.1.1.2.2.2.1, x7.1.1.2.2.2.2)))), ((((x7.1.2.1.1.1.1, x7.1.2.1.1.1.2), (x7.1.2.1.1.2.1, x7.1.2.1.1.2.2)), ((x7.1.2.1.2.1.1, x7.1.2.1.2.1.2), (x7.1.2.1.2.2.1, x7.1.2.1.2.2.2))), (((x7.1.2.2.1.1.1, x7.1.2.2.1.1.2), (x7.1.2.2.1.2.1, x7.1.2.2.1.2.2)), ((x7.1.2.2.2.1.1, x7.1.2.2.2.1.2), (x7.1.2.2.2.2.1, x7.1.2.2.2.2.2))))), (((((x7.2.1.1.1.1.1, x7.2.1.1.1.1.2), (x7.2.1.1.1.2.1, x7.2.1.1.1.2.2)), ((x7.2.1.1.2.1.1, x7.2.1.1.2.1.2), (x7.2.1.1.2.2.1, x7.2.1.1.2.2.2))), (((x7.2.1.2.1.1.1.set a (bt_at (tm_row (ul_2 h2 k2 T2 (own_n H.2.1)).2.2.1 (w4a (ul_2 h2 k2 T2 (own_n H.2.1)).2.1.1.1.1.2 4)) 2), x7.2.1.2.1.1.2), (x7.2.1.2.1.2.1, x7.2.1.2.1.2.2)), ((x7.2.1.2.2.1.1, x7.2.1.2.2.1.2), (x7.2.1.2.2.2.1, x7.2.1.2.2.2.2)))), ((((x7.2.2.1.1.1.1, x7.2.2.1.1.1.2), (x7.2.2.1.1.2.1, x7.2.2.1.1.2.2)), ((x7.2.2.1.2.1.1, x7.2.2.1.2.1.2), (x7.2.2.1.2.2.1, x7.2.2.1.2.2.2))), (((x7.2.2.2.1.1.1, x7.2.2.2.1.1.2), (x7.2.2.2.1.2.1, x7.2.2.2.1.2.2)), ((x7.2.2.2.2.1.1, x7.2.2.2.2.1.2), (x7.2.2.2.2.2.1, x7.2.2.2.2.2.2)))))) : Fx) := by
            unfold Fx.w3
            rw [set_same hm7.se, set_same hm7.ag]
          refine ⟨x7.w3 a h2.2.2.1 h2.2.2.2.1 (bt_at (tm_row (ul_2 h2 k2 T2 (own_n H.2.1)).2.2.1 (w4a (ul_2 h2 k2 T2 (own_n H.2.1)).2.1.1.1.1.2 4)) 2), y7, to57 _ ?_, ?_⟩
          · rw [ex]
            rw [hst]
            rw [show nI 4 = (4 : Int32) from rfl] at ra
            rw [show nI 2 = (2 : Int32) from rfl] at rp
            clear to57 z7 hm7 ex
            generalize bt_at (tm_row (ul_2 h2 k2 T2 (own_n H.2.1)).2.2.1 (w4a (ul_2 h2 k2 T2 (own_n H.2.1)).2.1.1.1.1.2 4)) 2 = tv at *
            generalize w4a (ul_2 h2 k2 T2 (own_n H.2.1)).2.1.1.1.1.2 4 = av at *
            simp (disch := (first | omega | decide)) [S_cb_mmade4_0, S_bx_mcan1_0, S_b8_mkey_1, S_b8_mkey_0, S_b1_mterm_0, S_b1_copy_0, S_b0_mod_7, S_b0_mod_6, S_b0_mod_5, S_b0_mod_3, S_b0_mod_2, S_b0_mod_1, S_b0_mod_0, S_cb_mmade4_1h, S_bx_mcan1_1h, S_b0_mod_4h, s354_0, s354_1, s354_4, s354_7, s354_8, s354_9, s354_12, s354_15, s354_16, s354_17, s354_18, s354_19, s354_20, s354_23, s354_24, s354_25, s354_28, s354_29, s354_30, s354_31, s354_32, s354_35, s354_37, s354_38, s354_39, s354_40, s354_41, s354_44, s354_45, s354_47, s354_49, s354_52, s354_53, s354_54, s354_57, s354_58, s354_59, s354_62, s354_63, s354_66, s354_67, s354_68, s354_69, s354_70, s354_71, s354_74, s354_75, s354_78, s354_79, s354_80, mq_k0s, mq_k1s, mq_k2s, mq_k4s, mq_k5s, mq_k5n, mq_k5as, mq_k6s, mj_pu, mj_lo, mj_br, mj_hr, mj_hw, mq_gf, mq_len, mq_al, mq_pf, mq_ok, mj_re, mq_lkm, mq_lkn, mj_ldi, mj_ldl, mj_lda, mj_ii, mj_ll, mj_li, mj_i1, ms_1, ms_2, f1_n, f1_i, f1_r, f1_u, f1_l, f2_n, f2_i, f2_r, f2_u, f2_l, mj_tg, mj_c1, mj_c2, mj_ar, mj_aw, mq_cb, mq_oi, mj_rm, Value.category, -getElem?_pos, List.getElem?_cons_zero, decide_eq_true, decide_eq_false, nl_lt, nl_le, ln_lt, ln_le, nl_eq, ln_eq, nl_add, ln_add, nl_sub, ln_mul, nI_sub, nI_mul, nI_add, nI_lt_iff, nI_le_iff, nI_inj, nI_num, mq_ix, nI_1, nl_mul, nl_div, ra, rp, l3, narrow]
          · have hz := z7.h.w3 hh7 h2.2.2.1 h2.2.2.2.1 (bt_at (tm_row (ul_2 h2 k2 T2 (own_n H.2.1)).2.2.1 (w4a (ul_2 h2 k2 T2 (own_n H.2.1)).2.1.1.1.1.2 4)) 2)
            refine (mz_mk_ z7.t z7.m (z7.k.kf rfl) ?_ z7.y)
            have e9 : (H.hk a h2 b (ul_2 h2 k2 T2 (own_n H.2.1)).2).2.2.2.1.set a ((h2.1, (h2.2.1, (h2.2.2.1, (h2.2.2.2.1, bt_at (tm_row (ul_2 h2 k2 T2 (own_n H.2.1)).2.2.1 (w4a (ul_2 h2 k2 T2 (own_n H.2.1)).2.1.1.1.1.2 4)) 2)))) : Hd) = H.2.2.2.1.set a ((h2.1, (h2.2.1, (h2.2.2.1, (h2.2.2.2.1, bt_at (tm_row (ul_2 h2 k2 T2 (own_n H.2.1)).2.2.1 (w4a (ul_2 h2 k2 T2 (own_n H.2.1)).2.1.1.1.1.2 4)) 2)))) : Hd) := by
              show (H.2.2.2.1.set a h2).set a _ = _
              rw [List.set_set]
            rw [e9] at hz
            exact hz
        · rw [if_neg hst]
          refine ⟨x7, y7, to57 _ ?_, z7⟩
          generalize (ul_2 h2 k2 T2 (own_n H.2.1)).1 = st at *
          simp (disch := (first | omega | decide)) [S_cb_mmade4_0, S_bx_mcan1_0, S_b8_mkey_1, S_b8_mkey_0, S_b1_mterm_0, S_b1_copy_0, S_b0_mod_7, S_b0_mod_6, S_b0_mod_5, S_b0_mod_3, S_b0_mod_2, S_b0_mod_1, S_b0_mod_0, S_cb_mmade4_1h, S_bx_mcan1_1h, S_b0_mod_4h, s354_0, s354_1, s354_4, s354_7, s354_8, s354_9, s354_12, s354_15, s354_16, s354_17, s354_18, s354_19, s354_20, s354_23, s354_24, s354_25, s354_28, s354_29, s354_30, s354_31, s354_32, s354_35, s354_37, s354_38, s354_39, s354_40, s354_41, s354_44, s354_45, s354_47, s354_49, s354_52, s354_53, s354_54, s354_57, s354_58, s354_59, s354_62, s354_63, s354_66, s354_67, s354_68, s354_69, s354_70, s354_71, s354_74, s354_75, s354_78, s354_79, s354_80, mq_k0s, mq_k1s, mq_k2s, mq_k4s, mq_k5s, mq_k5n, mq_k5as, mq_k6s, mj_pu, mj_lo, mj_br, mj_hr, mj_hw, mq_gf, mq_len, mq_al, mq_pf, mq_ok, mj_re, mq_lkm, mq_lkn, mj_ldi, mj_ldl, mj_lda, mj_ii, mj_ll, mj_li, mj_i1, ms_1, ms_2, f1_n, f1_i, f1_r, f1_u, f1_l, f2_n, f2_i, f2_r, f2_u, f2_l, mj_tg, mj_c1, mj_c2, mj_ar, mj_aw, mq_cb, mq_oi, mj_rm, Value.category, -getElem?_pos, List.getElem?_cons_zero, decide_eq_true, decide_eq_false, nl_lt, nl_le, ln_lt, ln_le, nl_eq, ln_eq, nl_add, ln_add, nl_sub, ln_mul, nI_sub, nI_mul, nI_add, nI_lt_iff, nI_le_iff, nI_inj, nI_num, mq_ix, nI_1, nl_mul, nl_div, hst, narrow]
      · rw [if_neg h0] at z1
        rw [if_pos h0]
        refine ⟨x1, y1, ?_, z1⟩
        generalize (ag_k h k H.2.1).1 = st at *
        simp (disch := (first | omega | decide)) [S_cb_mmade4_0, S_bx_mcan1_0, S_b8_mkey_1, S_b8_mkey_0, S_b1_mterm_0, S_b1_copy_0, S_b0_mod_7, S_b0_mod_6, S_b0_mod_5, S_b0_mod_3, S_b0_mod_2, S_b0_mod_1, S_b0_mod_0, S_cb_mmade4_1h, S_bx_mcan1_1h, S_b0_mod_4h, c354, s354_0, s354_1, s354_4, s354_7, s354_8, s354_9, s354_12, s354_15, s354_16, s354_17, s354_18, s354_19, s354_20, s354_23, s354_24, s354_25, s354_28, s354_29, s354_30, s354_31, s354_32, s354_35, s354_37, s354_38, s354_39, s354_40, s354_41, s354_44, s354_45, s354_47, s354_49, s354_52, s354_53, s354_54, s354_57, s354_58, s354_59, s354_62, s354_63, s354_66, s354_67, s354_68, s354_69, s354_70, s354_71, s354_74, s354_75, s354_78, s354_79, s354_80, mq_k0s, mq_k1s, mq_k2s, mq_k4s, mq_k5s, mq_k5n, mq_k5as, mq_k6s, mj_pu, mj_lo, mj_br, mj_hr, mj_hw, mq_gf, mq_len, mq_al, mq_pf, mq_ok, mj_re, mq_lkm, mq_lkn, mj_ldi, mj_ldl, mj_lda, mj_ii, mj_ll, mj_li, mj_i1, ms_1, ms_2, f1_n, f1_i, f1_r, f1_u, f1_l, f2_n, f2_i, f2_r, f2_u, f2_l, mj_tg, mj_c1, mj_c2, mj_ar, mj_aw, mq_cb, mq_oi, mj_rm, Value.category, -getElem?_pos, List.getElem?_cons_zero, decide_eq_true, decide_eq_false, nl_lt, nl_le, ln_lt, ln_le, nl_eq, ln_eq, nl_add, ln_add, nl_sub, ln_mul, nI_sub, nI_mul, nI_add, nI_lt_iff, nI_le_iff, nI_inj, nI_num, mq_ix, nI_1, nl_mul, nl_div, rh, rk, p1, h0, narrow]
end
end
