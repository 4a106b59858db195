/- 87.key7 -/
section
set_option maxRecDepth 512
/-! Class: Key: MAKE. -/
/- 85 PasskeyHouse$Key.make()I -/
theorem s85_0 {d : Nat} {ls : mj_L} {st : List Value} {M : mj_H} : mj_Rn d mj_m85 0 ls st M = mq_k0 d mj_m85 1 ls M (mj_lda (mj_lk ls 0) st) := mj_R0 (r := (.aload_n 0, 1, 0, 0, 0)) rfl rfl
theorem s85_1 {d : Nat} {ls : mj_L} {st : List Value} {M : mj_H} : mj_Rn (d + 1) mj_m85 1 ls st M = mq_k5a (d + 1) mj_m85 4 ls M 86 (mq_cb 0 0 5 st M) := mj_R5e (r := (.invokevirtual 206, 3, 0, 86, 12481)) (z := mj_m86) rfl rfl (by decide) (by decide) rfl
theorem s85_4 {d : Nat} {ls : mj_L} {st : List Value} {M : mj_H} : mj_Rn d mj_m85 4 ls st M = mq_k1 d mj_m85 5 M (mj_lo 9 (.istore 1) ls st) := (mj_R1 (r := (.istore_n 1, 1, 0, 0, 0)) rfl rfl).trans (congrArg (mq_k1 d mj_m85 5 M) (mq_sti (k := 1)))
theorem s85_5 {d : Nat} {ls : mj_L} {st : List Value} {M : mj_H} : mj_Rn d mj_m85 5 ls st M = mq_k0 d mj_m85 6 ls M (mj_ldi (mj_lk ls 1) st) := mj_R0 (r := (.iload_n 1, 1, 0, 0, 0)) rfl rfl
theorem s85_6 {d : Nat} {ls : mj_L} {st : List Value} {M : mj_H} : mj_Rn d mj_m85 6 ls st M = mq_k2 d mj_m85 ls M (mj_br (.ifCond .eq 5) 6 st) := mj_R2 (r := (.ifCond .eq 5, 3, 0, 0, 0)) rfl rfl
theorem s85_9 {d : Nat} {ls : mj_L} {st : List Value} {M : mj_H} : mj_Rn d mj_m85 9 ls st M = mq_k0 d mj_m85 10 ls M (mj_ldi (mj_lk ls 1) st) := mj_R0 (r := (.iload_n 1, 1, 0, 0, 0)) rfl rfl
theorem s85_10 {d : Nat} {ls : mj_L} {st : List Value} {M : mj_H} : mj_Rn d mj_m85 10 ls st M = mq_k6 M (mj_re (some .int) (.ireturn) st) := mj_R6 (r := (.ireturn, 1, 0, 0, 0)) rfl rfl
theorem s85_11 {d : Nat} {ls : mj_L} {st : List Value} {M : mj_H} : mj_Rn d mj_m85 11 ls st M = mq_k0 d mj_m85 12 ls M (mj_lda (mj_lk ls 0) st) := mj_R0 (r := (.aload_n 0, 1, 0, 0, 0)) rfl rfl
theorem s85_12 {d : Nat} {ls : mj_L} {st : List Value} {M : mj_H} : mj_Rn d mj_m85 12 ls st M = mq_k0 d mj_m85 15 ls M (mq_gf 5 1 st M) := (mj_R3 (r := (.getfield 15, 3, 5, 1, 16598)) rfl rfl).trans (congrArg (mq_k0 d mj_m85 15 ls M) mq_gf_eq)
theorem s85_15 {d : Nat} {ls : mj_L} {st : List Value} {M : mj_H} : mj_Rn d mj_m85 15 ls st M = mq_k0 d mj_m85 16 ls M (mj_lda (mj_lk ls 0) st) := mj_R0 (r := (.aload_n 0, 1, 0, 0, 0)) rfl rfl
theorem s85_16 {d : Nat} {ls : mj_L} {st : List Value} {M : mj_H} : mj_Rn d mj_m85 16 ls st M = mq_k0 d mj_m85 19 ls M (mq_gf 5 1 st M) := (mj_R3 (r := (.getfield 15, 3, 5, 1, 16598)) rfl rfl).trans (congrArg (mq_k0 d mj_m85 19 ls M) mq_gf_eq)
theorem s85_19 {d : Nat} {ls : mj_L} {st : List Value} {M : mj_H} : mj_Rn d mj_m85 19 ls st M = mj_Rn d mj_m85 20 ls (.int 0 :: st) M := mj_R0 (r := (.iconst 0, 1, 0, 0, 0)) rfl rfl
theorem s85_20 {d : Nat} {ls : mj_L} {st : List Value} {M : mj_H} : mj_Rn d mj_m85 20 ls st M = mj_Rn d mj_m85 21 ls (.int 1 :: st) M := mj_R0 (r := (.iconst 1, 1, 0, 0, 0)) rfl rfl
theorem s85_21 {d : Nat} {ls : mj_L} {st : List Value} {M : mj_H} : mj_Rn (d + 1) mj_m85 21 ls st M = mq_k5a (d + 1) mj_m85 24 ls M 87 (mq_cb 0 2 4 st M) := mj_R5e (r := (.invokevirtual 209, 3, 0, 87, 12485)) (z := mj_m87) rfl rfl (by decide) (by decide) rfl
theorem s85_24 {d : Nat} {ls : mj_L} {st : List Value} {M : mj_H} : mj_Rn (d + 1) mj_m85 24 ls st M = mq_k5a (d + 1) mj_m85 27 ls M 109 (mq_cb 0 1 4 st M) := mj_R5e (r := (.invokevirtual 177, 3, 0, 109, 16440)) (z := mj_m109) rfl rfl (by decide) (by decide) rfl
theorem s85_27 {d : Nat} {ls : mj_L} {st : List Value} {M : mj_H} : mj_Rn d mj_m85 27 ls st M = mq_k1 d mj_m85 28 M (mj_lo 9 (.istore 2) ls st) := (mj_R1 (r := (.istore_n 2, 1, 0, 0, 0)) rfl rfl).trans (congrArg (mq_k1 d mj_m85 28 M) (mq_sti (k := 2)))
theorem s85_28 {d : Nat} {ls : mj_L} {st : List Value} {M : mj_H} : mj_Rn d mj_m85 28 ls st M = mq_k0 d mj_m85 29 ls M (mj_lda (mj_lk ls 0) st) := mj_R0 (r := (.aload_n 0, 1, 0, 0, 0)) rfl rfl
theorem s85_29 {d : Nat} {ls : mj_L} {st : List Value} {M : mj_H} : mj_Rn d mj_m85 29 ls st M = mq_k0 d mj_m85 30 ls M (mj_lda (mj_lk ls 0) st) := mj_R0 (r := (.aload_n 0, 1, 0, 0, 0)) rfl rfl
theorem s85_30 {d : Nat} {ls : mj_L} {st : List Value} {M : mj_H} : mj_Rn d mj_m85 30 ls st M = mq_k0 d mj_m85 33 ls M (mq_gf 5 1 st M) := (mj_R3 (r := (.getfield 15, 3, 5, 1, 16598)) rfl rfl).trans (congrArg (mq_k0 d mj_m85 33 ls M) mq_gf_eq)
theorem s85_33 {d : Nat} {ls : mj_L} {st : List Value} {M : mj_H} : mj_Rn d mj_m85 33 ls st M = mq_k0 d mj_m85 34 ls M (mj_lda (mj_lk ls 0) st) := mj_R0 (r := (.aload_n 0, 1, 0, 0, 0)) rfl rfl
theorem s85_34 {d : Nat} {ls : mj_L} {st : List Value} {M : mj_H} : mj_Rn d mj_m85 34 ls st M = mq_k0 d mj_m85 37 ls M (mq_gf 5 1 st M) := (mj_R3 (r := (.getfield 15, 3, 5, 1, 16598)) rfl rfl).trans (congrArg (mq_k0 d mj_m85 37 ls M) mq_gf_eq)
theorem s85_37 {d : Nat} {ls : mj_L} {st : List Value} {M : mj_H} : mj_Rn d mj_m85 37 ls st M = mj_Rn d mj_m85 38 ls (.int 0 :: st) M := mj_R0 (r := (.iconst 0, 1, 0, 0, 0)) rfl rfl
theorem s85_38 {d : Nat} {ls : mj_L} {st : List Value} {M : mj_H} : mj_Rn d mj_m85 38 ls st M = mj_Rn d mj_m85 39 ls (.int 2 :: st) M := mj_R0 (r := (.iconst 2, 1, 0, 0, 0)) rfl rfl
theorem s85_39 {d : Nat} {ls : mj_L} {st : List Value} {M : mj_H} : mj_Rn (d + 1) mj_m85 39 ls st M = mq_k5a (d + 1) mj_m85 42 ls M 87 (mq_cb 0 2 4 st M) := mj_R5e (r := (.invokevirtual 209, 3, 0, 87, 12485)) (z := mj_m87) rfl rfl (by decide) (by decide) rfl
theorem s85_42 {d : Nat} {ls : mj_L} {st : List Value} {M : mj_H} : mj_Rn d mj_m85 42 ls st M = mj_Rn d mj_m85 44 ls (.ref 3 :: st) M := mj_R3 (r := (.ldc 171, 2, 2, 8, 12497)) rfl rfl
theorem s85_44 {d : Nat} {ls : mj_L} {st : List Value} {M : mj_H} : mj_Rn (d + 1) mj_m85 44 ls st M = mq_k5a (d + 1) mj_m85 47 ls M 90 (mq_cb 0 2 4 st M) := mj_R5e (r := (.invokevirtual 173, 3, 0, 90, 12498)) (z := mj_m90) rfl rfl (by decide) (by decide) rfl
theorem s85_47 {d : Nat} {ls : mj_L} {st : List Value} {M : mj_H} : mj_Rn (d + 1) mj_m85 47 ls st M = mq_k5a (d + 1) mj_m85 50 ls M 111 (mq_cb 0 1 5 st M) := mj_R5e (r := (.invokevirtual 212, 3, 0, 111, 16448)) (z := mj_m111) rfl rfl (by decide) (by decide) rfl
theorem s85_50 {d : Nat} {ls : mj_L} {st : List Value} {M : mj_H} : mj_Rn d mj_m85 50 ls st M = mq_k1 d mj_m85 51 M (mj_lo 9 (.istore 3) ls st) := (mj_R1 (r := (.istore_n 3, 1, 0, 0, 0)) rfl rfl).trans (congrArg (mq_k1 d mj_m85 51 M) (mq_sti (k := 3)))
theorem s85_51 {d : Nat} {ls : mj_L} {st : List Value} {M : mj_H} : mj_Rn d mj_m85 51 ls st M = mq_k0 d mj_m85 52 ls M (mj_lda (mj_lk ls 0) st) := mj_R0 (r := (.aload_n 0, 1, 0, 0, 0)) rfl rfl
theorem s85_52 {d : Nat} {ls : mj_L} {st : List Value} {M : mj_H} : mj_Rn d mj_m85 52 ls st M = mq_k0 d mj_m85 55 ls M (mq_gf 5 1 st M) := (mj_R3 (r := (.getfield 15, 3, 5, 1, 16598)) rfl rfl).trans (congrArg (mq_k0 d mj_m85 55 ls M) mq_gf_eq)
theorem s85_55 {d : Nat} {ls : mj_L} {st : List Value} {M : mj_H} : mj_Rn d mj_m85 55 ls st M = mj_Rn d mj_m85 56 ls (.int 0 :: st) M := mj_R0 (r := (.iconst 0, 1, 0, 0, 0)) rfl rfl
theorem s85_56 {d : Nat} {ls : mj_L} {st : List Value} {M : mj_H} : mj_Rn d mj_m85 56 ls st M = mj_Rn d mj_m85 58 ls (.int 7 :: st) M := mj_R0 (r := (.bipush 7, 2, 0, 0, 0)) rfl rfl
theorem s85_58 {d : Nat} {ls : mj_L} {st : List Value} {M : mj_H} : mj_Rn (d + 1) mj_m85 58 ls st M = mq_k5a (d + 1) mj_m85 61 ls M 87 (mq_cb 0 2 4 st M) := mj_R5e (r := (.invokevirtual 209, 3, 0, 87, 12485)) (z := mj_m87) rfl rfl (by decide) (by decide) rfl
theorem s85_61 {d : Nat} {ls : mj_L} {st : List Value} {M : mj_H} : mj_Rn d mj_m85 61 ls st M = mq_k1 d mj_m85 63 M (mj_lo 9 (.istore 4) ls st) := mj_R1 (r := (.istore 4, 2, 0, 0, 0)) rfl rfl
theorem s85_63 {d : Nat} {ls : mj_L} {st : List Value} {M : mj_H} : mj_Rn d mj_m85 63 ls st M = mq_k0 d mj_m85 64 ls M (mj_lda (mj_lk ls 0) st) := mj_R0 (r := (.aload_n 0, 1, 0, 0, 0)) rfl rfl
theorem s85_64 {d : Nat} {ls : mj_L} {st : List Value} {M : mj_H} : mj_Rn d mj_m85 64 ls st M = mq_k0 d mj_m85 67 ls M (mq_gf 5 1 st M) := (mj_R3 (r := (.getfield 15, 3, 5, 1, 16598)) rfl rfl).trans (congrArg (mq_k0 d mj_m85 67 ls M) mq_gf_eq)
theorem s85_67 {d : Nat} {ls : mj_L} {st : List Value} {M : mj_H} : mj_Rn d mj_m85 67 ls st M = mj_Rn d mj_m85 68 ls (.int 0 :: st) M := mj_R0 (r := (.iconst 0, 1, 0, 0, 0)) rfl rfl
theorem s85_68 {d : Nat} {ls : mj_L} {st : List Value} {M : mj_H} : mj_Rn d mj_m85 68 ls st M = mj_Rn d mj_m85 70 ls (.int 8 :: st) M := mj_R0 (r := (.bipush 8, 2, 0, 0, 0)) rfl rfl
theorem s85_70 {d : Nat} {ls : mj_L} {st : List Value} {M : mj_H} : mj_Rn (d + 1) mj_m85 70 ls st M = mq_k5a (d + 1) mj_m85 73 ls M 87 (mq_cb 0 2 4 st M) := mj_R5e (r := (.invokevirtual 209, 3, 0, 87, 12485)) (z := mj_m87) rfl rfl (by decide) (by decide) rfl
theorem s85_73 {d : Nat} {ls : mj_L} {st : List Value} {M : mj_H} : mj_Rn d mj_m85 73 ls st M = mq_k1 d mj_m85 75 M (mj_lo 9 (.istore 5) ls st) := mj_R1 (r := (.istore 5, 2, 0, 0, 0)) rfl rfl
theorem s85_75 {d : Nat} {ls : mj_L} {st : List Value} {M : mj_H} : mj_Rn d mj_m85 75 ls st M = mj_Rn d mj_m85 77 ls (.int 65 :: st) M := mj_R0 (r := (.bipush 65, 2, 0, 0, 0)) rfl rfl
theorem s85_77 {d : Nat} {ls : mj_L} {st : List Value} {M : mj_H} : mj_Rn d mj_m85 77 ls st M = mq_k1 d mj_m85 79 M (mj_lo 9 (.istore 6) ls st) := mj_R1 (r := (.istore 6, 2, 0, 0, 0)) rfl rfl
theorem s85_79 {d : Nat} {ls : mj_L} {st : List Value} {M : mj_H} : mj_Rn d mj_m85 79 ls st M = mq_k0 d mj_m85 80 ls M (mj_lda (mj_lk ls 0) st) := mj_R0 (r := (.aload_n 0, 1, 0, 0, 0)) rfl rfl
theorem s85_80 {d : Nat} {ls : mj_L} {st : List Value} {M : mj_H} : mj_Rn d mj_m85 80 ls st M = mq_k0 d mj_m85 81 ls M (mj_lda (mj_lk ls 0) st) := mj_R0 (r := (.aload_n 0, 1, 0, 0, 0)) rfl rfl
theorem s85_81 {d : Nat} {ls : mj_L} {st : List Value} {M : mj_H} : mj_Rn d mj_m85 81 ls st M = mq_k0 d mj_m85 84 ls M (mq_gf 5 1 st M) := (mj_R3 (r := (.getfield 15, 3, 5, 1, 16598)) rfl rfl).trans (congrArg (mq_k0 d mj_m85 84 ls M) mq_gf_eq)
theorem s85_84 {d : Nat} {ls : mj_L} {st : List Value} {M : mj_H} : mj_Rn d mj_m85 84 ls st M = mj_Rn d mj_m85 85 ls (.int 0 :: st) M := mj_R0 (r := (.iconst 0, 1, 0, 0, 0)) rfl rfl
theorem s85_85 {d : Nat} {ls : mj_L} {st : List Value} {M : mj_H} : mj_Rn d mj_m85 85 ls st M = mj_Rn d mj_m85 86 ls (.int 5 :: st) M := mj_R0 (r := (.iconst 5, 1, 0, 0, 0)) rfl rfl
theorem s85_86 {d : Nat} {ls : mj_L} {st : List Value} {M : mj_H} : mj_Rn (d + 1) mj_m85 86 ls st M = mq_k5a (d + 1) mj_m85 89 ls M 87 (mq_cb 0 2 4 st M) := mj_R5e (r := (.invokevirtual 209, 3, 0, 87, 12485)) (z := mj_m87) rfl rfl (by decide) (by decide) rfl
theorem s85_89 {d : Nat} {ls : mj_L} {st : List Value} {M : mj_H} : mj_Rn d mj_m85 89 ls st M = mq_k0 d mj_m85 90 ls M (mj_ldi (mj_lk ls 3) st) := mj_R0 (r := (.iload_n 3, 1, 0, 0, 0)) rfl rfl
theorem s85_90 {d : Nat} {ls : mj_L} {st : List Value} {M : mj_H} : mj_Rn (d + 1) mj_m85 90 ls st M = mq_k5a (d + 1) mj_m85 93 ls M 114 (mq_cb 0 2 5 st M) := mj_R5e (r := (.invokevirtual 215, 3, 0, 114, 16465)) (z := mj_m114) rfl rfl (by decide) (by decide) rfl
theorem s85_93 {d : Nat} {ls : mj_L} {st : List Value} {M : mj_H} : mj_Rn d mj_m85 93 ls st M = mq_k2 d mj_m85 ls M (mj_br (.ifCond .eq 18) 93 st) := mj_R2 (r := (.ifCond .eq 18, 3, 0, 0, 0)) rfl rfl
theorem s85_96 {d : Nat} {ls : mj_L} {st : List Value} {M : mj_H} : mj_Rn d mj_m85 96 ls st M = mq_k0 d mj_m85 97 ls M (mj_lda (mj_lk ls 0) st) := mj_R0 (r := (.aload_n 0, 1, 0, 0, 0)) rfl rfl
theorem s85_97 {d : Nat} {ls : mj_L} {st : List Value} {M : mj_H} : mj_Rn (d + 1) mj_m85 97 ls st M = mq_k5a (d + 1) mj_m85 100 ls M 118 (mq_cb 0 0 5 st M) := mj_R5e (r := (.invokevirtual 190, 3, 0, 118, 16484)) (z := mj_m118) rfl rfl (by decide) (by decide) rfl
theorem s85_100 {d : Nat} {ls : mj_L} {st : List Value} {M : mj_H} : mj_Rn d mj_m85 100 ls st M = mq_k2 d mj_m85 ls M (mj_br (.ifCond .eq 8) 100 st) := mj_R2 (r := (.ifCond .eq 8, 3, 0, 0, 0)) rfl rfl
theorem s85_103 {d : Nat} {ls : mj_L} {st : List Value} {M : mj_H} : mj_Rn d mj_m85 103 ls st M = mj_Rn d mj_m85 105 ls (.int 25 :: st) M := mj_R0 (r := (.bipush 25, 2, 0, 0, 0)) rfl rfl
theorem s85_105 {d : Nat} {ls : mj_L} {st : List Value} {M : mj_H} : mj_Rn d mj_m85 105 ls st M = mj_Rn d mj_m85 110 ls st M := mj_R2 (r := (.goto 5, 3, 0, 0, 0)) rfl rfl
theorem s85_108 {d : Nat} {ls : mj_L} {st : List Value} {M : mj_H} : mj_Rn d mj_m85 108 ls st M = mj_Rn d mj_m85 110 ls (.int 39 :: st) M := mj_R0 (r := (.bipush 39, 2, 0, 0, 0)) rfl rfl
theorem s85_110 {d : Nat} {ls : mj_L} {st : List Value} {M : mj_H} : mj_Rn d mj_m85 110 ls st M = mq_k6 M (mj_re (some .int) (.ireturn) st) := mj_R6 (r := (.ireturn, 1, 0, 0, 0)) rfl rfl
theorem s85_111 {d : Nat} {ls : mj_L} {st : List Value} {M : mj_H} : mj_Rn d mj_m85 111 ls st M = mq_k0 d mj_m85 112 ls M (mj_lda (mj_lk ls 0) st) := mj_R0 (r := (.aload_n 0, 1, 0, 0, 0)) rfl rfl
theorem s85_112 {d : Nat} {ls : mj_L} {st : List Value} {M : mj_H} : mj_Rn d mj_m85 112 ls st M = mq_k0 d mj_m85 113 ls M (mj_lda (mj_lk ls 0) st) := mj_R0 (r := (.aload_n 0, 1, 0, 0, 0)) rfl rfl
theorem s85_113 {d : Nat} {ls : mj_L} {st : List Value} {M : mj_H} : mj_Rn d mj_m85 113 ls st M = mq_k0 d mj_m85 116 ls M (mq_gf 5 1 st M) := (mj_R3 (r := (.getfield 15, 3, 5, 1, 16598)) rfl rfl).trans (congrArg (mq_k0 d mj_m85 116 ls M) mq_gf_eq)
theorem s85_116 {d : Nat} {ls : mj_L} {st : List Value} {M : mj_H} : mj_Rn d mj_m85 116 ls st M = mj_Rn d mj_m85 117 ls (.int 0 :: st) M := mj_R0 (r := (.iconst 0, 1, 0, 0, 0)) rfl rfl
theorem s85_117 {d : Nat} {ls : mj_L} {st : List Value} {M : mj_H} : mj_Rn d mj_m85 117 ls st M = mj_Rn d mj_m85 118 ls (.int 4 :: st) M := mj_R0 (r := (.iconst 4, 1, 0, 0, 0)) rfl rfl
theorem s85_118 {d : Nat} {ls : mj_L} {st : List Value} {M : mj_H} : mj_Rn (d + 1) mj_m85 118 ls st M = mq_k5a (d + 1) mj_m85 121 ls M 87 (mq_cb 0 2 4 st M) := mj_R5e (r := (.invokevirtual 209, 3, 0, 87, 12485)) (z := mj_m87) rfl rfl (by decide) (by decide) rfl
theorem s85_121 {d : Nat} {ls : mj_L} {st : List Value} {M : mj_H} : mj_Rn (d + 1) mj_m85 121 ls st M = mq_k5a (d + 1) mj_m85 124 ls M 119 (mq_cb 0 1 5 st M) := mj_R5e (r := (.invokevirtual 218, 3, 0, 119, 16488)) (z := mj_m119) rfl rfl (by decide) (by decide) rfl
theorem s85_124 {d : Nat} {ls : mj_L} {st : List Value} {M : mj_H} : mj_Rn d mj_m85 124 ls st M = mq_k2 d mj_m85 ls M (mj_br (.ifCond .ne 6) 124 st) := mj_R2 (r := (.ifCond .ne 6, 3, 0, 0, 0)) rfl rfl
theorem s85_127 {d : Nat} {ls : mj_L} {st : List Value} {M : mj_H} : mj_Rn d mj_m85 127 ls st M = mj_Rn d mj_m85 129 ls (.int 38 :: st) M := mj_R0 (r := (.bipush 38, 2, 0, 0, 0)) rfl rfl
theorem s85_129 {d : Nat} {ls : mj_L} {st : List Value} {M : mj_H} : mj_Rn d mj_m85 129 ls st M = mq_k6 M (mj_re (some .int) (.ireturn) st) := mj_R6 (r := (.ireturn, 1, 0, 0, 0)) rfl rfl
theorem s85_130 {d : Nat} {ls : mj_L} {st : List Value} {M : mj_H} : mj_Rn d mj_m85 130 ls st M = mq_k0 d mj_m85 131 ls M (mj_lda (mj_lk ls 0) st) := mj_R0 (r := (.aload_n 0, 1, 0, 0, 0)) rfl rfl
theorem s85_131 {d : Nat} {ls : mj_L} {st : List Value} {M : mj_H} : mj_Rn d mj_m85 131 ls st M = mq_k0 d mj_m85 134 ls M (mq_gf 5 1 st M) := (mj_R3 (r := (.getfield 15, 3, 5, 1, 16598)) rfl rfl).trans (congrArg (mq_k0 d mj_m85 134 ls M) mq_gf_eq)
theorem s85_134 {d : Nat} {ls : mj_L} {st : List Value} {M : mj_H} : mj_Rn d mj_m85 134 ls st M = mq_k0 d mj_m85 135 ls M (mj_lda (mj_lk ls 0) st) := mj_R0 (r := (.aload_n 0, 1, 0, 0, 0)) rfl rfl
theorem s85_135 {d : Nat} {ls : mj_L} {st : List Value} {M : mj_H} : mj_Rn d mj_m85 135 ls st M = mq_k0 d mj_m85 138 ls M (mq_gf 5 1 st M) := (mj_R3 (r := (.getfield 15, 3, 5, 1, 16598)) rfl rfl).trans (congrArg (mq_k0 d mj_m85 138 ls M) mq_gf_eq)
theorem s85_138 {d : Nat} {ls : mj_L} {st : List Value} {M : mj_H} : mj_Rn d mj_m85 138 ls st M = mq_k0 d mj_m85 140 ls M (mj_ldi (mj_lk ls 4) st) := mj_R0 (r := (.iload 4, 2, 0, 0, 0)) rfl rfl
theorem s85_140 {d : Nat} {ls : mj_L} {st : List Value} {M : mj_H} : mj_Rn d mj_m85 140 ls st M = mj_Rn d mj_m85 142 ls (.ref 11 :: st) M := mj_R3 (r := (.ldc 221, 2, 2, 9, 16431)) rfl rfl
theorem s85_142 {d : Nat} {ls : mj_L} {st : List Value} {M : mj_H} : mj_Rn (d + 1) mj_m85 142 ls st M = mq_k5a (d + 1) mj_m85 145 ls M 90 (mq_cb 0 2 4 st M) := mj_R5e (r := (.invokevirtual 173, 3, 0, 90, 12498)) (z := mj_m90) rfl rfl (by decide) (by decide) rfl
theorem s85_145 {d : Nat} {ls : mj_L} {st : List Value} {M : mj_H} : mj_Rn (d + 1) mj_m85 145 ls st M = mq_k5a (d + 1) mj_m85 148 ls M 120 (mq_cb 0 1 4 st M) := mj_R5e (r := (.invokevirtual 223, 3, 0, 120, 16492)) (z := mj_m120) rfl rfl (by decide) (by decide) rfl
theorem s85_148 {d : Nat} {ls : mj_L} {st : List Value} {M : mj_H} : mj_Rn d mj_m85 148 ls st M = mq_k2 d mj_m85 ls M (mj_br (.ifCond .eq 6) 148 st) := mj_R2 (r := (.ifCond .eq 6, 3, 0, 0, 0)) rfl rfl
theorem s85_151 {d : Nat} {ls : mj_L} {st : List Value} {M : mj_H} : mj_Rn d mj_m85 151 ls st M = mj_Rn d mj_m85 153 ls (.int 43 :: st) M := mj_R0 (r := (.bipush 43, 2, 0, 0, 0)) rfl rfl
theorem s85_153 {d : Nat} {ls : mj_L} {st : List Value} {M : mj_H} : mj_Rn d mj_m85 153 ls st M = mq_k6 M (mj_re (some .int) (.ireturn) st) := mj_R6 (r := (.ireturn, 1, 0, 0, 0)) rfl rfl
theorem s85_154 {d : Nat} {ls : mj_L} {st : List Value} {M : mj_H} : mj_Rn d mj_m85 154 ls st M = mq_k0 d mj_m85 156 ls M (mj_ldi (mj_lk ls 5) st) := mj_R0 (r := (.iload 5, 2, 0, 0, 0)) rfl rfl
theorem s85_156 {d : Nat} {ls : mj_L} {st : List Value} {M : mj_H} : mj_Rn d mj_m85 156 ls st M = mj_Rn d mj_m85 157 ls (.int (-1) :: st) M := mj_R0 (r := (.iconst (-1), 1, 0, 0, 0)) rfl rfl
theorem s85_157 {d : Nat} {ls : mj_L} {st : List Value} {M : mj_H} : mj_Rn d mj_m85 157 ls st M = mq_k2 d mj_m85 ls M (mj_br (.if_icmp .ne 16) 157 st) := mj_R2 (r := (.if_icmp .ne 16, 3, 0, 0, 0)) rfl rfl
theorem s85_160 {d : Nat} {ls : mj_L} {st : List Value} {M : mj_H} : mj_Rn d mj_m85 160 ls st M = mq_k0 d mj_m85 161 ls M (mj_lda (mj_lk ls 0) st) := mj_R0 (r := (.aload_n 0, 1, 0, 0, 0)) rfl rfl
theorem s85_161 {d : Nat} {ls : mj_L} {st : List Value} {M : mj_H} : mj_Rn d mj_m85 161 ls st M = mq_k0 d mj_m85 164 ls M (mq_gf 5 2 st M) := (mj_R3 (r := (.getfield 22, 3, 5, 2, 16600)) rfl rfl).trans (congrArg (mq_k0 d mj_m85 164 ls M) mq_gf_eq)
theorem s85_164 {d : Nat} {ls : mj_L} {st : List Value} {M : mj_H} : mj_Rn d mj_m85 164 ls st M = mq_k0 d mj_m85 167 ls M (mq_gf 8 11 st M) := (mj_R3 (r := (.getfield 194, 3, 8, 11, 16517)) rfl rfl).trans (congrArg (mq_k0 d mj_m85 167 ls M) mq_gf_eq)
theorem s85_167 {d : Nat} {ls : mj_L} {st : List Value} {M : mj_H} : mj_Rn d mj_m85 167 ls st M = mq_k2 d mj_m85 ls M (mj_br (.ifCond .eq 6) 167 st) := mj_R2 (r := (.ifCond .eq 6, 3, 0, 0, 0)) rfl rfl
theorem s85_170 {d : Nat} {ls : mj_L} {st : List Value} {M : mj_H} : mj_Rn d mj_m85 170 ls st M = mj_Rn d mj_m85 172 ls (.int 54 :: st) M := mj_R0 (r := (.bipush 54, 2, 0, 0, 0)) rfl rfl
theorem s85_172 {d : Nat} {ls : mj_L} {st : List Value} {M : mj_H} : mj_Rn d mj_m85 172 ls st M = mq_k6 M (mj_re (some .int) (.ireturn) st) := mj_R6 (r := (.ireturn, 1, 0, 0, 0)) rfl rfl
theorem s85_173 {d : Nat} {ls : mj_L} {st : List Value} {M : mj_H} : mj_Rn d mj_m85 173 ls st M = mq_k0 d mj_m85 175 ls M (mj_ldi (mj_lk ls 5) st) := mj_R0 (r := (.iload 5, 2, 0, 0, 0)) rfl rfl
theorem s85_175 {d : Nat} {ls : mj_L} {st : List Value} {M : mj_H} : mj_Rn d mj_m85 175 ls st M = mj_Rn d mj_m85 176 ls (.int (-1) :: st) M := mj_R0 (r := (.iconst (-1), 1, 0, 0, 0)) rfl rfl
theorem s85_176 {d : Nat} {ls : mj_L} {st : List Value} {M : mj_H} : mj_Rn d mj_m85 176 ls st M = mq_k2 d mj_m85 ls M (mj_br (.if_icmp .eq 36) 176 st) := mj_R2 (r := (.if_icmp .eq 36, 3, 0, 0, 0)) rfl rfl
theorem s85_179 {d : Nat} {ls : mj_L} {st : List Value} {M : mj_H} : mj_Rn d mj_m85 179 ls st M = mq_k0 d mj_m85 180 ls M (mj_lda (mj_lk ls 0) st) := mj_R0 (r := (.aload_n 0, 1, 0, 0, 0)) rfl rfl
theorem s85_180 {d : Nat} {ls : mj_L} {st : List Value} {M : mj_H} : mj_Rn d mj_m85 180 ls st M = mq_k0 d mj_m85 182 ls M (mj_ldi (mj_lk ls 5) st) := mj_R0 (r := (.iload 5, 2, 0, 0, 0)) rfl rfl
theorem s85_182 {d : Nat} {ls : mj_L} {st : List Value} {M : mj_H} : mj_Rn d mj_m85 182 ls st M = mq_k0 d mj_m85 183 ls M (mj_lda (mj_lk ls 0) st) := mj_R0 (r := (.aload_n 0, 1, 0, 0, 0)) rfl rfl
theorem s85_183 {d : Nat} {ls : mj_L} {st : List Value} {M : mj_H} : mj_Rn d mj_m85 183 ls st M = mq_k0 d mj_m85 186 ls M (mq_gf 5 1 st M) := (mj_R3 (r := (.getfield 15, 3, 5, 1, 16598)) rfl rfl).trans (congrArg (mq_k0 d mj_m85 186 ls M) mq_gf_eq)
theorem s85_186 {d : Nat} {ls : mj_L} {st : List Value} {M : mj_H} : mj_Rn d mj_m85 186 ls st M = mj_Rn d mj_m85 187 ls (.int 0 :: st) M := mj_R0 (r := (.iconst 0, 1, 0, 0, 0)) rfl rfl
theorem s85_187 {d : Nat} {ls : mj_L} {st : List Value} {M : mj_H} : mj_Rn d mj_m85 187 ls st M = mj_Rn d mj_m85 189 ls (.int 9 :: st) M := mj_R0 (r := (.bipush 9, 2, 0, 0, 0)) rfl rfl
theorem s85_189 {d : Nat} {ls : mj_L} {st : List Value} {M : mj_H} : mj_Rn (d + 1) mj_m85 189 ls st M = mq_k5a (d + 1) mj_m85 192 ls M 87 (mq_cb 0 2 4 st M) := mj_R5e (r := (.invokevirtual 209, 3, 0, 87, 12485)) (z := mj_m87) rfl rfl (by decide) (by decide) rfl
theorem s85_192 {d : Nat} {ls : mj_L} {st : List Value} {M : mj_H} : mj_Rn d mj_m85 192 ls st M = mq_k0 d mj_m85 193 ls M (mj_ldi (mj_lk ls 2) st) := mj_R0 (r := (.iload_n 2, 1, 0, 0, 0)) rfl rfl
theorem s85_193 {d : Nat} {ls : mj_L} {st : List Value} {M : mj_H} : mj_Rn (d + 1) mj_m85 193 ls st M = mq_k5a (d + 1) mj_m85 196 ls M 121 (mq_cb 0 3 5 st M) := mj_R5e (r := (.invokevirtual 226, 3, 0, 121, 16496)) (z := mj_m121) rfl rfl (by decide) (by decide) rfl
theorem s85_196 {d : Nat} {ls : mj_L} {st : List Value} {M : mj_H} : mj_Rn d mj_m85 196 ls st M = mq_k1 d mj_m85 198 M (mj_lo 9 (.istore 7) ls st) := mj_R1 (r := (.istore 7, 2, 0, 0, 0)) rfl rfl
theorem s85_198 {d : Nat} {ls : mj_L} {st : List Value} {M : mj_H} : mj_Rn d mj_m85 198 ls st M = mq_k0 d mj_m85 200 ls M (mj_ldi (mj_lk ls 7) st) := mj_R0 (r := (.iload 7, 2, 0, 0, 0)) rfl rfl
theorem s85_200 {d : Nat} {ls : mj_L} {st : List Value} {M : mj_H} : mj_Rn d mj_m85 200 ls st M = mq_k2 d mj_m85 ls M (mj_br (.ifCond .eq 6) 200 st) := mj_R2 (r := (.ifCond .eq 6, 3, 0, 0, 0)) rfl rfl
theorem s85_203 {d : Nat} {ls : mj_L} {st : List Value} {M : mj_H} : mj_Rn d mj_m85 203 ls st M = mq_k0 d mj_m85 205 ls M (mj_ldi (mj_lk ls 7) st) := mj_R0 (r := (.iload 7, 2, 0, 0, 0)) rfl rfl
theorem s85_205 {d : Nat} {ls : mj_L} {st : List Value} {M : mj_H} : mj_Rn d mj_m85 205 ls st M = mq_k6 M (mj_re (some .int) (.ireturn) st) := mj_R6 (r := (.ireturn, 1, 0, 0, 0)) rfl rfl
theorem s85_206 {d : Nat} {ls : mj_L} {st : List Value} {M : mj_H} : mj_Rn d mj_m85 206 ls st M = mq_k0 d mj_m85 208 ls M (mj_ldi (mj_lk ls 6) st) := mj_R0 (r := (.iload 6, 2, 0, 0, 0)) rfl rfl
theorem s85_208 {d : Nat} {ls : mj_L} {st : List Value} {M : mj_H} : mj_Rn d mj_m85 208 ls st M = mj_Rn d mj_m85 209 ls (.int 4 :: st) M := mj_R0 (r := (.iconst 4, 1, 0, 0, 0)) rfl rfl
theorem s85_209 {d : Nat} {ls : mj_L} {st : List Value} {M : mj_H} : mj_Rn d mj_m85 209 ls st M = mq_k0 d mj_m85 210 ls M (mj_pu .ior ls st) := mj_R0 (r := (.ior, 1, 0, 0, 0)) rfl rfl
theorem s85_210 {d : Nat} {ls : mj_L} {st : List Value} {M : mj_H} : mj_Rn d mj_m85 210 ls st M = mq_k1 d mj_m85 212 M (mj_lo 9 (.istore 6) ls st) := mj_R1 (r := (.istore 6, 2, 0, 0, 0)) rfl rfl
theorem s85_212 {d : Nat} {ls : mj_L} {st : List Value} {M : mj_H} : mj_Rn d mj_m85 212 ls st M = mq_k0 d mj_m85 213 ls M (mj_lda (mj_lk ls 0) st) := mj_R0 (r := (.aload_n 0, 1, 0, 0, 0)) rfl rfl
theorem s85_213 {d : Nat} {ls : mj_L} {st : List Value} {M : mj_H} : mj_Rn (d + 1) mj_m85 213 ls st M = mq_k5a (d + 1) mj_m85 216 ls M 118 (mq_cb 0 0 5 st M) := mj_R5e (r := (.invokevirtual 190, 3, 0, 118, 16484)) (z := mj_m118) rfl rfl (by decide) (by decide) rfl
theorem s85_216 {d : Nat} {ls : mj_L} {st : List Value} {M : mj_H} : mj_Rn d mj_m85 216 ls st M = mq_k2 d mj_m85 ls M (mj_br (.ifCond .ne 6) 216 st) := mj_R2 (r := (.ifCond .ne 6, 3, 0, 0, 0)) rfl rfl
theorem s85_219 {d : Nat} {ls : mj_L} {st : List Value} {M : mj_H} : mj_Rn d mj_m85 219 ls st M = mj_Rn d mj_m85 221 ls (.int 39 :: st) M := mj_R0 (r := (.bipush 39, 2, 0, 0, 0)) rfl rfl
theorem s85_221 {d : Nat} {ls : mj_L} {st : List Value} {M : mj_H} : mj_Rn d mj_m85 221 ls st M = mq_k6 M (mj_re (some .int) (.ireturn) st) := mj_R6 (r := (.ireturn, 1, 0, 0, 0)) rfl rfl
theorem s85_222 {d : Nat} {ls : mj_L} {st : List Value} {M : mj_H} : mj_Rn d mj_m85 222 ls st M = mq_k0 d mj_m85 223 ls M (mj_lda (mj_lk ls 0) st) := mj_R0 (r := (.aload_n 0, 1, 0, 0, 0)) rfl rfl
theorem s85_223 {d : Nat} {ls : mj_L} {st : List Value} {M : mj_H} : mj_Rn d mj_m85 223 ls st M = mq_k0 d mj_m85 226 ls M (mq_gf 5 1 st M) := (mj_R3 (r := (.getfield 15, 3, 5, 1, 16598)) rfl rfl).trans (congrArg (mq_k0 d mj_m85 226 ls M) mq_gf_eq)
theorem s85_226 {d : Nat} {ls : mj_L} {st : List Value} {M : mj_H} : mj_Rn d mj_m85 226 ls st M = mq_k0 d mj_m85 227 ls M (mj_lda (mj_lk ls 0) st) := mj_R0 (r := (.aload_n 0, 1, 0, 0, 0)) rfl rfl
theorem s85_227 {d : Nat} {ls : mj_L} {st : List Value} {M : mj_H} : mj_Rn d mj_m85 227 ls st M = mq_k0 d mj_m85 230 ls M (mq_gf 5 1 st M) := (mj_R3 (r := (.getfield 15, 3, 5, 1, 16598)) rfl rfl).trans (congrArg (mq_k0 d mj_m85 230 ls M) mq_gf_eq)
theorem s85_230 {d : Nat} {ls : mj_L} {st : List Value} {M : mj_H} : mj_Rn d mj_m85 230 ls st M = mj_Rn d mj_m85 231 ls (.int 0 :: st) M := mj_R0 (r := (.iconst 0, 1, 0, 0, 0)) rfl rfl
theorem s85_231 {d : Nat} {ls : mj_L} {st : List Value} {M : mj_H} : mj_Rn d mj_m85 231 ls st M = mj_Rn d mj_m85 232 ls (.int 3 :: st) M := mj_R0 (r := (.iconst 3, 1, 0, 0, 0)) rfl rfl
theorem s85_232 {d : Nat} {ls : mj_L} {st : List Value} {M : mj_H} : mj_Rn (d + 1) mj_m85 232 ls st M = mq_k5a (d + 1) mj_m85 235 ls M 87 (mq_cb 0 2 4 st M) := mj_R5e (r := (.invokevirtual 209, 3, 0, 87, 12485)) (z := mj_m87) rfl rfl (by decide) (by decide) rfl
theorem s85_235 {d : Nat} {ls : mj_L} {st : List Value} {M : mj_H} : mj_Rn d mj_m85 235 ls st M = mj_Rn d mj_m85 237 ls (.ref 3 :: st) M := mj_R3 (r := (.ldc 171, 2, 2, 8, 12497)) rfl rfl
theorem s85_237 {d : Nat} {ls : mj_L} {st : List Value} {M : mj_H} : mj_Rn (d + 1) mj_m85 237 ls st M = mq_k5a (d + 1) mj_m85 240 ls M 90 (mq_cb 0 2 4 st M) := mj_R5e (r := (.invokevirtual 173, 3, 0, 90, 12498)) (z := mj_m90) rfl rfl (by decide) (by decide) rfl
theorem s85_240 {d : Nat} {ls : mj_L} {st : List Value} {M : mj_H} : mj_Rn d mj_m85 240 ls st M = mq_k1 d mj_m85 242 M (mj_lo 9 (.istore 7) ls st) := mj_R1 (r := (.istore 7, 2, 0, 0, 0)) rfl rfl
theorem s85_242 {d : Nat} {ls : mj_L} {st : List Value} {M : mj_H} : mj_Rn d mj_m85 242 ls st M = mq_k0 d mj_m85 243 ls M (mj_lda (mj_lk ls 0) st) := mj_R0 (r := (.aload_n 0, 1, 0, 0, 0)) rfl rfl
theorem s85_243 {d : Nat} {ls : mj_L} {st : List Value} {M : mj_H} : mj_Rn d mj_m85 243 ls st M = mq_k0 d mj_m85 246 ls M (mq_gf 5 1 st M) := (mj_R3 (r := (.getfield 15, 3, 5, 1, 16598)) rfl rfl).trans (congrArg (mq_k0 d mj_m85 246 ls M) mq_gf_eq)
theorem s85_246 {d : Nat} {ls : mj_L} {st : List Value} {M : mj_H} : mj_Rn d mj_m85 246 ls st M = mq_k0 d mj_m85 247 ls M (mj_lda (mj_lk ls 0) st) := mj_R0 (r := (.aload_n 0, 1, 0, 0, 0)) rfl rfl
theorem s85_247 {d : Nat} {ls : mj_L} {st : List Value} {M : mj_H} : mj_Rn d mj_m85 247 ls st M = mq_k0 d mj_m85 250 ls M (mq_gf 5 1 st M) := (mj_R3 (r := (.getfield 15, 3, 5, 1, 16598)) rfl rfl).trans (congrArg (mq_k0 d mj_m85 250 ls M) mq_gf_eq)
theorem s85_250 {d : Nat} {ls : mj_L} {st : List Value} {M : mj_H} : mj_Rn d mj_m85 250 ls st M = mq_k0 d mj_m85 252 ls M (mj_ldi (mj_lk ls 4) st) := mj_R0 (r := (.iload 4, 2, 0, 0, 0)) rfl rfl
theorem s85_252 {d : Nat} {ls : mj_L} {st : List Value} {M : mj_H} : mj_Rn d mj_m85 252 ls st M = mj_Rn d mj_m85 254 ls (.ref 9 :: st) M := mj_R3 (r := (.ldc 230, 2, 2, 10, 16426)) rfl rfl
theorem s85_254 {d : Nat} {ls : mj_L} {st : List Value} {M : mj_H} : mj_Rn (d + 1) mj_m85 254 ls st M = mq_k5a (d + 1) mj_m85 257 ls M 90 (mq_cb 0 2 4 st M) := mj_R5e (r := (.invokevirtual 173, 3, 0, 90, 12498)) (z := mj_m90) rfl rfl (by decide) (by decide) rfl
theorem s85_257 {d : Nat} {ls : mj_L} {st : List Value} {M : mj_H} : mj_Rn (d + 1) mj_m85 257 ls st M = mq_k5a (d + 1) mj_m85 260 ls M 120 (mq_cb 0 1 4 st M) := mj_R5e (r := (.invokevirtual 223, 3, 0, 120, 16492)) (z := mj_m120) rfl rfl (by decide) (by decide) rfl
theorem s85_260 {d : Nat} {ls : mj_L} {st : List Value} {M : mj_H} : mj_Rn d mj_m85 260 ls st M = mq_k1 d mj_m85 262 M (mj_lo 9 (.istore 8) ls st) := mj_R1 (r := (.istore 8, 2, 0, 0, 0)) rfl rfl
theorem s85_262 {d : Nat} {ls : mj_L} {st : List Value} {M : mj_H} : mj_Rn d mj_m85 262 ls st M = mq_k0 d mj_m85 264 ls M (mj_ldi (mj_lk ls 8) st) := mj_R0 (r := (.iload 8, 2, 0, 0, 0)) rfl rfl
theorem s85_264 {d : Nat} {ls : mj_L} {st : List Value} {M : mj_H} : mj_Rn d mj_m85 264 ls st M = mq_k2 d mj_m85 ls M (mj_br (.ifCond .eq 35) 264 st) := mj_R2 (r := (.ifCond .eq 35, 3, 0, 0, 0)) rfl rfl
theorem s85_267 {d : Nat} {ls : mj_L} {st : List Value} {M : mj_H} : mj_Rn d mj_m85 267 ls st M = mq_k0 d mj_m85 268 ls M (mj_lda (mj_lk ls 0) st) := mj_R0 (r := (.aload_n 0, 1, 0, 0, 0)) rfl rfl
theorem s85_268 {d : Nat} {ls : mj_L} {st : List Value} {M : mj_H} : mj_Rn d mj_m85 268 ls st M = mq_k0 d mj_m85 271 ls M (mq_gf 5 2 st M) := (mj_R3 (r := (.getfield 22, 3, 5, 2, 16600)) rfl rfl).trans (congrArg (mq_k0 d mj_m85 271 ls M) mq_gf_eq)
theorem s85_271 {d : Nat} {ls : mj_L} {st : List Value} {M : mj_H} : mj_Rn d mj_m85 271 ls st M = mq_k0 d mj_m85 272 ls M (mj_ldi (mj_lk ls 3) st) := mj_R0 (r := (.iload_n 3, 1, 0, 0, 0)) rfl rfl
theorem s85_272 {d : Nat} {ls : mj_L} {st : List Value} {M : mj_H} : mj_Rn d mj_m85 272 ls st M = mq_k0 d mj_m85 273 ls M (mj_lda (mj_lk ls 0) st) := mj_R0 (r := (.aload_n 0, 1, 0, 0, 0)) rfl rfl
theorem s85_273 {d : Nat} {ls : mj_L} {st : List Value} {M : mj_H} : mj_Rn d mj_m85 273 ls st M = mq_k0 d mj_m85 276 ls M (mq_gf 5 1 st M) := (mj_R3 (r := (.getfield 15, 3, 5, 1, 16598)) rfl rfl).trans (congrArg (mq_k0 d mj_m85 276 ls M) mq_gf_eq)
theorem s85_276 {d : Nat} {ls : mj_L} {st : List Value} {M : mj_H} : mj_Rn d mj_m85 276 ls st M = mq_k0 d mj_m85 278 ls M (mj_ldi (mj_lk ls 7) st) := mj_R0 (r := (.iload 7, 2, 0, 0, 0)) rfl rfl
theorem s85_278 {d : Nat} {ls : mj_L} {st : List Value} {M : mj_H} : mj_Rn (d + 1) mj_m85 278 ls st M = mq_k5a (d + 1) mj_m85 281 ls M 110 (mq_cb 0 1 4 st M) := mj_R5e (r := (.invokevirtual 232, 3, 0, 110, 16509)) (z := mj_m110) rfl rfl (by decide) (by decide) rfl
theorem s85_281 {d : Nat} {ls : mj_L} {st : List Value} {M : mj_H} : mj_Rn d mj_m85 281 ls st M = mq_k0 d mj_m85 282 ls M (mj_lda (mj_lk ls 0) st) := mj_R0 (r := (.aload_n 0, 1, 0, 0, 0)) rfl rfl
theorem s85_282 {d : Nat} {ls : mj_L} {st : List Value} {M : mj_H} : mj_Rn d mj_m85 282 ls st M = mq_k0 d mj_m85 285 ls M (mq_gf 5 1 st M) := (mj_R3 (r := (.getfield 15, 3, 5, 1, 16598)) rfl rfl).trans (congrArg (mq_k0 d mj_m85 285 ls M) mq_gf_eq)
theorem s85_285 {d : Nat} {ls : mj_L} {st : List Value} {M : mj_H} : mj_Rn d mj_m85 285 ls st M = mq_k0 d mj_m85 287 ls M (mj_ldi (mj_lk ls 7) st) := mj_R0 (r := (.iload 7, 2, 0, 0, 0)) rfl rfl
theorem s85_287 {d : Nat} {ls : mj_L} {st : List Value} {M : mj_H} : mj_Rn (d + 1) mj_m85 287 ls st M = mq_k5a (d + 1) mj_m85 290 ls M 88 (mq_cb 0 1 4 st M) := mj_R5e (r := (.invokevirtual 154, 3, 0, 88, 16458)) (z := mj_m88) rfl rfl (by decide) (by decide) rfl
theorem s85_290 {d : Nat} {ls : mj_L} {st : List Value} {M : mj_H} : mj_Rn (d + 1) mj_m85 290 ls st M = mq_k5a (d + 1) mj_m85 293 ls M 124 (mq_cb 0 3 8 st M) := mj_R5e (r := (.invokevirtual 236, 3, 0, 124, 16510)) (z := mj_m124) rfl rfl (by decide) (by decide) rfl
theorem s85_293 {d : Nat} {ls : mj_L} {st : List Value} {M : mj_H} : mj_Rn d mj_m85 293 ls st M = mq_k2 d mj_m85 ls M (mj_br (.ifCond .ne 6) 293 st) := mj_R2 (r := (.ifCond .ne 6, 3, 0, 0, 0)) rfl rfl
theorem s85_296 {d : Nat} {ls : mj_L} {st : List Value} {M : mj_H} : mj_Rn d mj_m85 296 ls st M = mj_Rn d mj_m85 298 ls (.int 40 :: st) M := mj_R0 (r := (.bipush 40, 2, 0, 0, 0)) rfl rfl
theorem s85_298 {d : Nat} {ls : mj_L} {st : List Value} {M : mj_H} : mj_Rn d mj_m85 298 ls st M = mq_k6 M (mj_re (some .int) (.ireturn) st) := mj_R6 (r := (.ireturn, 1, 0, 0, 0)) rfl rfl
theorem s85_299 {d : Nat} {ls : mj_L} {st : List Value} {M : mj_H} : mj_Rn d mj_m85 299 ls st M = mq_k0 d mj_m85 301 ls M (mj_ldi (mj_lk ls 8) st) := mj_R0 (r := (.iload 8, 2, 0, 0, 0)) rfl rfl
theorem s85_301 {d : Nat} {ls : mj_L} {st : List Value} {M : mj_H} : mj_Rn d mj_m85 301 ls st M = mq_k2 d mj_m85 ls M (mj_br (.ifCond .eq 15) 301 st) := mj_R2 (r := (.ifCond .eq 15, 3, 0, 0, 0)) rfl rfl
theorem s85_304 {d : Nat} {ls : mj_L} {st : List Value} {M : mj_H} : mj_Rn d mj_m85 304 ls st M = mq_k0 d mj_m85 305 ls M (mj_lda (mj_lk ls 0) st) := mj_R0 (r := (.aload_n 0, 1, 0, 0, 0)) rfl rfl
theorem s85_305 {d : Nat} {ls : mj_L} {st : List Value} {M : mj_H} : mj_Rn d mj_m85 305 ls st M = mq_k0 d mj_m85 307 ls M (mj_ldi (mj_lk ls 7) st) := mj_R0 (r := (.iload 7, 2, 0, 0, 0)) rfl rfl
theorem s85_307 {d : Nat} {ls : mj_L} {st : List Value} {M : mj_H} : mj_Rn (d + 1) mj_m85 307 ls st M = mq_k5a (d + 1) mj_m85 310 ls M 125 (mq_cb 0 1 5 st M) := mj_R5e (r := (.invokevirtual 240, 3, 0, 125, 16514)) (z := mj_m125) rfl rfl (by decide) (by decide) rfl
theorem s85_310 {d : Nat} {ls : mj_L} {st : List Value} {M : mj_H} : mj_Rn d mj_m85 310 ls st M = mq_k2 d mj_m85 ls M (mj_br (.ifCond .eq 43) 310 st) := mj_R2 (r := (.ifCond .eq 43, 3, 0, 0, 0)) rfl rfl
theorem s85_313 {d : Nat} {ls : mj_L} {st : List Value} {M : mj_H} : mj_Rn d mj_m85 313 ls st M = mj_Rn d mj_m85 323 ls st M := mj_R2 (r := (.goto 10, 3, 0, 0, 0)) rfl rfl
theorem s85_316 {d : Nat} {ls : mj_L} {st : List Value} {M : mj_H} : mj_Rn d mj_m85 316 ls st M = mq_k0 d mj_m85 317 ls M (mj_lda (mj_lk ls 0) st) := mj_R0 (r := (.aload_n 0, 1, 0, 0, 0)) rfl rfl
theorem s85_317 {d : Nat} {ls : mj_L} {st : List Value} {M : mj_H} : mj_Rn (d + 1) mj_m85 317 ls st M = mq_k5a (d + 1) mj_m85 320 ls M 127 (mq_cb 0 0 5 st M) := mj_R5e (r := (.invokevirtual 243, 3, 0, 127, 16523)) (z := mj_m127) rfl rfl (by decide) (by decide) rfl
theorem s85_320 {d : Nat} {ls : mj_L} {st : List Value} {M : mj_H} : mj_Rn d mj_m85 320 ls st M = mq_k2 d mj_m85 ls M (mj_br (.ifCond .eq 33) 320 st) := mj_R2 (r := (.ifCond .eq 33, 3, 0, 0, 0)) rfl rfl
theorem s85_323 {d : Nat} {ls : mj_L} {st : List Value} {M : mj_H} : mj_Rn d mj_m85 323 ls st M = mq_k0 d mj_m85 324 ls M (mj_lda (mj_lk ls 0) st) := mj_R0 (r := (.aload_n 0, 1, 0, 0, 0)) rfl rfl
theorem s85_324 {d : Nat} {ls : mj_L} {st : List Value} {M : mj_H} : mj_Rn d mj_m85 324 ls st M = mq_k0 d mj_m85 325 ls M (mj_lda (mj_lk ls 0) st) := mj_R0 (r := (.aload_n 0, 1, 0, 0, 0)) rfl rfl
theorem s85_325 {d : Nat} {ls : mj_L} {st : List Value} {M : mj_H} : mj_Rn d mj_m85 325 ls st M = mq_k0 d mj_m85 328 ls M (mq_gf 5 2 st M) := (mj_R3 (r := (.getfield 22, 3, 5, 2, 16600)) rfl rfl).trans (congrArg (mq_k0 d mj_m85 328 ls M) mq_gf_eq)
theorem s85_328 {d : Nat} {ls : mj_L} {st : List Value} {M : mj_H} : mj_Rn d mj_m85 328 ls st M = mq_k0 d mj_m85 331 ls M (mq_gf 8 3 st M) := (mj_R3 (r := (.getfield 246, 3, 8, 3, 16491)) rfl rfl).trans (congrArg (mq_k0 d mj_m85 331 ls M) mq_gf_eq)
theorem s85_331 {d : Nat} {ls : mj_L} {st : List Value} {M : mj_H} : mj_Rn d mj_m85 331 ls st M = mq_k0 d mj_m85 333 ls M (mj_ldi (mj_lk ls 6) st) := mj_R0 (r := (.iload 6, 2, 0, 0, 0)) rfl rfl
theorem s85_333 {d : Nat} {ls : mj_L} {st : List Value} {M : mj_H} : mj_Rn d mj_m85 333 ls st M = mq_k0 d mj_m85 335 ls M (mj_ldi (mj_lk ls 8) st) := mj_R0 (r := (.iload 8, 2, 0, 0, 0)) rfl rfl
theorem s85_335 {d : Nat} {ls : mj_L} {st : List Value} {M : mj_H} : mj_Rn d mj_m85 335 ls st M = mq_k2 d mj_m85 ls M (mj_br (.ifCond .eq 7) 335 st) := mj_R2 (r := (.ifCond .eq 7, 3, 0, 0, 0)) rfl rfl
theorem s85_338 {d : Nat} {ls : mj_L} {st : List Value} {M : mj_H} : mj_Rn d mj_m85 338 ls st M = mj_Rn d mj_m85 339 ls (.int 0 :: st) M := mj_R0 (r := (.iconst 0, 1, 0, 0, 0)) rfl rfl
theorem s85_339 {d : Nat} {ls : mj_L} {st : List Value} {M : mj_H} : mj_Rn d mj_m85 339 ls st M = mj_Rn d mj_m85 349 ls st M := mj_R2 (r := (.goto 10, 3, 0, 0, 0)) rfl rfl
theorem s85_342 {d : Nat} {ls : mj_L} {st : List Value} {M : mj_H} : mj_Rn d mj_m85 342 ls st M = mq_k0 d mj_m85 343 ls M (mj_lda (mj_lk ls 0) st) := mj_R0 (r := (.aload_n 0, 1, 0, 0, 0)) rfl rfl
theorem s85_343 {d : Nat} {ls : mj_L} {st : List Value} {M : mj_H} : mj_Rn d mj_m85 343 ls st M = mq_k0 d mj_m85 346 ls M (mq_gf 5 2 st M) := (mj_R3 (r := (.getfield 22, 3, 5, 2, 16600)) rfl rfl).trans (congrArg (mq_k0 d mj_m85 346 ls M) mq_gf_eq)
theorem s85_346 {d : Nat} {ls : mj_L} {st : List Value} {M : mj_H} : mj_Rn d mj_m85 346 ls st M = mq_k0 d mj_m85 349 ls M (mq_gf 8 13 st M) := (mj_R3 (r := (.getfield 250, 3, 8, 13, 16525)) rfl rfl).trans (congrArg (mq_k0 d mj_m85 349 ls M) mq_gf_eq)
theorem s85_349 {d : Nat} {ls : mj_L} {st : List Value} {M : mj_H} : mj_Rn d mj_m85 349 ls st M = mq_k0 d mj_m85 350 ls M (mj_ldi (mj_lk ls 2) st) := mj_R0 (r := (.iload_n 2, 1, 0, 0, 0)) rfl rfl
theorem s85_350 {d : Nat} {ls : mj_L} {st : List Value} {M : mj_H} : mj_Rn (d + 1) mj_m85 350 ls st M = mq_k5a (d + 1) mj_m85 353 ls M 128 (mq_cb 0 4 5 st M) := mj_R5e (r := (.invokevirtual 253, 3, 0, 128, 16527)) (z := mj_m128) rfl rfl (by decide) (by decide) rfl
theorem s85_353 {d : Nat} {ls : mj_L} {st : List Value} {M : mj_H} : mj_Rn d mj_m85 353 ls st M = mj_Rn d mj_m85 354 ls (.int 0 :: st) M := mj_R0 (r := (.iconst 0, 1, 0, 0, 0)) rfl rfl
theorem s85_354 {d : Nat} {ls : mj_L} {st : List Value} {M : mj_H} : mj_Rn d mj_m85 354 ls st M = mq_k6 M (mj_re (some .int) (.ireturn) st) := mj_R6 (r := (.ireturn, 1, 0, 0, 0)) rfl rfl
theorem c85 {d : Nat} {a0 : Nat} {M : mj_H} : mj_V (d + 1) 85 [.ref a0] M = mj_Rn d mj_m85 0 [(0, .ref a0)] [] M := mj_V_go rfl (Nat.le_of_ble_eq_true rfl)
def mk_party (T : Tm) (ms : List Int32) : Int32 := nI (tm_ix T.1 (7 :: oBy ms (cbNm ms id_ (mem ms 2))))
/-- the end of MAKE: the press is taken -/
def mk_end (ms : List Int32) (k : Ky) (T : Tm) : Int32 × Ky × Tm :=
  if oSim ms 21 (cbNm ms rk_ (mem ms 7)) then
    (if fs_need k.1.1.1.1.2.2.2.2.2.2.2.2.2.2.2 (mk_party T ms) (oBy ms (cbNm ms id_ (mem ms 3))) ≤ 256 then
      (if (fs_wr (bs_cm k T (oBy ms (cbNm ms id_ (mem ms 2))) (oBy ms (cbNm ms id_ (mem ms 3)))).row k.1.1.1.1).2 then
        (0, tl_k (bs_k k T (oBy ms (cbNm ms id_ (mem ms 2))) (oBy ms (cbNm ms id_ (mem ms 3)))) (bs_T T (oBy ms (cbNm ms id_ (mem ms 2)))) (if mem ms 8 = none then 65 else 69) 0 (o4 ms (mem ms 1)),
          tl_T (bs_k k T (oBy ms (cbNm ms id_ (mem ms 2))) (oBy ms (cbNm ms id_ (mem ms 3)))).1.1.2.2 (bs_T T (oBy ms (cbNm ms id_ (mem ms 2)))) (if mem ms 8 = none then 65 else 69) 0 (o4 ms (mem ms 1)))
      else (0, bs_k k T (oBy ms (cbNm ms id_ (mem ms 2))) (oBy ms (cbNm ms id_ (mem ms 3))), bs_T T (oBy ms (cbNm ms id_ (mem ms 2)))))
    else (40, k, T))
  else (0, tl_k (bw_k k T (oBy ms (cbNm ms id_ (mem ms 2)))) (bw_T k T (oBy ms (cbNm ms id_ (mem ms 2)))) (if mem ms 8 = none then 65 else 69) k.1.1.1.1.2.2.2.2.2.2.2.2.2.2.1 (o4 ms (mem ms 1)),
    tl_T (bw_k k T (oBy ms (cbNm ms id_ (mem ms 2)))).1.1.2.2 (bw_T k T (oBy ms (cbNm ms id_ (mem ms 2)))) (if mem ms 8 = none then 65 else 69) k.1.1.1.1.2.2.2.2.2.2.2.2.2.2.1 (o4 ms (mem ms 1)))
def mk_pin (ms : List Int32) (k : Ky) (T : Tm) : Int32 × Ky := if mem ms 8 = none then (if k.1.1.1.1.2.2.2.2.2.2.2.2.1 = 0 then 0 else 54, k) else pnTest k T ms (mem ms 8) (mem ms 9) (o4 ms (mem ms 1))
def ky_make (ms : List Int32) (k : Ky) (T : Tm) : Int32 × Ky × Tm :=
  if mkFault ms ≠ 0 then (mkFault ms, k, T)
  else if ky_fo k T ms (mk_party T ms) (mem ms 5) ≠ 0 then (if k.1.2.1.1 = 0 then 39 else 25, ky_took k, T)
  else if ky_ha ms (mem ms 4) = false then (38, k, T)
  else if oSim ms 21 (cbNm ms uv_ (mem ms 7)) then (43, k, T)
  else if (mk_pin ms k T).1 ≠ 0 then ((mk_pin ms k T).1, (mk_pin ms k T).2, T)
  else if k.1.2.1.1 = 0 then (39, k, T)
  else mk_end ms (ky_took k) T
theorem mkFault_ok {ms : List Int32} (h : mkFault ms = 0) : (∃ p, cbNm ms id_ (mem ms 2) = some p ∧ cbS ms p = 3) ∧ (∃ pu, cbNm ms id_ (mem ms 3) = some pu ∧ cbS ms pu = 2 ∧ 1 ≤ cbV ms pu ∧ cbV ms pu ≤ 8) ∧ oFit ms 4 (mem ms 4) = true ∧ oFit ms 4 (mem ms 5) = true := by
  unfold mkFault at h
  split at h
  · cases h
  · next hf =>
    split at h
    · cases h
    · next hn =>
      split at h
      · cases h
      · split at h
        · next hl =>
          simp only [mkFit, Bool.and_eq_true, Bool.not_eq_false] at hf
          simp only [not_or] at hn
          obtain ⟨f1, f2, f3, f4, f5, f6, f7, f8, f9, f10⟩ := hf
          obtain ⟨n1, n2, n3, n4⟩ := hn
          obtain ⟨l1, l2, l3⟩ := hl
          refine ⟨?_, ?_, cbLf_4 f6, cbLf_4 f7⟩
          · cases hc : cbNm ms id_ (mem ms 2) with
            | none => exact absurd hc n2
            | some p =>
              rw [hc] at f3
              exact ⟨p, rfl, by simpa [oFit] using f3⟩
          · cases hc : cbNm ms id_ (mem ms 3) with
            | none => exact absurd hc n3
            | some p =>
              rw [hc] at f5 l3
              exact ⟨p, rfl, by simpa [oFit] using f5, l3⟩
        · cases h
section KZ
variable {A : Nat → Prop} {κ : Nat} {M M' : mj_H} {k : Ky} {T T' : Tm} {row row' : List Int32} {d : Nat} {ms : List Int32} {n : Nat} {S V H E N : List Int32} {i : Int32} {o : Option Nat}
theorem or_654 : (65 : Int32) ||| 4 = 69 := by decide
theorem tookd (k : Ky) : (ky_took k).1.1.1.1 = k.1.1.1.1 ∧ (ky_took k).1.1.1.2 = k.1.1.1.2 ∧ (ky_took k).1.1.2.2 = k.1.1.2.2 := by unfold ky_took; split <;> exact ⟨rfl, rfl, rfl⟩
/-- from the press on -/
theorem mk_fin {fl y7 y8 : Int32} (z : kz A κ M k T row) (hI : iT M ms n S V H E N) (hw : fw k.1.1.1.1) (hon : k.1.1.1.1.2.1 = true) (hf : T.1.length + 5 < 1000) (hr : k.1.1.1.2.length ≤ 1) (hok : mkFault ms = 0) (hfl : fl = if mem ms 8 = none then 65 else 69) (a7 : iA (tbA S V H E N) ms n y7 (mem ms 7)) :
    ∃ M' row', mj_Rn (d + 10) mj_m85 222 [(6, .int fl), (5, .int y8), (4, .int y7), (3, .int (mk_party T ms)), (2, .int (o4 ms (mem ms 1))), (0, .ref κ)] [] M = some (some (.int (mk_end ms k T).1), M') ∧ kz A κ M' (mk_end ms k T).2.1 (mk_end ms k T).2.2 row' ∧ fx (kS A κ) M M' := by
  obtain ⟨u0, x0⟩ := z.fa
  have ho := hI.u.ob
  obtain ⟨⟨p, hp, hs⟩, ⟨pu, hpu, hsu, hlu⟩, h4, h5⟩ := mkFault_ok hok
  obtain ⟨y3, v3, a3⟩ := q_mem (d := d + 8) (num := 3) (by decide) hI
  obtain ⟨yu, vu, au⟩ := q_named (d := d + 4) hI a3 z.s0
  rw [show cbMb ms (cbTx ms id_) (mem ms 3) = cbNm ms id_ (mem ms 3) from rfl, hpu] at au
  obtain ⟨yr, vr, ar⟩ := q_named (d := d + 4) hI a7 z.s3
  rw [show cbMb ms (cbTx ms rk_) (mem ms 7) = cbNm ms rk_ (mem ms 7) from rfl] at ar
  have vs := (q_sim (d := d + 8) hI ar).1
  rw [show nI 3 = 3 from rfl] at v3
  unfold mk_end
  rw [hp, hpu, ← hfl]
  cases hst : oSim ms 21 (cbNm ms rk_ (mem ms 7)) with
  | false =>
    rw [hst, it_f] at vs
    obtain ⟨M1, row1, p1, z1, f1⟩ := ky_bw (d := d + 1) z hI hp hs (by omega)
    obtain ⟨u1, x1⟩ := z1.fa
    have hT : (bw_T k T (oBy ms (some p))).1.length + 2 < 1000 := by
      have h1 := tm_mk_len (tm_mk (bw_T1 T) (7 :: oBy ms (some p))) [8, k.1.1.1.1.2.2.2.2.2.2.2.1, nI (tm_no (bw_T1 T) (7 :: oBy ms (some p))), nI (T.2.2 + 1)]
      have h2 := tm_mk_len (bw_T1 T) (7 :: oBy ms (some p))
      have h3 : (bw_T1 T).1 = T.1 := rfl
      rw [h3] at h2
      unfold bw_T; omega
    obtain ⟨M2, row2, p2, z2, f2⟩ := ky_tm (d := d + 4) z1 fl k.1.1.1.1.2.2.2.2.2.2.2.2.2.2.1 (o4 ms (mem ms 1)) hT hr
    refine ⟨M2, row2, ?_, z2, f1.trs f2⟩
    have xs : (bw_k k T (oBy ms (some p))).1.1.1.1 = k.1.1.1.1 := rfl
    rw [xs] at x1
    simp (disch := (first | omega | decide)) [s85_0, s85_1, s85_4, s85_5, s85_6, s85_9, s85_10, s85_11, s85_12, s85_15, s85_16, s85_19, s85_20, s85_21, s85_24, s85_27, s85_28, s85_29, s85_30, s85_33, s85_34, s85_37, s85_38, s85_39, s85_42, s85_44, s85_47, s85_50, s85_51, s85_52, s85_55, s85_56, s85_58, s85_61, s85_63, s85_64, s85_67, s85_68, s85_70, s85_73, s85_75, s85_77, s85_79, s85_80, s85_81, s85_84, s85_85, s85_86, s85_89, s85_90, s85_93, s85_96, s85_97, s85_100, s85_103, s85_105, s85_108, s85_110, s85_111, s85_112, s85_113, s85_116, s85_117, s85_118, s85_121, s85_124, s85_127, s85_129, s85_130, s85_131, s85_134, s85_135, s85_138, s85_140, s85_142, s85_145, s85_148, s85_151, s85_153, s85_154, s85_156, s85_157, s85_160, s85_161, s85_164, s85_167, s85_170, s85_172, s85_173, s85_175, s85_176, s85_179, s85_180, s85_182, s85_183, s85_186, s85_187, s85_189, s85_192, s85_193, s85_196, s85_198, s85_200, s85_203, s85_205, s85_206, s85_208, s85_209, s85_210, s85_212, s85_213, s85_216, s85_219, s85_221, s85_222, s85_223, s85_226, s85_227, s85_230, s85_231, s85_232, s85_235, s85_237, s85_240, s85_242, s85_243, s85_246, s85_247, s85_250, s85_252, s85_254, s85_257, s85_260, s85_262, s85_264, s85_267, s85_268, s85_271, s85_272, s85_273, s85_276, s85_278, s85_281, s85_282, s85_285, s85_287, s85_290, s85_293, s85_296, s85_298, s85_299, s85_301, s85_304, s85_305, s85_307, s85_310, s85_313, s85_316, s85_317, s85_320, s85_323, s85_324, s85_325, s85_328, s85_331, s85_333, s85_335, s85_338, s85_339, s85_342, s85_343, s85_346, s85_349, s85_350, s85_353, s85_354, mq_k0s, mq_k1s, mq_k2s, mq_k4s, mq_k5s, mq_k5n, mq_k5as, mq_k6s, mj_pu, mj_lo, mj_br, mj_hr, mj_hw, mq_gf, mq_len, mq_al, mq_pf, mq_ok, mj_re, mq_lkm, mq_lkn, mj_ldi, mj_ldl, mj_lda, mj_ii, mj_ll, mj_li, mj_i1, ms_1, ms_2, f1_n, f1_i, f1_r, f1_u, f1_l, f2_n, f2_i, f2_r, f2_u, f2_l, mj_tg, mj_c1, mj_c2, mj_ar, mj_aw, mq_cb, mq_oi, mj_rm, Value.category, -getElem?_pos, List.getElem?_cons_zero, decide_eq_true, decide_eq_false, nl_lt, nl_le, ln_lt, ln_le, nl_eq, ln_eq, nl_add, ln_add, nl_sub, ln_mul, nI_sub, nI_mul, nI_add, nI_lt_iff, nI_le_iff, nI_inj, nI_num, mq_ix, nI_1, nl_mul, nl_div, x0, ho, v3, vu, vr, vs, p1, x1, p2, narrow]
  | true =>
    rw [hst, it_t] at vs
    obtain ⟨-, hcv⟩ := q_cont (d := 0) hI au (Or.inl hsu)
    have hul : (oBy ms (some pu)).length = cbV ms pu := by simp only [oBy]; exact sl_len hcv
    have vl := q_low (d := d + 8) hI au (Or.inl hsu)
    have vv := q_val (d := d + 9) hI au
    simp only [oV] at vv
    obtain ⟨r0, hk0⟩ := z.st
    have vm := st_room (d := d + 8) (party := mk_party T ms) (u := oBy ms (some pu)) hk0 hw.u (by omega) (sl_by hI.b.2.2.2.2.1 _ _)
    rw [hul] at vm
    by_cases hn : fs_need k.1.1.1.1.2.2.2.2.2.2.2.2.2.2.2 (mk_party T ms) (oBy ms (some pu)) ≤ 256
    · simp only [hn, decide_true] at vm
      obtain ⟨M1, row1, p1, z1, f1⟩ := ky_bs (d := d + 1) z hI hp hs au hsu hlu (by omega) hw hon
      obtain ⟨u1, x1⟩ := z1.fa
      have hT : (bs_T T (oBy ms (some p))).1.length + 2 < 1000 := by
        have h1 := tm_mk_len (tm_mk (bw_T1 T) (7 :: oBy ms (some p))) [1, nI (tm_mk (bw_T1 T) (7 :: oBy ms (some p))).2.1]
        have h2 := tm_mk_len (bw_T1 T) (7 :: oBy ms (some p))
        have h3 : (bw_T1 T).1 = T.1 := rfl
        rw [h3] at h2
        unfold bs_T tm_fresh
        dsimp only
        omega
      rw [if_pos rfl, if_pos hn]
      cases hwr : (fs_wr (bs_cm k T (oBy ms (some p)) (oBy ms (some pu))).row k.1.1.1.1).2 with
      | false =>
        rw [hwr] at p1
        refine ⟨M1, row1, ?_, by simpa using z1, f1⟩
        simp (disch := (first | omega | decide)) [s85_0, s85_1, s85_4, s85_5, s85_6, s85_9, s85_10, s85_11, s85_12, s85_15, s85_16, s85_19, s85_20, s85_21, s85_24, s85_27, s85_28, s85_29, s85_30, s85_33, s85_34, s85_37, s85_38, s85_39, s85_42, s85_44, s85_47, s85_50, s85_51, s85_52, s85_55, s85_56, s85_58, s85_61, s85_63, s85_64, s85_67, s85_68, s85_70, s85_73, s85_75, s85_77, s85_79, s85_80, s85_81, s85_84, s85_85, s85_86, s85_89, s85_90, s85_93, s85_96, s85_97, s85_100, s85_103, s85_105, s85_108, s85_110, s85_111, s85_112, s85_113, s85_116, s85_117, s85_118, s85_121, s85_124, s85_127, s85_129, s85_130, s85_131, s85_134, s85_135, s85_138, s85_140, s85_142, s85_145, s85_148, s85_151, s85_153, s85_154, s85_156, s85_157, s85_160, s85_161, s85_164, s85_167, s85_170, s85_172, s85_173, s85_175, s85_176, s85_179, s85_180, s85_182, s85_183, s85_186, s85_187, s85_189, s85_192, s85_193, s85_196, s85_198, s85_200, s85_203, s85_205, s85_206, s85_208, s85_209, s85_210, s85_212, s85_213, s85_216, s85_219, s85_221, s85_222, s85_223, s85_226, s85_227, s85_230, s85_231, s85_232, s85_235, s85_237, s85_240, s85_242, s85_243, s85_246, s85_247, s85_250, s85_252, s85_254, s85_257, s85_260, s85_262, s85_264, s85_267, s85_268, s85_271, s85_272, s85_273, s85_276, s85_278, s85_281, s85_282, s85_285, s85_287, s85_290, s85_293, s85_296, s85_298, s85_299, s85_301, s85_304, s85_305, s85_307, s85_310, s85_313, s85_316, s85_317, s85_320, s85_323, s85_324, s85_325, s85_328, s85_331, s85_333, s85_335, s85_338, s85_339, s85_342, s85_343, s85_346, s85_349, s85_350, s85_353, s85_354, mq_k0s, mq_k1s, mq_k2s, mq_k4s, mq_k5s, mq_k5n, mq_k5as, mq_k6s, mj_pu, mj_lo, mj_br, mj_hr, mj_hw, mq_gf, mq_len, mq_al, mq_pf, mq_ok, mj_re, mq_lkm, mq_lkn, mj_ldi, mj_ldl, mj_lda, mj_ii, mj_ll, mj_li, mj_i1, ms_1, ms_2, f1_n, f1_i, f1_r, f1_u, f1_l, f2_n, f2_i, f2_r, f2_u, f2_l, mj_tg, mj_c1, mj_c2, mj_ar, mj_aw, mq_cb, mq_oi, mj_rm, Value.category, -getElem?_pos, List.getElem?_cons_zero, decide_eq_true, decide_eq_false, nl_lt, nl_le, ln_lt, ln_le, nl_eq, ln_eq, nl_add, ln_add, nl_sub, ln_mul, nI_sub, nI_mul, nI_add, nI_lt_iff, nI_le_iff, nI_inj, nI_num, mq_ix, nI_1, nl_mul, nl_div, x0, ho, v3, vu, vr, vs, vl, vv, vm, on1, p1, narrow]
      | true =>
        rw [hwr] at p1
        obtain ⟨M2, row2, p2, z2, f2⟩ := ky_tm (d := d + 4) z1 fl 0 (o4 ms (mem ms 1)) hT hr
        refine ⟨M2, row2, ?_, by simpa using z2, f1.trs f2⟩
        simp (disch := (first | omega | decide)) [s85_0, s85_1, s85_4, s85_5, s85_6, s85_9, s85_10, s85_11, s85_12, s85_15, s85_16, s85_19, s85_20, s85_21, s85_24, s85_27, s85_28, s85_29, s85_30, s85_33, s85_34, s85_37, s85_38, s85_39, s85_42, s85_44, s85_47, s85_50, s85_51, s85_52, s85_55, s85_56, s85_58, s85_61, s85_63, s85_64, s85_67, s85_68, s85_70, s85_73, s85_75, s85_77, s85_79, s85_80, s85_81, s85_84, s85_85, s85_86, s85_89, s85_90, s85_93, s85_96, s85_97, s85_100, s85_103, s85_105, s85_108, s85_110, s85_111, s85_112, s85_113, s85_116, s85_117, s85_118, s85_121, s85_124, s85_127, s85_129, s85_130, s85_131, s85_134, s85_135, s85_138, s85_140, s85_142, s85_145, s85_148, s85_151, s85_153, s85_154, s85_156, s85_157, s85_160, s85_161, s85_164, s85_167, s85_170, s85_172, s85_173, s85_175, s85_176, s85_179, s85_180, s85_182, s85_183, s85_186, s85_187, s85_189, s85_192, s85_193, s85_196, s85_198, s85_200, s85_203, s85_205, s85_206, s85_208, s85_209, s85_210, s85_212, s85_213, s85_216, s85_219, s85_221, s85_222, s85_223, s85_226, s85_227, s85_230, s85_231, s85_232, s85_235, s85_237, s85_240, s85_242, s85_243, s85_246, s85_247, s85_250, s85_252, s85_254, s85_257, s85_260, s85_262, s85_264, s85_267, s85_268, s85_271, s85_272, s85_273, s85_276, s85_278, s85_281, s85_282, s85_285, s85_287, s85_290, s85_293, s85_296, s85_298, s85_299, s85_301, s85_304, s85_305, s85_307, s85_310, s85_313, s85_316, s85_317, s85_320, s85_323, s85_324, s85_325, s85_328, s85_331, s85_333, s85_335, s85_338, s85_339, s85_342, s85_343, s85_346, s85_349, s85_350, s85_353, s85_354, mq_k0s, mq_k1s, mq_k2s, mq_k4s, mq_k5s, mq_k5n, mq_k5as, mq_k6s, mj_pu, mj_lo, mj_br, mj_hr, mj_hw, mq_gf, mq_len, mq_al, mq_pf, mq_ok, mj_re, mq_lkm, mq_lkn, mj_ldi, mj_ldl, mj_lda, mj_ii, mj_ll, mj_li, mj_i1, ms_1, ms_2, f1_n, f1_i, f1_r, f1_u, f1_l, f2_n, f2_i, f2_r, f2_u, f2_l, mj_tg, mj_c1, mj_c2, mj_ar, mj_aw, mq_cb, mq_oi, mj_rm, Value.category, -getElem?_pos, List.getElem?_cons_zero, decide_eq_true, decide_eq_false, nl_lt, nl_le, ln_lt, ln_le, nl_eq, ln_eq, nl_add, ln_add, nl_sub, ln_mul, nI_sub, nI_mul, nI_add, nI_lt_iff, nI_le_iff, nI_inj, nI_num, mq_ix, nI_1, nl_mul, nl_div, x0, ho, v3, vu, vr, vs, vl, vv, vm, on1, p1, x1, p2, narrow]
    · rw [if_pos rfl, if_neg hn]
      simp only [hn, decide_false] at vm
      refine ⟨M, row, ?_, z, fx.rf⟩
      simp (disch := (first | omega | decide)) [s85_0, s85_1, s85_4, s85_5, s85_6, s85_9, s85_10, s85_11, s85_12, s85_15, s85_16, s85_19, s85_20, s85_21, s85_24, s85_27, s85_28, s85_29, s85_30, s85_33, s85_34, s85_37, s85_38, s85_39, s85_42, s85_44, s85_47, s85_50, s85_51, s85_52, s85_55, s85_56, s85_58, s85_61, s85_63, s85_64, s85_67, s85_68, s85_70, s85_73, s85_75, s85_77, s85_79, s85_80, s85_81, s85_84, s85_85, s85_86, s85_89, s85_90, s85_93, s85_96, s85_97, s85_100, s85_103, s85_105, s85_108, s85_110, s85_111, s85_112, s85_113, s85_116, s85_117, s85_118, s85_121, s85_124, s85_127, s85_129, s85_130, s85_131, s85_134, s85_135, s85_138, s85_140, s85_142, s85_145, s85_148, s85_151, s85_153, s85_154, s85_156, s85_157, s85_160, s85_161, s85_164, s85_167, s85_170, s85_172, s85_173, s85_175, s85_176, s85_179, s85_180, s85_182, s85_183, s85_186, s85_187, s85_189, s85_192, s85_193, s85_196, s85_198, s85_200, s85_203, s85_205, s85_206, s85_208, s85_209, s85_210, s85_212, s85_213, s85_216, s85_219, s85_221, s85_222, s85_223, s85_226, s85_227, s85_230, s85_231, s85_232, s85_235, s85_237, s85_240, s85_242, s85_243, s85_246, s85_247, s85_250, s85_252, s85_254, s85_257, s85_260, s85_262, s85_264, s85_267, s85_268, s85_271, s85_272, s85_273, s85_276, s85_278, s85_281, s85_282, s85_285, s85_287, s85_290, s85_293, s85_296, s85_298, s85_299, s85_301, s85_304, s85_305, s85_307, s85_310, s85_313, s85_316, s85_317, s85_320, s85_323, s85_324, s85_325, s85_328, s85_331, s85_333, s85_335, s85_338, s85_339, s85_342, s85_343, s85_346, s85_349, s85_350, s85_353, s85_354, mq_k0s, mq_k1s, mq_k2s, mq_k4s, mq_k5s, mq_k5n, mq_k5as, mq_k6s, mj_pu, mj_lo, mj_br, mj_hr, mj_hw, mq_gf, mq_len, mq_al, mq_pf, mq_ok, mj_re, mq_lkm, mq_lkn, mj_ldi, mj_ldl, mj_lda, mj_ii, mj_ll, mj_li, mj_i1, ms_1, ms_2, f1_n, f1_i, f1_r, f1_u, f1_l, f2_n, f2_i, f2_r, f2_u, f2_l, mj_tg, mj_c1, mj_c2, mj_ar, mj_aw, mq_cb, mq_oi, mj_rm, Value.category, -getElem?_pos, List.getElem?_cons_zero, decide_eq_true, decide_eq_false, nl_lt, nl_le, ln_lt, ln_le, nl_eq, ln_eq, nl_add, ln_add, nl_sub, ln_mul, nI_sub, nI_mul, nI_add, nI_lt_iff, nI_le_iff, nI_inj, nI_num, mq_ix, nI_1, nl_mul, nl_div, x0, ho, v3, vu, vr, vs, vl, vv, vm, on1, narrow]
theorem pn_0 {k : Ky} {T : Tm} {ms : List Int32} {o o2 : Option Nat} {h : Int32} (hp : (pnTest k T ms o o2 h).1 = 0) : (pnTest k T ms o o2 h).2 = k := by
  unfold pnTest at hp ⊢
  by_cases h1 : oVn ms o = 0
  · rw [if_pos h1] at hp ⊢
    by_cases h2 : k.1.2.1.1 = 0
    · rw [if_pos h2]
    · rw [if_neg h2] at hp
      exfalso
      by_cases h3 : k.1.1.1.1.2.2.2.2.2.2.2.2.1 = 0
      · simp [h3] at hp
      · simp [h3] at hp
  · rw [if_neg h1]
    split
    · rfl
    · split <;> rfl
theorem ky_mak (z : kz A κ M k T row) (hI : iT M ms n S V H E N) (hw : fw k.1.1.1.1) (hon : k.1.1.1.1.2.1 = true) (hwt : k.1.2.1.1 ≤ 9) (hf : T.1.length + 5 < 1000) (hr : k.1.1.1.2.length ≤ 1) : ∃ M' row', mj_V (d + 11) 85 [.ref κ] M = some (some (.int (ky_make ms k T).1), M') ∧ kz A κ M' (ky_make ms k T).2.1 (ky_make ms k T).2.2 row' ∧ fx (kS A κ) M M' := by
  obtain ⟨u0, x0⟩ := z.fa
  have ho := hI.u.ob
  have vf := ky_mf (d := d) z hI
  unfold ky_make
  by_cases hok : mkFault ms = 0; rotate_left
  · rw [if_pos hok]
    refine ⟨M, row, ?_, z, fx.rf⟩
    simp (disch := (first | omega | decide)) [c85, s85_0, s85_1, s85_4, s85_5, s85_6, s85_9, s85_10, s85_11, s85_12, s85_15, s85_16, s85_19, s85_20, s85_21, s85_24, s85_27, s85_28, s85_29, s85_30, s85_33, s85_34, s85_37, s85_38, s85_39, s85_42, s85_44, s85_47, s85_50, s85_51, s85_52, s85_55, s85_56, s85_58, s85_61, s85_63, s85_64, s85_67, s85_68, s85_70, s85_73, s85_75, s85_77, s85_79, s85_80, s85_81, s85_84, s85_85, s85_86, s85_89, s85_90, s85_93, s85_96, s85_97, s85_100, s85_103, s85_105, s85_108, s85_110, s85_111, s85_112, s85_113, s85_116, s85_117, s85_118, s85_121, s85_124, s85_127, s85_129, s85_130, s85_131, s85_134, s85_135, s85_138, s85_140, s85_142, s85_145, s85_148, s85_151, s85_153, s85_154, s85_156, s85_157, s85_160, s85_161, s85_164, s85_167, s85_170, s85_172, s85_173, s85_175, s85_176, s85_179, s85_180, s85_182, s85_183, s85_186, s85_187, s85_189, s85_192, s85_193, s85_196, s85_198, s85_200, s85_203, s85_205, s85_206, s85_208, s85_209, s85_210, s85_212, s85_213, s85_216, s85_219, s85_221, s85_222, s85_223, s85_226, s85_227, s85_230, s85_231, s85_232, s85_235, s85_237, s85_240, s85_242, s85_243, s85_246, s85_247, s85_250, s85_252, s85_254, s85_257, s85_260, s85_262, s85_264, s85_267, s85_268, s85_271, s85_272, s85_273, s85_276, s85_278, s85_281, s85_282, s85_285, s85_287, s85_290, s85_293, s85_296, s85_298, s85_299, s85_301, s85_304, s85_305, s85_307, s85_310, s85_313, s85_316, s85_317, s85_320, s85_323, s85_324, s85_325, s85_328, s85_331, s85_333, s85_335, s85_338, s85_339, s85_342, s85_343, s85_346, s85_349, s85_350, s85_353, s85_354, mq_k0s, mq_k1s, mq_k2s, mq_k4s, mq_k5s, mq_k5n, mq_k5as, mq_k6s, mj_pu, mj_lo, mj_br, mj_hr, mj_hw, mq_gf, mq_len, mq_al, mq_pf, mq_ok, mj_re, mq_lkm, mq_lkn, mj_ldi, mj_ldl, mj_lda, mj_ii, mj_ll, mj_li, mj_i1, ms_1, ms_2, f1_n, f1_i, f1_r, f1_u, f1_l, f2_n, f2_i, f2_r, f2_u, f2_l, mj_tg, mj_c1, mj_c2, mj_ar, mj_aw, mq_cb, mq_oi, mj_rm, Value.category, -getElem?_pos, List.getElem?_cons_zero, decide_eq_true, decide_eq_false, nl_lt, nl_le, ln_lt, ln_le, nl_eq, ln_eq, nl_add, ln_add, nl_sub, ln_mul, nI_sub, nI_mul, nI_add, nI_lt_iff, nI_le_iff, nI_inj, nI_num, mq_ix, nI_1, nl_mul, nl_div, x0, vf, hok, narrow]
  rw [if_neg (by simp [hok])]
  obtain ⟨⟨p, hp, hs⟩, ⟨pu, hpu, hsu, hlu⟩, h4, h5⟩ := mkFault_ok hok
  obtain ⟨y1, v1, a1⟩ := q_mem (d := d + 8) (num := 1) (by decide) hI
  obtain ⟨y2, v2, a2⟩ := q_mem (d := d + 8) (num := 2) (by decide) hI
  obtain ⟨yn, vn, an⟩ := q_named (d := d + 4) hI a2 z.s0
  rw [show cbMb ms (cbTx ms id_) (mem ms 2) = cbNm ms id_ (mem ms 2) from rfl, hp] at an
  have w1 := q_four (d := d + 7) hI a1
  obtain ⟨M1, p1, z1, f1⟩ := ky_khash (d := d + 6) z hI an (Or.inr hs)
  rw [← hp, show nI (tm_ix T.1 (7 :: oBy ms (cbNm ms id_ (mem ms 2)))) = mk_party T ms from rfl] at p1
  obtain ⟨u1, x1⟩ := z1.fa
  have hI1 := z.it f1 hI
  have ho1 := hI1.u.ob
  obtain ⟨y7, v7, a7⟩ := q_mem (d := d + 8) (num := 7) (by decide) hI1
  obtain ⟨y8, v8, a8⟩ := q_mem (d := d + 8) (num := 8) (by decide) hI1
  obtain ⟨y9, v9, a9⟩ := q_mem (d := d + 8) (num := 9) (by decide) hI1
  obtain ⟨y5, v5, a5⟩ := q_mem (d := d + 8) (num := 5) (by decide) hI1
  obtain ⟨y4, v4, a4⟩ := q_mem (d := d + 8) (num := 4) (by decide) hI1
  obtain ⟨yv, vv, av⟩ := q_named (d := d + 4) hI1 a7 z1.s4
  rw [show cbMb ms (cbTx ms uv_) (mem ms 7) = cbNm ms uv_ (mem ms 7) from rfl] at av
  have w5 := ky_first (d := d + 2) z1 hI1 a5 h5 (mk_party T ms)
  have w4 := ky_has (d := d + 2) z1 hI1 a4 h4
  have wv := (q_sim (d := d + 8) hI1 av).1
  have n8 := iA.neg hI1 a8
  simp only [show nI 1 = 1 from rfl, show nI 2 = 2 from rfl, show nI 4 = 4 from rfl, show nI 5 = 5 from rfl, show nI 7 = 7 from rfl, show nI 8 = 8 from rfl, show nI 9 = 9 from rfl] at v1 v2 v4 v5 v7 v8 v9
  have pre : ∀ q, mj_Rn (d + 10) mj_m85 79 [(6, .int 65), (5, .int y8), (4, .int y7), (3, .int (mk_party T ms)), (2, .int (o4 ms (mem ms 1))), (0, .ref κ)] [] M1 = some q → mj_V (d + 11) 85 [.ref κ] M = some q := by
    intro q hq
    simp (disch := (first | omega | decide)) [c85, s85_0, s85_1, s85_4, s85_5, s85_6, s85_9, s85_10, s85_11, s85_12, s85_15, s85_16, s85_19, s85_20, s85_21, s85_24, s85_27, s85_28, s85_29, s85_30, s85_33, s85_34, s85_37, s85_38, s85_39, s85_42, s85_44, s85_47, s85_50, s85_51, s85_52, s85_55, s85_56, s85_58, s85_61, s85_63, s85_64, s85_67, s85_68, s85_70, s85_73, s85_75, s85_77, s85_80, s85_81, s85_84, s85_85, s85_86, s85_89, s85_90, s85_93, s85_96, s85_97, s85_100, s85_103, s85_105, s85_108, s85_110, s85_111, s85_112, s85_113, s85_116, s85_117, s85_118, s85_121, s85_124, s85_127, s85_129, s85_130, s85_131, s85_134, s85_135, s85_138, s85_140, s85_142, s85_145, s85_148, s85_151, s85_153, s85_154, s85_156, s85_157, s85_160, s85_161, s85_164, s85_167, s85_170, s85_172, s85_173, s85_175, s85_176, s85_179, s85_180, s85_182, s85_183, s85_186, s85_187, s85_189, s85_192, s85_193, s85_196, s85_198, s85_200, s85_203, s85_205, s85_206, s85_208, s85_209, s85_210, s85_212, s85_213, s85_216, s85_219, s85_221, s85_222, s85_223, s85_226, s85_227, s85_230, s85_231, s85_232, s85_235, s85_237, s85_240, s85_242, s85_243, s85_246, s85_247, s85_250, s85_252, s85_254, s85_257, s85_260, s85_262, s85_264, s85_267, s85_268, s85_271, s85_272, s85_273, s85_276, s85_278, s85_281, s85_282, s85_285, s85_287, s85_290, s85_293, s85_296, s85_298, s85_299, s85_301, s85_304, s85_305, s85_307, s85_310, s85_313, s85_316, s85_317, s85_320, s85_323, s85_324, s85_325, s85_328, s85_331, s85_333, s85_335, s85_338, s85_339, s85_342, s85_343, s85_346, s85_349, s85_350, s85_353, s85_354, mq_k0s, mq_k1s, mq_k2s, mq_k4s, mq_k5s, mq_k5n, mq_k5as, mq_k6s, mj_pu, mj_lo, mj_br, mj_hr, mj_hw, mq_gf, mq_len, mq_al, mq_pf, mq_ok, mj_re, mq_lkm, mq_lkn, mj_ldi, mj_ldl, mj_lda, mj_ii, mj_ll, mj_li, mj_i1, ms_1, ms_2, f1_n, f1_i, f1_r, f1_u, f1_l, f2_n, f2_i, f2_r, f2_u, f2_l, mj_tg, mj_c1, mj_c2, mj_ar, mj_aw, mq_cb, mq_oi, mj_rm, Value.category, -getElem?_pos, List.getElem?_cons_zero, decide_eq_true, decide_eq_false, nl_lt, nl_le, ln_lt, ln_le, nl_eq, ln_eq, nl_add, ln_add, nl_sub, ln_mul, nI_sub, nI_mul, nI_add, nI_lt_iff, nI_le_iff, nI_inj, nI_num, mq_ix, nI_1, nl_mul, nl_div, x0, vf, hok, ho, v1, w1, v2, vn, p1, x1, ho1, v7, v8]
    refine mq_wk ?_ hq
    simp [mq_sub, mj_lk]
  by_cases c1 : ky_fo k T ms (mk_party T ms) (mem ms 5) = 0; rotate_left
  · rw [if_pos c1]
    obtain ⟨M2, p2, z2, f2⟩ := ky_take (d := d + 9) z1 hwt
    refine ⟨M2, _, pre _ ?_, z2, f1.trs f2⟩
    by_cases hk : k.1.2.1.1 = 0
    · simp (disch := (first | omega | decide)) [s85_0, s85_1, s85_4, s85_5, s85_6, s85_9, s85_10, s85_11, s85_12, s85_15, s85_16, s85_19, s85_20, s85_21, s85_24, s85_27, s85_28, s85_29, s85_30, s85_33, s85_34, s85_37, s85_38, s85_39, s85_42, s85_44, s85_47, s85_50, s85_51, s85_52, s85_55, s85_56, s85_58, s85_61, s85_63, s85_64, s85_67, s85_68, s85_70, s85_73, s85_75, s85_77, s85_79, s85_80, s85_81, s85_84, s85_85, s85_86, s85_89, s85_90, s85_93, s85_96, s85_97, s85_100, s85_103, s85_105, s85_108, s85_110, s85_111, s85_112, s85_113, s85_116, s85_117, s85_118, s85_121, s85_124, s85_127, s85_129, s85_130, s85_131, s85_134, s85_135, s85_138, s85_140, s85_142, s85_145, s85_148, s85_151, s85_153, s85_154, s85_156, s85_157, s85_160, s85_161, s85_164, s85_167, s85_170, s85_172, s85_173, s85_175, s85_176, s85_179, s85_180, s85_182, s85_183, s85_186, s85_187, s85_189, s85_192, s85_193, s85_196, s85_198, s85_200, s85_203, s85_205, s85_206, s85_208, s85_209, s85_210, s85_212, s85_213, s85_216, s85_219, s85_221, s85_222, s85_223, s85_226, s85_227, s85_230, s85_231, s85_232, s85_235, s85_237, s85_240, s85_242, s85_243, s85_246, s85_247, s85_250, s85_252, s85_254, s85_257, s85_260, s85_262, s85_264, s85_267, s85_268, s85_271, s85_272, s85_273, s85_276, s85_278, s85_281, s85_282, s85_285, s85_287, s85_290, s85_293, s85_296, s85_298, s85_299, s85_301, s85_304, s85_305, s85_307, s85_310, s85_313, s85_316, s85_317, s85_320, s85_323, s85_324, s85_325, s85_328, s85_331, s85_333, s85_335, s85_338, s85_339, s85_342, s85_343, s85_346, s85_349, s85_350, s85_353, s85_354, mq_k0s, mq_k1s, mq_k2s, mq_k4s, mq_k5s, mq_k5n, mq_k5as, mq_k6s, mj_pu, mj_lo, mj_br, mj_hr, mj_hw, mq_gf, mq_len, mq_al, mq_pf, mq_ok, mj_re, mq_lkm, mq_lkn, mj_ldi, mj_ldl, mj_lda, mj_ii, mj_ll, mj_li, mj_i1, ms_1, ms_2, f1_n, f1_i, f1_r, f1_u, f1_l, f2_n, f2_i, f2_r, f2_u, f2_l, mj_tg, mj_c1, mj_c2, mj_ar, mj_aw, mq_cb, mq_oi, mj_rm, Value.category, -getElem?_pos, List.getElem?_cons_zero, decide_eq_true, decide_eq_false, nl_lt, nl_le, ln_lt, ln_le, nl_eq, ln_eq, nl_add, ln_add, nl_sub, ln_mul, nI_sub, nI_mul, nI_add, nI_lt_iff, nI_le_iff, nI_inj, nI_num, mq_ix, nI_1, nl_mul, nl_div, x1, ho1, v5, w5, c1, p2, hk, on1, narrow]
    · simp (disch := (first | omega | decide)) [s85_0, s85_1, s85_4, s85_5, s85_6, s85_9, s85_10, s85_11, s85_12, s85_15, s85_16, s85_19, s85_20, s85_21, s85_24, s85_27, s85_28, s85_29, s85_30, s85_33, s85_34, s85_37, s85_38, s85_39, s85_42, s85_44, s85_47, s85_50, s85_51, s85_52, s85_55, s85_56, s85_58, s85_61, s85_63, s85_64, s85_67, s85_68, s85_70, s85_73, s85_75, s85_77, s85_79, s85_80, s85_81, s85_84, s85_85, s85_86, s85_89, s85_90, s85_93, s85_96, s85_97, s85_100, s85_103, s85_105, s85_108, s85_110, s85_111, s85_112, s85_113, s85_116, s85_117, s85_118, s85_121, s85_124, s85_127, s85_129, s85_130, s85_131, s85_134, s85_135, s85_138, s85_140, s85_142, s85_145, s85_148, s85_151, s85_153, s85_154, s85_156, s85_157, s85_160, s85_161, s85_164, s85_167, s85_170, s85_172, s85_173, s85_175, s85_176, s85_179, s85_180, s85_182, s85_183, s85_186, s85_187, s85_189, s85_192, s85_193, s85_196, s85_198, s85_200, s85_203, s85_205, s85_206, s85_208, s85_209, s85_210, s85_212, s85_213, s85_216, s85_219, s85_221, s85_222, s85_223, s85_226, s85_227, s85_230, s85_231, s85_232, s85_235, s85_237, s85_240, s85_242, s85_243, s85_246, s85_247, s85_250, s85_252, s85_254, s85_257, s85_260, s85_262, s85_264, s85_267, s85_268, s85_271, s85_272, s85_273, s85_276, s85_278, s85_281, s85_282, s85_285, s85_287, s85_290, s85_293, s85_296, s85_298, s85_299, s85_301, s85_304, s85_305, s85_307, s85_310, s85_313, s85_316, s85_317, s85_320, s85_323, s85_324, s85_325, s85_328, s85_331, s85_333, s85_335, s85_338, s85_339, s85_342, s85_343, s85_346, s85_349, s85_350, s85_353, s85_354, mq_k0s, mq_k1s, mq_k2s, mq_k4s, mq_k5s, mq_k5n, mq_k5as, mq_k6s, mj_pu, mj_lo, mj_br, mj_hr, mj_hw, mq_gf, mq_len, mq_al, mq_pf, mq_ok, mj_re, mq_lkm, mq_lkn, mj_ldi, mj_ldl, mj_lda, mj_ii, mj_ll, mj_li, mj_i1, ms_1, ms_2, f1_n, f1_i, f1_r, f1_u, f1_l, f2_n, f2_i, f2_r, f2_u, f2_l, mj_tg, mj_c1, mj_c2, mj_ar, mj_aw, mq_cb, mq_oi, mj_rm, Value.category, -getElem?_pos, List.getElem?_cons_zero, decide_eq_true, decide_eq_false, nl_lt, nl_le, ln_lt, ln_le, nl_eq, ln_eq, nl_add, ln_add, nl_sub, ln_mul, nI_sub, nI_mul, nI_add, nI_lt_iff, nI_le_iff, nI_inj, nI_num, mq_ix, nI_1, nl_mul, nl_div, x1, ho1, v5, w5, c1, p2, hk, on1, narrow]
  rw [if_neg (by simp [c1])]
  cases c2 : ky_ha ms (mem ms 4) with
  | false =>
    rw [c2] at w4
    refine ⟨M1, _, pre _ ?_, z1, f1⟩
    simp (disch := (first | omega | decide)) [s85_0, s85_1, s85_4, s85_5, s85_6, s85_9, s85_10, s85_11, s85_12, s85_15, s85_16, s85_19, s85_20, s85_21, s85_24, s85_27, s85_28, s85_29, s85_30, s85_33, s85_34, s85_37, s85_38, s85_39, s85_42, s85_44, s85_47, s85_50, s85_51, s85_52, s85_55, s85_56, s85_58, s85_61, s85_63, s85_64, s85_67, s85_68, s85_70, s85_73, s85_75, s85_77, s85_79, s85_80, s85_81, s85_84, s85_85, s85_86, s85_89, s85_90, s85_93, s85_96, s85_97, s85_100, s85_103, s85_105, s85_108, s85_110, s85_111, s85_112, s85_113, s85_116, s85_117, s85_118, s85_121, s85_124, s85_127, s85_129, s85_130, s85_131, s85_134, s85_135, s85_138, s85_140, s85_142, s85_145, s85_148, s85_151, s85_153, s85_154, s85_156, s85_157, s85_160, s85_161, s85_164, s85_167, s85_170, s85_172, s85_173, s85_175, s85_176, s85_179, s85_180, s85_182, s85_183, s85_186, s85_187, s85_189, s85_192, s85_193, s85_196, s85_198, s85_200, s85_203, s85_205, s85_206, s85_208, s85_209, s85_210, s85_212, s85_213, s85_216, s85_219, s85_221, s85_222, s85_223, s85_226, s85_227, s85_230, s85_231, s85_232, s85_235, s85_237, s85_240, s85_242, s85_243, s85_246, s85_247, s85_250, s85_252, s85_254, s85_257, s85_260, s85_262, s85_264, s85_267, s85_268, s85_271, s85_272, s85_273, s85_276, s85_278, s85_281, s85_282, s85_285, s85_287, s85_290, s85_293, s85_296, s85_298, s85_299, s85_301, s85_304, s85_305, s85_307, s85_310, s85_313, s85_316, s85_317, s85_320, s85_323, s85_324, s85_325, s85_328, s85_331, s85_333, s85_335, s85_338, s85_339, s85_342, s85_343, s85_346, s85_349, s85_350, s85_353, s85_354, mq_k0s, mq_k1s, mq_k2s, mq_k4s, mq_k5s, mq_k5n, mq_k5as, mq_k6s, mj_pu, mj_lo, mj_br, mj_hr, mj_hw, mq_gf, mq_len, mq_al, mq_pf, mq_ok, mj_re, mq_lkm, mq_lkn, mj_ldi, mj_ldl, mj_lda, mj_ii, mj_ll, mj_li, mj_i1, ms_1, ms_2, f1_n, f1_i, f1_r, f1_u, f1_l, f2_n, f2_i, f2_r, f2_u, f2_l, mj_tg, mj_c1, mj_c2, mj_ar, mj_aw, mq_cb, mq_oi, mj_rm, Value.category, -getElem?_pos, List.getElem?_cons_zero, decide_eq_true, decide_eq_false, nl_lt, nl_le, ln_lt, ln_le, nl_eq, ln_eq, nl_add, ln_add, nl_sub, ln_mul, nI_sub, nI_mul, nI_add, nI_lt_iff, nI_le_iff, nI_inj, nI_num, mq_ix, nI_1, nl_mul, nl_div, x1, ho1, v5, w5, c1, v4, w4, on1, narrow]
  | true =>
  rw [c2] at w4
  rw [if_neg (by simp)]
  cases c3 : oSim ms 21 (cbNm ms uv_ (mem ms 7)) with
  | true =>
    rw [c3, it_t] at wv
    refine ⟨M1, _, pre _ ?_, z1, f1⟩
    simp (disch := (first | omega | decide)) [s85_0, s85_1, s85_4, s85_5, s85_6, s85_9, s85_10, s85_11, s85_12, s85_15, s85_16, s85_19, s85_20, s85_21, s85_24, s85_27, s85_28, s85_29, s85_30, s85_33, s85_34, s85_37, s85_38, s85_39, s85_42, s85_44, s85_47, s85_50, s85_51, s85_52, s85_55, s85_56, s85_58, s85_61, s85_63, s85_64, s85_67, s85_68, s85_70, s85_73, s85_75, s85_77, s85_79, s85_80, s85_81, s85_84, s85_85, s85_86, s85_89, s85_90, s85_93, s85_96, s85_97, s85_100, s85_103, s85_105, s85_108, s85_110, s85_111, s85_112, s85_113, s85_116, s85_117, s85_118, s85_121, s85_124, s85_127, s85_129, s85_130, s85_131, s85_134, s85_135, s85_138, s85_140, s85_142, s85_145, s85_148, s85_151, s85_153, s85_154, s85_156, s85_157, s85_160, s85_161, s85_164, s85_167, s85_170, s85_172, s85_173, s85_175, s85_176, s85_179, s85_180, s85_182, s85_183, s85_186, s85_187, s85_189, s85_192, s85_193, s85_196, s85_198, s85_200, s85_203, s85_205, s85_206, s85_208, s85_209, s85_210, s85_212, s85_213, s85_216, s85_219, s85_221, s85_222, s85_223, s85_226, s85_227, s85_230, s85_231, s85_232, s85_235, s85_237, s85_240, s85_242, s85_243, s85_246, s85_247, s85_250, s85_252, s85_254, s85_257, s85_260, s85_262, s85_264, s85_267, s85_268, s85_271, s85_272, s85_273, s85_276, s85_278, s85_281, s85_282, s85_285, s85_287, s85_290, s85_293, s85_296, s85_298, s85_299, s85_301, s85_304, s85_305, s85_307, s85_310, s85_313, s85_316, s85_317, s85_320, s85_323, s85_324, s85_325, s85_328, s85_331, s85_333, s85_335, s85_338, s85_339, s85_342, s85_343, s85_346, s85_349, s85_350, s85_353, s85_354, mq_k0s, mq_k1s, mq_k2s, mq_k4s, mq_k5s, mq_k5n, mq_k5as, mq_k6s, mj_pu, mj_lo, mj_br, mj_hr, mj_hw, mq_gf, mq_len, mq_al, mq_pf, mq_ok, mj_re, mq_lkm, mq_lkn, mj_ldi, mj_ldl, mj_lda, mj_ii, mj_ll, mj_li, mj_i1, ms_1, ms_2, f1_n, f1_i, f1_r, f1_u, f1_l, f2_n, f2_i, f2_r, f2_u, f2_l, mj_tg, mj_c1, mj_c2, mj_ar, mj_aw, mq_cb, mq_oi, mj_rm, Value.category, -getElem?_pos, List.getElem?_cons_zero, decide_eq_true, decide_eq_false, nl_lt, nl_le, ln_lt, ln_le, nl_eq, ln_eq, nl_add, ln_add, nl_sub, ln_mul, nI_sub, nI_mul, nI_add, nI_lt_iff, nI_le_iff, nI_inj, nI_num, mq_ix, nI_1, nl_mul, nl_div, x1, ho1, v5, w5, c1, v4, w4, on1, vv, wv, narrow]
  | false =>
  rw [c3, it_f] at wv
  rw [if_neg (by simp)]
  -- the press
  have fin : ∀ (M2 : mj_H) (row2 : List Int32) (fl : Int32), kz A κ M2 k T row2 → fx (kS A κ) M M2 → (mk_pin ms k T).1 = 0 → fl = (if mem ms 8 = none then 65 else 69) → (∀ q, mj_Rn (d + 10) mj_m85 212 [(6, .int fl), (5, .int y8), (4, .int y7), (3, .int (mk_party T ms)), (2, .int (o4 ms (mem ms 1))), (0, .ref κ)] [] M2 = some q → mj_Rn (d + 10) mj_m85 79 [(6, .int 65), (5, .int y8), (4, .int y7), (3, .int (mk_party T ms)), (2, .int (o4 ms (mem ms 1))), (0, .ref κ)] [] M1 = some q) → ∃ M' row', mj_V (d + 11) 85 [.ref κ] M = some (some (.int (if (mk_pin ms k T).1 ≠ 0 then ((mk_pin ms k T).1, (mk_pin ms k T).2, T) else if k.1.2.1.1 = 0 then (39, k, T) else mk_end ms (ky_took k) T).1), M') ∧ kz A κ M' (if (mk_pin ms k T).1 ≠ 0 then ((mk_pin ms k T).1, (mk_pin ms k T).2, T) else if k.1.2.1.1 = 0 then (39, k, T) else mk_end ms (ky_took k) T).2.1 (if (mk_pin ms k T).1 ≠ 0 then ((mk_pin ms k T).1, (mk_pin ms k T).2, T) else if k.1.2.1.1 = 0 then (39, k, T) else mk_end ms (ky_took k) T).2.2 row' ∧ fx (kS A κ) M M' := by
    intro M2 row2 fl z2 g2 hpin hfl hq2
    rw [if_neg (by simp [hpin])]
    obtain ⟨u2, x2⟩ := z2.fa
    obtain ⟨M3, p3, z3, f3⟩ := ky_take (d := d + 9) z2 hwt
    obtain ⟨t1, t2, t3⟩ := tookd k
    by_cases hk : k.1.2.1.1 = 0
    · rw [if_pos hk]
      have e : ky_took k = k := by simp [ky_took, hk]
      rw [e] at z3
      refine ⟨M3, _, pre _ (hq2 _ ?_), z3, g2.trs f3⟩
      simp (disch := (first | omega | decide)) [s85_0, s85_1, s85_4, s85_5, s85_6, s85_9, s85_10, s85_11, s85_12, s85_15, s85_16, s85_19, s85_20, s85_21, s85_24, s85_27, s85_28, s85_29, s85_30, s85_33, s85_34, s85_37, s85_38, s85_39, s85_42, s85_44, s85_47, s85_50, s85_51, s85_52, s85_55, s85_56, s85_58, s85_61, s85_63, s85_64, s85_67, s85_68, s85_70, s85_73, s85_75, s85_77, s85_79, s85_80, s85_81, s85_84, s85_85, s85_86, s85_89, s85_90, s85_93, s85_96, s85_97, s85_100, s85_103, s85_105, s85_108, s85_110, s85_111, s85_112, s85_113, s85_116, s85_117, s85_118, s85_121, s85_124, s85_127, s85_129, s85_130, s85_131, s85_134, s85_135, s85_138, s85_140, s85_142, s85_145, s85_148, s85_151, s85_153, s85_154, s85_156, s85_157, s85_160, s85_161, s85_164, s85_167, s85_170, s85_172, s85_173, s85_175, s85_176, s85_179, s85_180, s85_182, s85_183, s85_186, s85_187, s85_189, s85_192, s85_193, s85_196, s85_198, s85_200, s85_203, s85_205, s85_206, s85_208, s85_209, s85_210, s85_212, s85_213, s85_216, s85_219, s85_221, s85_222, s85_223, s85_226, s85_227, s85_230, s85_231, s85_232, s85_235, s85_237, s85_240, s85_242, s85_243, s85_246, s85_247, s85_250, s85_252, s85_254, s85_257, s85_260, s85_262, s85_264, s85_267, s85_268, s85_271, s85_272, s85_273, s85_276, s85_278, s85_281, s85_282, s85_285, s85_287, s85_290, s85_293, s85_296, s85_298, s85_299, s85_301, s85_304, s85_305, s85_307, s85_310, s85_313, s85_316, s85_317, s85_320, s85_323, s85_324, s85_325, s85_328, s85_331, s85_333, s85_335, s85_338, s85_339, s85_342, s85_343, s85_346, s85_349, s85_350, s85_353, s85_354, mq_k0s, mq_k1s, mq_k2s, mq_k4s, mq_k5s, mq_k5n, mq_k5as, mq_k6s, mj_pu, mj_lo, mj_br, mj_hr, mj_hw, mq_gf, mq_len, mq_al, mq_pf, mq_ok, mj_re, mq_lkm, mq_lkn, mj_ldi, mj_ldl, mj_lda, mj_ii, mj_ll, mj_li, mj_i1, ms_1, ms_2, f1_n, f1_i, f1_r, f1_u, f1_l, f2_n, f2_i, f2_r, f2_u, f2_l, mj_tg, mj_c1, mj_c2, mj_ar, mj_aw, mq_cb, mq_oi, mj_rm, Value.category, -getElem?_pos, List.getElem?_cons_zero, decide_eq_true, decide_eq_false, nl_lt, nl_le, ln_lt, ln_le, nl_eq, ln_eq, nl_add, ln_add, nl_sub, ln_mul, nI_sub, nI_mul, nI_add, nI_lt_iff, nI_le_iff, nI_inj, nI_num, mq_ix, nI_1, nl_mul, nl_div, x2, p3, hk, on1, narrow]
    · rw [if_neg hk]
      have hI3 := z.it (g2.trs f3) hI
      obtain ⟨M4, row4, p4, z4, f4⟩ := mk_fin (d := d) (y8 := y8) z3 hI3 (by rw [t1]; exact hw) (by rw [t1]; exact hon) hf (by rw [t2]; exact hr) hok hfl a7
      refine ⟨M4, row4, pre _ (hq2 _ ?_), z4, (g2.trs f3).trs f4⟩
      simp (disch := (first | omega | decide)) [s85_0, s85_1, s85_4, s85_5, s85_6, s85_9, s85_10, s85_11, s85_12, s85_15, s85_16, s85_19, s85_20, s85_21, s85_24, s85_27, s85_28, s85_29, s85_30, s85_33, s85_34, s85_37, s85_38, s85_39, s85_42, s85_44, s85_47, s85_50, s85_51, s85_52, s85_55, s85_56, s85_58, s85_61, s85_63, s85_64, s85_67, s85_68, s85_70, s85_73, s85_75, s85_77, s85_79, s85_80, s85_81, s85_84, s85_85, s85_86, s85_89, s85_90, s85_93, s85_96, s85_97, s85_100, s85_103, s85_105, s85_108, s85_110, s85_111, s85_112, s85_113, s85_116, s85_117, s85_118, s85_121, s85_124, s85_127, s85_129, s85_130, s85_131, s85_134, s85_135, s85_138, s85_140, s85_142, s85_145, s85_148, s85_151, s85_153, s85_154, s85_156, s85_157, s85_160, s85_161, s85_164, s85_167, s85_170, s85_172, s85_173, s85_175, s85_176, s85_179, s85_180, s85_182, s85_183, s85_186, s85_187, s85_189, s85_192, s85_193, s85_196, s85_198, s85_200, s85_203, s85_205, s85_206, s85_208, s85_209, s85_210, s85_212, s85_213, s85_216, s85_219, s85_221, s85_223, s85_226, s85_227, s85_230, s85_231, s85_232, s85_235, s85_237, s85_240, s85_242, s85_243, s85_246, s85_247, s85_250, s85_252, s85_254, s85_257, s85_260, s85_262, s85_264, s85_267, s85_268, s85_271, s85_272, s85_273, s85_276, s85_278, s85_281, s85_282, s85_285, s85_287, s85_290, s85_293, s85_296, s85_298, s85_299, s85_301, s85_304, s85_305, s85_307, s85_310, s85_313, s85_316, s85_317, s85_320, s85_323, s85_324, s85_325, s85_328, s85_331, s85_333, s85_335, s85_338, s85_339, s85_342, s85_343, s85_346, s85_349, s85_350, s85_353, s85_354, mq_k0s, mq_k1s, mq_k2s, mq_k4s, mq_k5s, mq_k5n, mq_k5as, mq_k6s, mj_pu, mj_lo, mj_br, mj_hr, mj_hw, mq_gf, mq_len, mq_al, mq_pf, mq_ok, mj_re, mq_lkm, mq_lkn, mj_ldi, mj_ldl, mj_lda, mj_ii, mj_ll, mj_li, mj_i1, ms_1, ms_2, f1_n, f1_i, f1_r, f1_u, f1_l, f2_n, f2_i, f2_r, f2_u, f2_l, mj_tg, mj_c1, mj_c2, mj_ar, mj_aw, mq_cb, mq_oi, mj_rm, Value.category, -getElem?_pos, List.getElem?_cons_zero, decide_eq_true, decide_eq_false, nl_lt, nl_le, ln_lt, ln_le, nl_eq, ln_eq, nl_add, ln_add, nl_sub, ln_mul, nI_sub, nI_mul, nI_add, nI_lt_iff, nI_le_iff, nI_inj, nI_num, mq_ix, nI_1, nl_mul, nl_div, x2, p3, hk, on1]
      exact p4
  by_cases c4 : mem ms 8 = none
  · have e8 := n8.mpr c4
    have epin : mk_pin ms k T = (if k.1.1.1.1.2.2.2.2.2.2.2.2.1 = 0 then 0 else 54, k) := by unfold mk_pin; rw [if_pos c4]
    by_cases c5 : k.1.1.1.1.2.2.2.2.2.2.2.2.1 = 0
    · refine fin M1 _ 65 z1 f1 (by rw [epin, if_pos c5]) (by rw [if_pos c4]) ?_
      intro q hq
      rw [s85_79]
      simp (disch := (first | omega | decide)) [s85_0, s85_1, s85_4, s85_5, s85_6, s85_9, s85_10, s85_11, s85_12, s85_15, s85_16, s85_19, s85_20, s85_21, s85_24, s85_27, s85_28, s85_29, s85_30, s85_33, s85_34, s85_37, s85_38, s85_39, s85_42, s85_44, s85_47, s85_50, s85_51, s85_52, s85_55, s85_56, s85_58, s85_61, s85_63, s85_64, s85_67, s85_68, s85_70, s85_73, s85_75, s85_77, s85_80, s85_81, s85_84, s85_85, s85_86, s85_89, s85_90, s85_93, s85_96, s85_97, s85_100, s85_103, s85_105, s85_108, s85_110, s85_111, s85_112, s85_113, s85_116, s85_117, s85_118, s85_121, s85_124, s85_127, s85_129, s85_130, s85_131, s85_134, s85_135, s85_138, s85_140, s85_142, s85_145, s85_148, s85_151, s85_153, s85_154, s85_156, s85_157, s85_160, s85_161, s85_164, s85_167, s85_170, s85_172, s85_173, s85_175, s85_176, s85_179, s85_180, s85_182, s85_183, s85_186, s85_187, s85_189, s85_192, s85_193, s85_196, s85_198, s85_200, s85_203, s85_205, s85_206, s85_208, s85_209, s85_210, s85_213, s85_216, s85_219, s85_221, s85_222, s85_223, s85_226, s85_227, s85_230, s85_231, s85_232, s85_235, s85_237, s85_240, s85_242, s85_243, s85_246, s85_247, s85_250, s85_252, s85_254, s85_257, s85_260, s85_262, s85_264, s85_267, s85_268, s85_271, s85_272, s85_273, s85_276, s85_278, s85_281, s85_282, s85_285, s85_287, s85_290, s85_293, s85_296, s85_298, s85_299, s85_301, s85_304, s85_305, s85_307, s85_310, s85_313, s85_316, s85_317, s85_320, s85_323, s85_324, s85_325, s85_328, s85_331, s85_333, s85_335, s85_338, s85_339, s85_342, s85_343, s85_346, s85_349, s85_350, s85_353, s85_354, mq_k0s, mq_k1s, mq_k2s, mq_k4s, mq_k5s, mq_k5n, mq_k5as, mq_k6s, mj_pu, mj_lo, mj_br, mj_hr, mj_hw, mq_gf, mq_len, mq_al, mq_pf, mq_ok, mj_re, mq_lkm, mq_lkn, mj_ldi, mj_ldl, mj_lda, mj_ii, mj_ll, mj_li, mj_i1, ms_1, ms_2, f1_n, f1_i, f1_r, f1_u, f1_l, f2_n, f2_i, f2_r, f2_u, f2_l, mj_tg, mj_c1, mj_c2, mj_ar, mj_aw, mq_cb, mq_oi, mj_rm, Value.category, -getElem?_pos, List.getElem?_cons_zero, decide_eq_true, decide_eq_false, nl_lt, nl_le, ln_lt, ln_le, nl_eq, ln_eq, nl_add, ln_add, nl_sub, ln_mul, nI_sub, nI_mul, nI_add, nI_lt_iff, nI_le_iff, nI_inj, nI_num, mq_ix, nI_1, nl_mul, nl_div, x1, ho1, v5, w5, c1, v4, w4, on1, vv, wv, e8, c5]
      rw [e8] at hq
      exact hq
    · rw [epin, if_neg c5]
      refine ⟨M1, _, pre _ ?_, z1, f1⟩
      simp (disch := (first | omega | decide)) [s85_0, s85_1, s85_4, s85_5, s85_6, s85_9, s85_10, s85_11, s85_12, s85_15, s85_16, s85_19, s85_20, s85_21, s85_24, s85_27, s85_28, s85_29, s85_30, s85_33, s85_34, s85_37, s85_38, s85_39, s85_42, s85_44, s85_47, s85_50, s85_51, s85_52, s85_55, s85_56, s85_58, s85_61, s85_63, s85_64, s85_67, s85_68, s85_70, s85_73, s85_75, s85_77, s85_79, s85_80, s85_81, s85_84, s85_85, s85_86, s85_89, s85_90, s85_93, s85_96, s85_97, s85_100, s85_103, s85_105, s85_108, s85_110, s85_111, s85_112, s85_113, s85_116, s85_117, s85_118, s85_121, s85_124, s85_127, s85_129, s85_130, s85_131, s85_134, s85_135, s85_138, s85_140, s85_142, s85_145, s85_148, s85_151, s85_153, s85_154, s85_156, s85_157, s85_160, s85_161, s85_164, s85_167, s85_170, s85_172, s85_173, s85_175, s85_176, s85_179, s85_180, s85_182, s85_183, s85_186, s85_187, s85_189, s85_192, s85_193, s85_196, s85_198, s85_200, s85_203, s85_205, s85_206, s85_208, s85_209, s85_210, s85_212, s85_213, s85_216, s85_219, s85_221, s85_222, s85_223, s85_226, s85_227, s85_230, s85_231, s85_232, s85_235, s85_237, s85_240, s85_242, s85_243, s85_246, s85_247, s85_250, s85_252, s85_254, s85_257, s85_260, s85_262, s85_264, s85_267, s85_268, s85_271, s85_272, s85_273, s85_276, s85_278, s85_281, s85_282, s85_285, s85_287, s85_290, s85_293, s85_296, s85_298, s85_299, s85_301, s85_304, s85_305, s85_307, s85_310, s85_313, s85_316, s85_317, s85_320, s85_323, s85_324, s85_325, s85_328, s85_331, s85_333, s85_335, s85_338, s85_339, s85_342, s85_343, s85_346, s85_349, s85_350, s85_353, s85_354, mq_k0s, mq_k1s, mq_k2s, mq_k4s, mq_k5s, mq_k5n, mq_k5as, mq_k6s, mj_pu, mj_lo, mj_br, mj_hr, mj_hw, mq_gf, mq_len, mq_al, mq_pf, mq_ok, mj_re, mq_lkm, mq_lkn, mj_ldi, mj_ldl, mj_lda, mj_ii, mj_ll, mj_li, mj_i1, ms_1, ms_2, f1_n, f1_i, f1_r, f1_u, f1_l, f2_n, f2_i, f2_r, f2_u, f2_l, mj_tg, mj_c1, mj_c2, mj_ar, mj_aw, mq_cb, mq_oi, mj_rm, Value.category, -getElem?_pos, List.getElem?_cons_zero, decide_eq_true, decide_eq_false, nl_lt, nl_le, ln_lt, ln_le, nl_eq, ln_eq, nl_add, ln_add, nl_sub, ln_mul, nI_sub, nI_mul, nI_add, nI_lt_iff, nI_le_iff, nI_inj, nI_num, mq_ix, nI_1, nl_mul, nl_div, x1, ho1, v5, w5, c1, v4, w4, on1, vv, wv, e8, c5, narrow]
  · have e8 : ¬ y8 = -1 := fun q => c4 (n8.mp q)
    obtain ⟨M2, row2, p2, z2, f2⟩ := ky_pt (d := d + 5) z1 hI1 hwt a8 a9 (o4 ms (mem ms 1))
    have epin : mk_pin ms k T = pnTest k T ms (mem ms 8) (mem ms 9) (o4 ms (mem ms 1)) := by unfold mk_pin; rw [if_neg c4]
    by_cases c5 : (pnTest k T ms (mem ms 8) (mem ms 9) (o4 ms (mem ms 1))).1 = 0
    · rw [pn_0 c5] at z2
      refine fin M2 _ 69 z2 (f1.trs f2) (by rw [epin]; exact c5) (by rw [if_neg c4]) ?_
      intro q hq
      rw [c5] at p2
      rw [s85_79]
      simp (disch := (first | omega | decide)) [s85_0, s85_1, s85_4, s85_5, s85_6, s85_9, s85_10, s85_11, s85_12, s85_15, s85_16, s85_19, s85_20, s85_21, s85_24, s85_27, s85_28, s85_29, s85_30, s85_33, s85_34, s85_37, s85_38, s85_39, s85_42, s85_44, s85_47, s85_50, s85_51, s85_52, s85_55, s85_56, s85_58, s85_61, s85_63, s85_64, s85_67, s85_68, s85_70, s85_73, s85_75, s85_77, s85_80, s85_81, s85_84, s85_85, s85_86, s85_89, s85_90, s85_93, s85_96, s85_97, s85_100, s85_103, s85_105, s85_108, s85_110, s85_111, s85_112, s85_113, s85_116, s85_117, s85_118, s85_121, s85_124, s85_127, s85_129, s85_130, s85_131, s85_134, s85_135, s85_138, s85_140, s85_142, s85_145, s85_148, s85_151, s85_153, s85_154, s85_156, s85_157, s85_160, s85_161, s85_164, s85_167, s85_170, s85_172, s85_173, s85_175, s85_176, s85_179, s85_180, s85_182, s85_183, s85_186, s85_187, s85_189, s85_192, s85_193, s85_196, s85_198, s85_200, s85_203, s85_205, s85_206, s85_208, s85_209, s85_210, s85_213, s85_216, s85_219, s85_221, s85_222, s85_223, s85_226, s85_227, s85_230, s85_231, s85_232, s85_235, s85_237, s85_240, s85_242, s85_243, s85_246, s85_247, s85_250, s85_252, s85_254, s85_257, s85_260, s85_262, s85_264, s85_267, s85_268, s85_271, s85_272, s85_273, s85_276, s85_278, s85_281, s85_282, s85_285, s85_287, s85_290, s85_293, s85_296, s85_298, s85_299, s85_301, s85_304, s85_305, s85_307, s85_310, s85_313, s85_316, s85_317, s85_320, s85_323, s85_324, s85_325, s85_328, s85_331, s85_333, s85_335, s85_338, s85_339, s85_342, s85_343, s85_346, s85_349, s85_350, s85_353, s85_354, mq_k0s, mq_k1s, mq_k2s, mq_k4s, mq_k5s, mq_k5n, mq_k5as, mq_k6s, mj_pu, mj_lo, mj_br, mj_hr, mj_hw, mq_gf, mq_len, mq_al, mq_pf, mq_ok, mj_re, mq_lkm, mq_lkn, mj_ldi, mj_ldl, mj_lda, mj_ii, mj_ll, mj_li, mj_i1, ms_1, ms_2, f1_n, f1_i, f1_r, f1_u, f1_l, f2_n, f2_i, f2_r, f2_u, f2_l, mj_tg, mj_c1, mj_c2, mj_ar, mj_aw, mq_cb, mq_oi, mj_rm, Value.category, -getElem?_pos, List.getElem?_cons_zero, decide_eq_true, decide_eq_false, nl_lt, nl_le, ln_lt, ln_le, nl_eq, ln_eq, nl_add, ln_add, nl_sub, ln_mul, nI_sub, nI_mul, nI_add, nI_lt_iff, nI_le_iff, nI_inj, nI_num, mq_ix, nI_1, nl_mul, nl_div, x1, ho1, v5, w5, c1, v4, w4, on1, vv, wv, e8, v9, p2, or_654]
      refine mq_wk ?_ hq
      simp [mq_sub, mj_lk]
    · rw [epin, if_pos c5]
      refine ⟨M2, _, pre _ ?_, z2, f1.trs f2⟩
      simp (disch := (first | omega | decide)) [s85_0, s85_1, s85_4, s85_5, s85_6, s85_9, s85_10, s85_11, s85_12, s85_15, s85_16, s85_19, s85_20, s85_21, s85_24, s85_27, s85_28, s85_29, s85_30, s85_33, s85_34, s85_37, s85_38, s85_39, s85_42, s85_44, s85_47, s85_50, s85_51, s85_52, s85_55, s85_56, s85_58, s85_61, s85_63, s85_64, s85_67, s85_68, s85_70, s85_73, s85_75, s85_77, s85_79, s85_80, s85_81, s85_84, s85_85, s85_86, s85_89, s85_90, s85_93, s85_96, s85_97, s85_100, s85_103, s85_105, s85_108, s85_110, s85_111, s85_112, s85_113, s85_116, s85_117, s85_118, s85_121, s85_124, s85_127, s85_129, s85_130, s85_131, s85_134, s85_135, s85_138, s85_140, s85_142, s85_145, s85_148, s85_151, s85_153, s85_154, s85_156, s85_157, s85_160, s85_161, s85_164, s85_167, s85_170, s85_172, s85_173, s85_175, s85_176, s85_179, s85_180, s85_182, s85_183, s85_186, s85_187, s85_189, s85_192, s85_193, s85_196, s85_198, s85_200, s85_203, s85_205, s85_206, s85_208, s85_209, s85_210, s85_212, s85_213, s85_216, s85_219, s85_221, s85_222, s85_223, s85_226, s85_227, s85_230, s85_231, s85_232, s85_235, s85_237, s85_240, s85_242, s85_243, s85_246, s85_247, s85_250, s85_252, s85_254, s85_257, s85_260, s85_262, s85_264, s85_267, s85_268, s85_271, s85_272, s85_273, s85_276, s85_278, s85_281, s85_282, s85_285, s85_287, s85_290, s85_293, s85_296, s85_298, s85_299, s85_301, s85_304, s85_305, s85_307, s85_310, s85_313, s85_316, s85_317, s85_320, s85_323, s85_324, s85_325, s85_328, s85_331, s85_333, s85_335, s85_338, s85_339, s85_342, s85_343, s85_346, s85_349, s85_350, s85_353, s85_354, mq_k0s, mq_k1s, mq_k2s, mq_k4s, mq_k5s, mq_k5n, mq_k5as, mq_k6s, mj_pu, mj_lo, mj_br, mj_hr, mj_hw, mq_gf, mq_len, mq_al, mq_pf, mq_ok, mj_re, mq_lkm, mq_lkn, mj_ldi, mj_ldl, mj_lda, mj_ii, mj_ll, mj_li, mj_i1, ms_1, ms_2, f1_n, f1_i, f1_r, f1_u, f1_l, f2_n, f2_i, f2_r, f2_u, f2_l, mj_tg, mj_c1, mj_c2, mj_ar, mj_aw, mq_cb, mq_oi, mj_rm, Value.category, -getElem?_pos, List.getElem?_cons_zero, decide_eq_true, decide_eq_false, nl_lt, nl_le, ln_lt, ln_le, nl_eq, ln_eq, nl_add, ln_add, nl_sub, ln_mul, nI_sub, nI_mul, nI_add, nI_lt_iff, nI_le_iff, nI_inj, nI_num, mq_ix, nI_1, nl_mul, nl_div, x1, ho1, v5, w5, c1, v4, w4, on1, vv, wv, e8, v9, p2, c5, narrow]
end KZ
end
/- 88.key8 -/
section
set_option maxRecDepth 512
/-! Class: Key: SIGN and NEXT. -/
/- 140 PasskeyHouse$Key.signWith(IIIIII)V -/
theorem s140_0 {d : Nat} {ls : mj_L} {st : List Value} {M : mj_H} : mj_Rn d mj_m140 0 ls st M = mq_k0 d mj_m140 1 ls M (mj_lda (mj_lk ls 0) st) := mj_R0 (r := (.aload_n 0, 1, 0, 0, 0)) rfl rfl
theorem s140_1 {d : Nat} {ls : mj_L} {st : List Value} {M : mj_H} : mj_Rn d mj_m140 1 ls st M = mq_k0 d mj_m140 4 ls M (mq_gf 5 2 st M) := (mj_R3 (r := (.getfield 22, 3, 5, 2, 16600)) rfl rfl).trans (congrArg (mq_k0 d mj_m140 4 ls M) mq_gf_eq)
theorem s140_4 {d : Nat} {ls : mj_L} {st : List Value} {M : mj_H} : mj_Rn d mj_m140 4 ls st M = mq_k0 d mj_m140 5 ls M (mj_ldi (mj_lk ls 1) st) := mj_R0 (r := (.iload_n 1, 1, 0, 0, 0)) rfl rfl
theorem s140_5 {d : Nat} {ls : mj_L} {st : List Value} {M : mj_H} : mj_Rn (d + 1) mj_m140 5 ls st M = mq_k5a (d + 1) mj_m140 8 ls M 61 (mq_cb 0 1 8 st M) := mj_R5e (r := (.invokevirtual 364, 3, 0, 61, 16588)) (z := mj_m61) rfl rfl (by decide) (by decide) rfl
theorem s140_8 {d : Nat} {ls : mj_L} {st : List Value} {M : mj_H} : mj_Rn d mj_m140 8 ls st M = mq_k1 d mj_m140 10 M (mj_lo 9 (.astore 7) ls st) := mj_R1 (r := (.astore 7, 2, 0, 0, 0)) rfl rfl
theorem s140_10 {d : Nat} {ls : mj_L} {st : List Value} {M : mj_H} : mj_Rn d mj_m140 10 ls st M = mq_k0 d mj_m140 12 ls M (mj_lda (mj_lk ls 7) st) := mj_R0 (r := (.aload 7, 2, 0, 0, 0)) rfl rfl
theorem s140_12 {d : Nat} {ls : mj_L} {st : List Value} {M : mj_H} : mj_Rn d mj_m140 12 ls st M = mq_k2 d mj_m140 ls M (mj_br (.ifnonnull 13) 12 st) := mj_R2 (r := (.ifnonnull 13, 3, 0, 0, 0)) rfl rfl
theorem s140_15 {d : Nat} {ls : mj_L} {st : List Value} {M : mj_H} : mj_Rn d mj_m140 15 ls st M = mq_k0 d mj_m140 16 ls M (mj_lda (mj_lk ls 0) st) := mj_R0 (r := (.aload_n 0, 1, 0, 0, 0)) rfl rfl
theorem s140_16 {d : Nat} {ls : mj_L} {st : List Value} {M : mj_H} : mj_Rn d mj_m140 16 ls st M = mq_k0 d mj_m140 19 ls M (mq_gf 5 2 st M) := (mj_R3 (r := (.getfield 22, 3, 5, 2, 16600)) rfl rfl).trans (congrArg (mq_k0 d mj_m140 19 ls M) mq_gf_eq)
theorem s140_19 {d : Nat} {ls : mj_L} {st : List Value} {M : mj_H} : mj_Rn d mj_m140 19 ls st M = mq_k0 d mj_m140 22 ls M (mq_gf 8 13 st M) := (mj_R3 (r := (.getfield 250, 3, 8, 13, 16525)) rfl rfl).trans (congrArg (mq_k0 d mj_m140 22 ls M) mq_gf_eq)
theorem s140_22 {d : Nat} {ls : mj_L} {st : List Value} {M : mj_H} : mj_Rn d mj_m140 22 ls st M = mj_Rn d mj_m140 30 ls st M := mj_R2 (r := (.goto 8, 3, 0, 0, 0)) rfl rfl
theorem s140_25 {d : Nat} {ls : mj_L} {st : List Value} {M : mj_H} : mj_Rn d mj_m140 25 ls st M = mq_k0 d mj_m140 27 ls M (mj_lda (mj_lk ls 7) st) := mj_R0 (r := (.aload 7, 2, 0, 0, 0)) rfl rfl
theorem s140_27 {d : Nat} {ls : mj_L} {st : List Value} {M : mj_H} : mj_Rn d mj_m140 27 ls st M = mq_k0 d mj_m140 30 ls M (mq_gf 2 5 st M) := (mj_R3 (r := (.getfield 368, 3, 2, 5, 16453)) rfl rfl).trans (congrArg (mq_k0 d mj_m140 30 ls M) mq_gf_eq)
theorem s140_30 {d : Nat} {ls : mj_L} {st : List Value} {M : mj_H} : mj_Rn d mj_m140 30 ls st M = mj_Rn d mj_m140 31 ls (.int 1 :: st) M := mj_R0 (r := (.iconst 1, 1, 0, 0, 0)) rfl rfl
theorem s140_31 {d : Nat} {ls : mj_L} {st : List Value} {M : mj_H} : mj_Rn d mj_m140 31 ls st M = mq_k0 d mj_m140 32 ls M (mj_pu .iadd ls st) := mj_R0 (r := (.iadd, 1, 0, 0, 0)) rfl rfl
theorem s140_32 {d : Nat} {ls : mj_L} {st : List Value} {M : mj_H} : mj_Rn d mj_m140 32 ls st M = mq_k1 d mj_m140 34 M (mj_lo 9 (.istore 8) ls st) := mj_R1 (r := (.istore 8, 2, 0, 0, 0)) rfl rfl
theorem s140_34 {d : Nat} {ls : mj_L} {st : List Value} {M : mj_H} : mj_Rn d mj_m140 34 ls st M = mq_k0 d mj_m140 35 ls M (mj_lda (mj_lk ls 0) st) := mj_R0 (r := (.aload_n 0, 1, 0, 0, 0)) rfl rfl
theorem s140_35 {d : Nat} {ls : mj_L} {st : List Value} {M : mj_H} : mj_Rn d mj_m140 35 ls st M = mq_k0 d mj_m140 38 ls M (mq_gf 5 2 st M) := (mj_R3 (r := (.getfield 22, 3, 5, 2, 16600)) rfl rfl).trans (congrArg (mq_k0 d mj_m140 38 ls M) mq_gf_eq)
theorem s140_38 {d : Nat} {ls : mj_L} {st : List Value} {M : mj_H} : mj_Rn d mj_m140 38 ls st M = mj_Rn d mj_m140 39 ls (.int 4 :: st) M := mj_R0 (r := (.iconst 4, 1, 0, 0, 0)) rfl rfl
theorem s140_39 {d : Nat} {ls : mj_L} {st : List Value} {M : mj_H} : mj_Rn d mj_m140 39 ls st M = mq_k0 d mj_m140 41 ls M (mj_lda (mj_lk ls 7) st) := mj_R0 (r := (.aload 7, 2, 0, 0, 0)) rfl rfl
theorem s140_41 {d : Nat} {ls : mj_L} {st : List Value} {M : mj_H} : mj_Rn d mj_m140 41 ls st M = mq_k2 d mj_m140 ls M (mj_br (.ifnonnull 7) 41 st) := mj_R2 (r := (.ifnonnull 7, 3, 0, 0, 0)) rfl rfl
theorem s140_44 {d : Nat} {ls : mj_L} {st : List Value} {M : mj_H} : mj_Rn d mj_m140 44 ls st M = mj_Rn d mj_m140 45 ls (.int 0 :: st) M := mj_R0 (r := (.iconst 0, 1, 0, 0, 0)) rfl rfl
theorem s140_45 {d : Nat} {ls : mj_L} {st : List Value} {M : mj_H} : mj_Rn d mj_m140 45 ls st M = mj_Rn d mj_m140 53 ls st M := mj_R2 (r := (.goto 8, 3, 0, 0, 0)) rfl rfl
theorem s140_48 {d : Nat} {ls : mj_L} {st : List Value} {M : mj_H} : mj_Rn d mj_m140 48 ls st M = mq_k0 d mj_m140 50 ls M (mj_lda (mj_lk ls 7) st) := mj_R0 (r := (.aload 7, 2, 0, 0, 0)) rfl rfl
theorem s140_50 {d : Nat} {ls : mj_L} {st : List Value} {M : mj_H} : mj_Rn d mj_m140 50 ls st M = mq_k0 d mj_m140 53 ls M (mq_gf 2 0 st M) := (mj_R3 (r := (.getfield 289, 3, 2, 0, 16425)) rfl rfl).trans (congrArg (mq_k0 d mj_m140 53 ls M) mq_gf_eq)
theorem s140_53 {d : Nat} {ls : mj_L} {st : List Value} {M : mj_H} : mj_Rn d mj_m140 53 ls st M = mq_k0 d mj_m140 55 ls M (mj_ldi (mj_lk ls 8) st) := mj_R0 (r := (.iload 8, 2, 0, 0, 0)) rfl rfl
theorem s140_55 {d : Nat} {ls : mj_L} {st : List Value} {M : mj_H} : mj_Rn d mj_m140 55 ls st M = mj_Rn d mj_m140 56 ls (.null :: st) M := mj_R0 (r := (.aconst_null, 1, 0, 0, 0)) rfl rfl
theorem s140_56 {d : Nat} {ls : mj_L} {st : List Value} {M : mj_H} : mj_Rn (d + 1) mj_m140 56 ls st M = mq_k5a (d + 1) mj_m140 59 ls M 126 (mq_cb 0 4 8 st M) := mj_R5e (r := (.invokevirtual 298, 3, 0, 126, 16519)) (z := mj_m126) rfl rfl (by decide) (by decide) rfl
theorem s140_59 {d : Nat} {ls : mj_L} {st : List Value} {M : mj_H} : mj_Rn d mj_m140 59 ls st M = mq_k2 d mj_m140 ls M (mj_br (.ifCond .ne 4) 59 st) := mj_R2 (r := (.ifCond .ne 4, 3, 0, 0, 0)) rfl rfl
theorem s140_62 {d : Nat} {ls : mj_L} {st : List Value} {M : mj_H} : mj_Rn d mj_m140 62 ls st M = mq_k6 M (mj_re none (.return_) st) := mj_R6 (r := (.return_, 1, 0, 0, 0)) rfl rfl
theorem s140_63 {d : Nat} {ls : mj_L} {st : List Value} {M : mj_H} : mj_Rn d mj_m140 63 ls st M = mq_k0 d mj_m140 64 ls M (mj_lda (mj_lk ls 0) st) := mj_R0 (r := (.aload_n 0, 1, 0, 0, 0)) rfl rfl
theorem s140_64 {d : Nat} {ls : mj_L} {st : List Value} {M : mj_H} : mj_Rn d mj_m140 64 ls st M = mq_k0 d mj_m140 65 ls M (mj_ldi (mj_lk ls 3) st) := mj_R0 (r := (.iload_n 3, 1, 0, 0, 0)) rfl rfl
theorem s140_65 {d : Nat} {ls : mj_L} {st : List Value} {M : mj_H} : mj_Rn d mj_m140 65 ls st M = mq_k0 d mj_m140 67 ls M (mj_ldi (mj_lk ls 5) st) := mj_R0 (r := (.iload 5, 2, 0, 0, 0)) rfl rfl
theorem s140_67 {d : Nat} {ls : mj_L} {st : List Value} {M : mj_H} : mj_Rn d mj_m140 67 ls st M = mq_k0 d mj_m140 69 ls M (mj_ldi (mj_lk ls 8) st) := mj_R0 (r := (.iload 8, 2, 0, 0, 0)) rfl rfl
theorem s140_69 {d : Nat} {ls : mj_L} {st : List Value} {M : mj_H} : mj_Rn (d + 1) mj_m140 69 ls st M = mq_k5a (d + 1) mj_m140 72 ls M 129 (mq_cb 0 3 5 st M) := mj_R5e (r := (.invokevirtual 306, 3, 0, 129, 16531)) (z := mj_m129) rfl rfl (by decide) (by decide) rfl
theorem s140_72 {d : Nat} {ls : mj_L} {st : List Value} {M : mj_H} : mj_Rn d mj_m140 72 ls st M = mq_k0 d mj_m140 73 ls M (mj_lda (mj_lk ls 0) st) := mj_R0 (r := (.aload_n 0, 1, 0, 0, 0)) rfl rfl
theorem s140_73 {d : Nat} {ls : mj_L} {st : List Value} {M : mj_H} : mj_Rn d mj_m140 73 ls st M = mq_k0 d mj_m140 76 ls M (mq_gf 5 3 st M) := (mj_R3 (r := (.getfield 31, 3, 5, 3, 16604)) rfl rfl).trans (congrArg (mq_k0 d mj_m140 76 ls M) mq_gf_eq)
theorem s140_76 {d : Nat} {ls : mj_L} {st : List Value} {M : mj_H} : mj_Rn d mj_m140 76 ls st M = mj_Rn d mj_m140 77 ls (.int 5 :: st) M := mj_R0 (r := (.iconst 5, 1, 0, 0, 0)) rfl rfl
theorem s140_77 {d : Nat} {ls : mj_L} {st : List Value} {M : mj_H} : mj_Rn d mj_m140 77 ls st M = mq_k0 d mj_m140 79 ls M (mj_ldi (mj_lk ls 6) st) := mj_R0 (r := (.iload 6, 2, 0, 0, 0)) rfl rfl
theorem s140_79 {d : Nat} {ls : mj_L} {st : List Value} {M : mj_H} : mj_Rn d mj_m140 79 ls st M = mq_k2 d mj_m140 ls M (mj_br (.ifCond .ne 7) 79 st) := mj_R2 (r := (.ifCond .ne 7, 3, 0, 0, 0)) rfl rfl
theorem s140_82 {d : Nat} {ls : mj_L} {st : List Value} {M : mj_H} : mj_Rn d mj_m140 82 ls st M = mj_Rn d mj_m140 83 ls (.int 3 :: st) M := mj_R0 (r := (.iconst 3, 1, 0, 0, 0)) rfl rfl
theorem s140_83 {d : Nat} {ls : mj_L} {st : List Value} {M : mj_H} : mj_Rn d mj_m140 83 ls st M = mj_Rn d mj_m140 97 ls st M := mj_R2 (r := (.goto 14, 3, 0, 0, 0)) rfl rfl
theorem s140_86 {d : Nat} {ls : mj_L} {st : List Value} {M : mj_H} : mj_Rn d mj_m140 86 ls st M = mq_k0 d mj_m140 88 ls M (mj_ldi (mj_lk ls 6) st) := mj_R0 (r := (.iload 6, 2, 0, 0, 0)) rfl rfl
theorem s140_88 {d : Nat} {ls : mj_L} {st : List Value} {M : mj_H} : mj_Rn d mj_m140 88 ls st M = mj_Rn d mj_m140 89 ls (.int 1 :: st) M := mj_R0 (r := (.iconst 1, 1, 0, 0, 0)) rfl rfl
theorem s140_89 {d : Nat} {ls : mj_L} {st : List Value} {M : mj_H} : mj_Rn d mj_m140 89 ls st M = mq_k2 d mj_m140 ls M (mj_br (.if_icmp .ne 7) 89 st) := mj_R2 (r := (.if_icmp .ne 7, 3, 0, 0, 0)) rfl rfl
theorem s140_92 {d : Nat} {ls : mj_L} {st : List Value} {M : mj_H} : mj_Rn d mj_m140 92 ls st M = mj_Rn d mj_m140 93 ls (.int 4 :: st) M := mj_R0 (r := (.iconst 4, 1, 0, 0, 0)) rfl rfl
theorem s140_93 {d : Nat} {ls : mj_L} {st : List Value} {M : mj_H} : mj_Rn d mj_m140 93 ls st M = mj_Rn d mj_m140 97 ls st M := mj_R2 (r := (.goto 4, 3, 0, 0, 0)) rfl rfl
theorem s140_96 {d : Nat} {ls : mj_L} {st : List Value} {M : mj_H} : mj_Rn d mj_m140 96 ls st M = mj_Rn d mj_m140 97 ls (.int 5 :: st) M := mj_R0 (r := (.iconst 5, 1, 0, 0, 0)) rfl rfl
theorem s140_97 {d : Nat} {ls : mj_L} {st : List Value} {M : mj_H} : mj_Rn (d + 1) mj_m140 97 ls st M = mq_k5a (d + 1) mj_m140 100 ls M 131 (mq_cb 0 2 1 st M) := mj_R5e (r := (.invokevirtual 313, 3, 0, 131, 16540)) (z := mj_m131) rfl rfl (by decide) (by decide) rfl
theorem s140_100 {d : Nat} {ls : mj_L} {st : List Value} {M : mj_H} : mj_Rn d mj_m140 100 ls st M = mq_k0 d mj_m140 101 ls M (mj_lda (mj_lk ls 0) st) := mj_R0 (r := (.aload_n 0, 1, 0, 0, 0)) rfl rfl
theorem s140_101 {d : Nat} {ls : mj_L} {st : List Value} {M : mj_H} : mj_Rn d mj_m140 101 ls st M = mq_k0 d mj_m140 104 ls M (mq_gf 5 3 st M) := (mj_R3 (r := (.getfield 31, 3, 5, 3, 16604)) rfl rfl).trans (congrArg (mq_k0 d mj_m140 104 ls M) mq_gf_eq)
theorem s140_104 {d : Nat} {ls : mj_L} {st : List Value} {M : mj_H} : mj_Rn d mj_m140 104 ls st M = mj_Rn d mj_m140 105 ls (.int 1 :: st) M := mj_R0 (r := (.iconst 1, 1, 0, 0, 0)) rfl rfl
theorem s140_105 {d : Nat} {ls : mj_L} {st : List Value} {M : mj_H} : mj_Rn (d + 1) mj_m140 105 ls st M = mq_k5a (d + 1) mj_m140 108 ls M 45 (mq_cb 0 1 1 st M) := mj_R5e (r := (.invokevirtual 102, 3, 0, 45, 12442)) (z := mj_m45) rfl rfl (by decide) (by decide) rfl
theorem s140_108 {d : Nat} {ls : mj_L} {st : List Value} {M : mj_H} : mj_Rn d mj_m140 108 ls st M = mq_k0 d mj_m140 109 ls M (mj_lda (mj_lk ls 0) st) := mj_R0 (r := (.aload_n 0, 1, 0, 0, 0)) rfl rfl
theorem s140_109 {d : Nat} {ls : mj_L} {st : List Value} {M : mj_H} : mj_Rn d mj_m140 109 ls st M = mq_k0 d mj_m140 112 ls M (mq_gf 5 3 st M) := (mj_R3 (r := (.getfield 31, 3, 5, 3, 16604)) rfl rfl).trans (congrArg (mq_k0 d mj_m140 112 ls M) mq_gf_eq)
theorem s140_112 {d : Nat} {ls : mj_L} {st : List Value} {M : mj_H} : mj_Rn d mj_m140 112 ls st M = mj_Rn d mj_m140 113 ls (.int 5 :: st) M := mj_R0 (r := (.iconst 5, 1, 0, 0, 0)) rfl rfl
theorem s140_113 {d : Nat} {ls : mj_L} {st : List Value} {M : mj_H} : mj_Rn d mj_m140 113 ls st M = mj_Rn d mj_m140 114 ls (.int 2 :: st) M := mj_R0 (r := (.iconst 2, 1, 0, 0, 0)) rfl rfl
theorem s140_114 {d : Nat} {ls : mj_L} {st : List Value} {M : mj_H} : mj_Rn (d + 1) mj_m140 114 ls st M = mq_k5a (d + 1) mj_m140 117 ls M 131 (mq_cb 0 2 1 st M) := mj_R5e (r := (.invokevirtual 313, 3, 0, 131, 16540)) (z := mj_m131) rfl rfl (by decide) (by decide) rfl
theorem s140_117 {d : Nat} {ls : mj_L} {st : List Value} {M : mj_H} : mj_Rn d mj_m140 117 ls st M = mq_k0 d mj_m140 118 ls M (mj_lda (mj_lk ls 0) st) := mj_R0 (r := (.aload_n 0, 1, 0, 0, 0)) rfl rfl
theorem s140_118 {d : Nat} {ls : mj_L} {st : List Value} {M : mj_H} : mj_Rn d mj_m140 118 ls st M = mq_k0 d mj_m140 121 ls M (mq_gf 5 3 st M) := (mj_R3 (r := (.getfield 31, 3, 5, 3, 16604)) rfl rfl).trans (congrArg (mq_k0 d mj_m140 121 ls M) mq_gf_eq)
theorem s140_121 {d : Nat} {ls : mj_L} {st : List Value} {M : mj_H} : mj_Rn d mj_m140 121 ls st M = mj_Rn d mj_m140 123 ls (.ref 3 :: st) M := mj_R3 (r := (.ldc 171, 2, 2, 8, 12497)) rfl rfl
theorem s140_123 {d : Nat} {ls : mj_L} {st : List Value} {M : mj_H} : mj_Rn (d + 1) mj_m140 123 ls st M = mq_k5a (d + 1) mj_m140 126 ls M 132 (mq_cb 0 1 1 st M) := mj_R5e (r := (.invokevirtual 319, 3, 0, 132, 16546)) (z := mj_m132) rfl rfl (by decide) (by decide) rfl
theorem s140_126 {d : Nat} {ls : mj_L} {st : List Value} {M : mj_H} : mj_Rn d mj_m140 126 ls st M = mq_k0 d mj_m140 127 ls M (mj_lda (mj_lk ls 0) st) := mj_R0 (r := (.aload_n 0, 1, 0, 0, 0)) rfl rfl
theorem s140_127 {d : Nat} {ls : mj_L} {st : List Value} {M : mj_H} : mj_Rn d mj_m140 127 ls st M = mq_k0 d mj_m140 130 ls M (mq_gf 5 3 st M) := (mj_R3 (r := (.getfield 31, 3, 5, 3, 16604)) rfl rfl).trans (congrArg (mq_k0 d mj_m140 130 ls M) mq_gf_eq)
theorem s140_130 {d : Nat} {ls : mj_L} {st : List Value} {M : mj_H} : mj_Rn d mj_m140 130 ls st M = mq_k0 d mj_m140 132 ls M (mj_lda (mj_lk ls 7) st) := mj_R0 (r := (.aload 7, 2, 0, 0, 0)) rfl rfl
theorem s140_132 {d : Nat} {ls : mj_L} {st : List Value} {M : mj_H} : mj_Rn d mj_m140 132 ls st M = mq_k2 d mj_m140 ls M (mj_br (.ifnonnull 7) 132 st) := mj_R2 (r := (.ifnonnull 7, 3, 0, 0, 0)) rfl rfl
theorem s140_135 {d : Nat} {ls : mj_L} {st : List Value} {M : mj_H} : mj_Rn d mj_m140 135 ls st M = mq_k0 d mj_m140 136 ls M (mj_ldi (mj_lk ls 2) st) := mj_R0 (r := (.iload_n 2, 1, 0, 0, 0)) rfl rfl
theorem s140_136 {d : Nat} {ls : mj_L} {st : List Value} {M : mj_H} : mj_Rn d mj_m140 136 ls st M = mj_Rn d mj_m140 144 ls st M := mj_R2 (r := (.goto 8, 3, 0, 0, 0)) rfl rfl
theorem s140_139 {d : Nat} {ls : mj_L} {st : List Value} {M : mj_H} : mj_Rn d mj_m140 139 ls st M = mq_k0 d mj_m140 141 ls M (mj_lda (mj_lk ls 7) st) := mj_R0 (r := (.aload 7, 2, 0, 0, 0)) rfl rfl
theorem s140_141 {d : Nat} {ls : mj_L} {st : List Value} {M : mj_H} : mj_Rn d mj_m140 141 ls st M = mq_k0 d mj_m140 144 ls M (mq_gf 2 0 st M) := (mj_R3 (r := (.getfield 289, 3, 2, 0, 16425)) rfl rfl).trans (congrArg (mq_k0 d mj_m140 144 ls M) mq_gf_eq)
theorem s140_144 {d : Nat} {ls : mj_L} {st : List Value} {M : mj_H} : mj_Rn (d + 1) mj_m140 144 ls st M = mq_k5a (d + 1) mj_m140 147 ls M 134 (mq_cb 0 1 1 st M) := mj_R5e (r := (.invokevirtual 331, 3, 0, 134, 16559)) (z := mj_m134) rfl rfl (by decide) (by decide) rfl
theorem s140_147 {d : Nat} {ls : mj_L} {st : List Value} {M : mj_H} : mj_Rn d mj_m140 147 ls st M = mq_k0 d mj_m140 148 ls M (mj_lda (mj_lk ls 0) st) := mj_R0 (r := (.aload_n 0, 1, 0, 0, 0)) rfl rfl
theorem s140_148 {d : Nat} {ls : mj_L} {st : List Value} {M : mj_H} : mj_Rn d mj_m140 148 ls st M = mq_k0 d mj_m140 151 ls M (mq_gf 5 3 st M) := (mj_R3 (r := (.getfield 31, 3, 5, 3, 16604)) rfl rfl).trans (congrArg (mq_k0 d mj_m140 151 ls M) mq_gf_eq)
theorem s140_151 {d : Nat} {ls : mj_L} {st : List Value} {M : mj_H} : mj_Rn d mj_m140 151 ls st M = mj_Rn d mj_m140 154 ls (.ref 7 :: st) M := mj_R3 (r := (.ldc_w 369, 3, 2, 12, 16589)) rfl rfl
theorem s140_154 {d : Nat} {ls : mj_L} {st : List Value} {M : mj_H} : mj_Rn (d + 1) mj_m140 154 ls st M = mq_k5a (d + 1) mj_m140 157 ls M 132 (mq_cb 0 1 1 st M) := mj_R5e (r := (.invokevirtual 319, 3, 0, 132, 16546)) (z := mj_m132) rfl rfl (by decide) (by decide) rfl
theorem s140_157 {d : Nat} {ls : mj_L} {st : List Value} {M : mj_H} : mj_Rn d mj_m140 157 ls st M = mq_k0 d mj_m140 158 ls M (mj_lda (mj_lk ls 0) st) := mj_R0 (r := (.aload_n 0, 1, 0, 0, 0)) rfl rfl
theorem s140_158 {d : Nat} {ls : mj_L} {st : List Value} {M : mj_H} : mj_Rn d mj_m140 158 ls st M = mq_k0 d mj_m140 161 ls M (mq_gf 5 3 st M) := (mj_R3 (r := (.getfield 31, 3, 5, 3, 16604)) rfl rfl).trans (congrArg (mq_k0 d mj_m140 161 ls M) mq_gf_eq)
theorem s140_161 {d : Nat} {ls : mj_L} {st : List Value} {M : mj_H} : mj_Rn d mj_m140 161 ls st M = mj_Rn d mj_m140 164 ls (.ref 13 :: st) M := mj_R3 (r := (.ldc_w 371, 3, 2, 13, 16590)) rfl rfl
theorem s140_164 {d : Nat} {ls : mj_L} {st : List Value} {M : mj_H} : mj_Rn (d + 1) mj_m140 164 ls st M = mq_k5a (d + 1) mj_m140 167 ls M 132 (mq_cb 0 1 1 st M) := mj_R5e (r := (.invokevirtual 319, 3, 0, 132, 16546)) (z := mj_m132) rfl rfl (by decide) (by decide) rfl
theorem s140_167 {d : Nat} {ls : mj_L} {st : List Value} {M : mj_H} : mj_Rn d mj_m140 167 ls st M = mq_k0 d mj_m140 168 ls M (mj_lda (mj_lk ls 0) st) := mj_R0 (r := (.aload_n 0, 1, 0, 0, 0)) rfl rfl
theorem s140_168 {d : Nat} {ls : mj_L} {st : List Value} {M : mj_H} : mj_Rn d mj_m140 168 ls st M = mq_k0 d mj_m140 171 ls M (mq_gf 5 3 st M) := (mj_R3 (r := (.getfield 31, 3, 5, 3, 16604)) rfl rfl).trans (congrArg (mq_k0 d mj_m140 171 ls M) mq_gf_eq)
theorem s140_171 {d : Nat} {ls : mj_L} {st : List Value} {M : mj_H} : mj_Rn d mj_m140 171 ls st M = mj_Rn d mj_m140 172 ls (.int 2 :: st) M := mj_R0 (r := (.iconst 2, 1, 0, 0, 0)) rfl rfl
theorem s140_172 {d : Nat} {ls : mj_L} {st : List Value} {M : mj_H} : mj_Rn (d + 1) mj_m140 172 ls st M = mq_k5a (d + 1) mj_m140 175 ls M 45 (mq_cb 0 1 1 st M) := mj_R5e (r := (.invokevirtual 102, 3, 0, 45, 12442)) (z := mj_m45) rfl rfl (by decide) (by decide) rfl
theorem s140_175 {d : Nat} {ls : mj_L} {st : List Value} {M : mj_H} : mj_Rn d mj_m140 175 ls st M = mq_k0 d mj_m140 176 ls M (mj_lda (mj_lk ls 0) st) := mj_R0 (r := (.aload_n 0, 1, 0, 0, 0)) rfl rfl
theorem s140_176 {d : Nat} {ls : mj_L} {st : List Value} {M : mj_H} : mj_Rn d mj_m140 176 ls st M = mq_k0 d mj_m140 179 ls M (mq_gf 5 3 st M) := (mj_R3 (r := (.getfield 31, 3, 5, 3, 16604)) rfl rfl).trans (congrArg (mq_k0 d mj_m140 179 ls M) mq_gf_eq)
theorem s140_179 {d : Nat} {ls : mj_L} {st : List Value} {M : mj_H} : mj_Rn d mj_m140 179 ls st M = mj_Rn d mj_m140 180 ls (.int 2 :: st) M := mj_R0 (r := (.iconst 2, 1, 0, 0, 0)) rfl rfl
theorem s140_180 {d : Nat} {ls : mj_L} {st : List Value} {M : mj_H} : mj_Rn d mj_m140 180 ls st M = mq_k0 d mj_m140 181 ls M (mj_lda (mj_lk ls 0) st) := mj_R0 (r := (.aload_n 0, 1, 0, 0, 0)) rfl rfl
theorem s140_181 {d : Nat} {ls : mj_L} {st : List Value} {M : mj_H} : mj_Rn d mj_m140 181 ls st M = mq_k0 d mj_m140 184 ls M (mq_gf 5 4 st M) := (mj_R3 (r := (.getfield 35, 3, 5, 4, 16608)) rfl rfl).trans (congrArg (mq_k0 d mj_m140 184 ls M) mq_gf_eq)
theorem s140_184 {d : Nat} {ls : mj_L} {st : List Value} {M : mj_H} : mj_Rn (d + 1) mj_m140 184 ls st M = mq_k5a (d + 1) mj_m140 187 ls M 9 (mq_cb 0 0 1 st M) := mj_R5e (r := (.invokevirtual 99, 3, 0, 9, 12441)) (z := mj_m9) rfl rfl (by decide) (by decide) rfl
theorem s140_187 {d : Nat} {ls : mj_L} {st : List Value} {M : mj_H} : mj_Rn (d + 1) mj_m140 187 ls st M = mq_k5a (d + 1) mj_m140 190 ls M 131 (mq_cb 0 2 1 st M) := mj_R5e (r := (.invokevirtual 313, 3, 0, 131, 16540)) (z := mj_m131) rfl rfl (by decide) (by decide) rfl
theorem s140_190 {d : Nat} {ls : mj_L} {st : List Value} {M : mj_H} : mj_Rn d mj_m140 190 ls st M = mq_k0 d mj_m140 191 ls M (mj_lda (mj_lk ls 0) st) := mj_R0 (r := (.aload_n 0, 1, 0, 0, 0)) rfl rfl
theorem s140_191 {d : Nat} {ls : mj_L} {st : List Value} {M : mj_H} : mj_Rn d mj_m140 191 ls st M = mq_k0 d mj_m140 194 ls M (mq_gf 5 3 st M) := (mj_R3 (r := (.getfield 31, 3, 5, 3, 16604)) rfl rfl).trans (congrArg (mq_k0 d mj_m140 194 ls M) mq_gf_eq)
theorem s140_194 {d : Nat} {ls : mj_L} {st : List Value} {M : mj_H} : mj_Rn d mj_m140 194 ls st M = mq_k0 d mj_m140 195 ls M (mj_lda (mj_lk ls 0) st) := mj_R0 (r := (.aload_n 0, 1, 0, 0, 0)) rfl rfl
theorem s140_195 {d : Nat} {ls : mj_L} {st : List Value} {M : mj_H} : mj_Rn d mj_m140 195 ls st M = mq_k0 d mj_m140 198 ls M (mq_gf 5 4 st M) := (mj_R3 (r := (.getfield 35, 3, 5, 4, 16608)) rfl rfl).trans (congrArg (mq_k0 d mj_m140 198 ls M) mq_gf_eq)
theorem s140_198 {d : Nat} {ls : mj_L} {st : List Value} {M : mj_H} : mj_Rn d mj_m140 198 ls st M = mj_Rn d mj_m140 199 ls (.int 0 :: st) M := mj_R0 (r := (.iconst 0, 1, 0, 0, 0)) rfl rfl
theorem s140_199 {d : Nat} {ls : mj_L} {st : List Value} {M : mj_H} : mj_Rn d mj_m140 199 ls st M = mq_k0 d mj_m140 200 ls M (mj_lda (mj_lk ls 0) st) := mj_R0 (r := (.aload_n 0, 1, 0, 0, 0)) rfl rfl
theorem s140_200 {d : Nat} {ls : mj_L} {st : List Value} {M : mj_H} : mj_Rn d mj_m140 200 ls st M = mq_k0 d mj_m140 203 ls M (mq_gf 5 4 st M) := (mj_R3 (r := (.getfield 35, 3, 5, 4, 16608)) rfl rfl).trans (congrArg (mq_k0 d mj_m140 203 ls M) mq_gf_eq)
theorem s140_203 {d : Nat} {ls : mj_L} {st : List Value} {M : mj_H} : mj_Rn (d + 1) mj_m140 203 ls st M = mq_k5a (d + 1) mj_m140 206 ls M 9 (mq_cb 0 0 1 st M) := mj_R5e (r := (.invokevirtual 99, 3, 0, 9, 12441)) (z := mj_m9) rfl rfl (by decide) (by decide) rfl
theorem s140_206 {d : Nat} {ls : mj_L} {st : List Value} {M : mj_H} : mj_Rn (d + 1) mj_m140 206 ls st M = mq_k5a (d + 1) mj_m140 209 ls M 77 (mq_cb 0 3 1 st M) := mj_R5e (r := (.invokevirtual 323, 3, 0, 77, 16553)) (z := mj_m77) rfl rfl (by decide) (by decide) rfl
theorem s140_209 {d : Nat} {ls : mj_L} {st : List Value} {M : mj_H} : mj_Rn d mj_m140 209 ls st M = mq_k0 d mj_m140 210 ls M (mj_lda (mj_lk ls 0) st) := mj_R0 (r := (.aload_n 0, 1, 0, 0, 0)) rfl rfl
theorem s140_210 {d : Nat} {ls : mj_L} {st : List Value} {M : mj_H} : mj_Rn d mj_m140 210 ls st M = mq_k0 d mj_m140 213 ls M (mq_gf 5 3 st M) := (mj_R3 (r := (.getfield 31, 3, 5, 3, 16604)) rfl rfl).trans (congrArg (mq_k0 d mj_m140 213 ls M) mq_gf_eq)
theorem s140_213 {d : Nat} {ls : mj_L} {st : List Value} {M : mj_H} : mj_Rn d mj_m140 213 ls st M = mj_Rn d mj_m140 214 ls (.int 3 :: st) M := mj_R0 (r := (.iconst 3, 1, 0, 0, 0)) rfl rfl
theorem s140_214 {d : Nat} {ls : mj_L} {st : List Value} {M : mj_H} : mj_Rn (d + 1) mj_m140 214 ls st M = mq_k5a (d + 1) mj_m140 217 ls M 45 (mq_cb 0 1 1 st M) := mj_R5e (r := (.invokevirtual 102, 3, 0, 45, 12442)) (z := mj_m45) rfl rfl (by decide) (by decide) rfl
theorem s140_217 {d : Nat} {ls : mj_L} {st : List Value} {M : mj_H} : mj_Rn d mj_m140 217 ls st M = mq_k0 d mj_m140 218 ls M (mj_lda (mj_lk ls 0) st) := mj_R0 (r := (.aload_n 0, 1, 0, 0, 0)) rfl rfl
theorem s140_218 {d : Nat} {ls : mj_L} {st : List Value} {M : mj_H} : mj_Rn d mj_m140 218 ls st M = mq_k0 d mj_m140 221 ls M (mq_gf 5 3 st M) := (mj_R3 (r := (.getfield 31, 3, 5, 3, 16604)) rfl rfl).trans (congrArg (mq_k0 d mj_m140 221 ls M) mq_gf_eq)
theorem s140_221 {d : Nat} {ls : mj_L} {st : List Value} {M : mj_H} : mj_Rn d mj_m140 221 ls st M = mq_k0 d mj_m140 222 ls M (mj_lda (mj_lk ls 0) st) := mj_R0 (r := (.aload_n 0, 1, 0, 0, 0)) rfl rfl
theorem s140_222 {d : Nat} {ls : mj_L} {st : List Value} {M : mj_H} : mj_Rn d mj_m140 222 ls st M = mq_k0 d mj_m140 224 ls M (mj_lda (mj_lk ls 7) st) := mj_R0 (r := (.aload 7, 2, 0, 0, 0)) rfl rfl
theorem s140_224 {d : Nat} {ls : mj_L} {st : List Value} {M : mj_H} : mj_Rn d mj_m140 224 ls st M = mq_k2 d mj_m140 ls M (mj_br (.ifnonnull 15) 224 st) := mj_R2 (r := (.ifnonnull 15, 3, 0, 0, 0)) rfl rfl
theorem s140_227 {d : Nat} {ls : mj_L} {st : List Value} {M : mj_H} : mj_Rn d mj_m140 227 ls st M = mq_k0 d mj_m140 228 ls M (mj_lda (mj_lk ls 0) st) := mj_R0 (r := (.aload_n 0, 1, 0, 0, 0)) rfl rfl
theorem s140_228 {d : Nat} {ls : mj_L} {st : List Value} {M : mj_H} : mj_Rn d mj_m140 228 ls st M = mq_k0 d mj_m140 231 ls M (mq_gf 5 0 st M) := (mj_R3 (r := (.getfield 9, 3, 5, 0, 16596)) rfl rfl).trans (congrArg (mq_k0 d mj_m140 231 ls M) mq_gf_eq)
theorem s140_231 {d : Nat} {ls : mj_L} {st : List Value} {M : mj_H} : mj_Rn d mj_m140 231 ls st M = mq_k0 d mj_m140 232 ls M (mj_ldi (mj_lk ls 2) st) := mj_R0 (r := (.iload_n 2, 1, 0, 0, 0)) rfl rfl
theorem s140_232 {d : Nat} {ls : mj_L} {st : List Value} {M : mj_H} : mj_Rn d mj_m140 232 ls st M = mj_Rn d mj_m140 233 ls (.int 3 :: st) M := mj_R0 (r := (.iconst 3, 1, 0, 0, 0)) rfl rfl
theorem s140_233 {d : Nat} {ls : mj_L} {st : List Value} {M : mj_H} : mj_Rn (d + 1) mj_m140 233 ls st M = mq_k5a (d + 1) mj_m140 236 ls M 20 (mq_cb 0 2 9 st M) := mj_R5e (r := (.invokevirtual 165, 3, 0, 20, 16482)) (z := mj_m20) rfl rfl (by decide) (by decide) rfl
theorem s140_236 {d : Nat} {ls : mj_L} {st : List Value} {M : mj_H} : mj_Rn d mj_m140 236 ls st M = mj_Rn d mj_m140 244 ls st M := mj_R2 (r := (.goto 8, 3, 0, 0, 0)) rfl rfl
theorem s140_239 {d : Nat} {ls : mj_L} {st : List Value} {M : mj_H} : mj_Rn d mj_m140 239 ls st M = mq_k0 d mj_m140 241 ls M (mj_lda (mj_lk ls 7) st) := mj_R0 (r := (.aload 7, 2, 0, 0, 0)) rfl rfl
theorem s140_241 {d : Nat} {ls : mj_L} {st : List Value} {M : mj_H} : mj_Rn d mj_m140 241 ls st M = mq_k0 d mj_m140 244 ls M (mq_gf 2 2 st M) := (mj_R3 (r := (.getfield 278, 3, 2, 2, 16435)) rfl rfl).trans (congrArg (mq_k0 d mj_m140 244 ls M) mq_gf_eq)
theorem s140_244 {d : Nat} {ls : mj_L} {st : List Value} {M : mj_H} : mj_Rn d mj_m140 244 ls st M = mq_k0 d mj_m140 246 ls M (mj_ldi (mj_lk ls 4) st) := mj_R0 (r := (.iload 4, 2, 0, 0, 0)) rfl rfl
theorem s140_246 {d : Nat} {ls : mj_L} {st : List Value} {M : mj_H} : mj_Rn (d + 1) mj_m140 246 ls st M = mq_k5a (d + 1) mj_m140 249 ls M 133 (mq_cb 0 2 5 st M) := mj_R5e (r := (.invokevirtual 328, 3, 0, 133, 16555)) (z := mj_m133) rfl rfl (by decide) (by decide) rfl
theorem s140_249 {d : Nat} {ls : mj_L} {st : List Value} {M : mj_H} : mj_Rn (d + 1) mj_m140 249 ls st M = mq_k5a (d + 1) mj_m140 252 ls M 134 (mq_cb 0 1 1 st M) := mj_R5e (r := (.invokevirtual 331, 3, 0, 134, 16559)) (z := mj_m134) rfl rfl (by decide) (by decide) rfl
theorem s140_252 {d : Nat} {ls : mj_L} {st : List Value} {M : mj_H} : mj_Rn d mj_m140 252 ls st M = mq_k0 d mj_m140 254 ls M (mj_ldi (mj_lk ls 6) st) := mj_R0 (r := (.iload 6, 2, 0, 0, 0)) rfl rfl
theorem s140_254 {d : Nat} {ls : mj_L} {st : List Value} {M : mj_H} : mj_Rn d mj_m140 254 ls st M = mq_k2 d mj_m140 ls M (mj_br (.ifCond .le 64) 254 st) := mj_R2 (r := (.ifCond .le 64, 3, 0, 0, 0)) rfl rfl
theorem s140_257 {d : Nat} {ls : mj_L} {st : List Value} {M : mj_H} : mj_Rn d mj_m140 257 ls st M = mq_k0 d mj_m140 259 ls M (mj_lda (mj_lk ls 7) st) := mj_R0 (r := (.aload 7, 2, 0, 0, 0)) rfl rfl
theorem s140_259 {d : Nat} {ls : mj_L} {st : List Value} {M : mj_H} : mj_Rn d mj_m140 259 ls st M = mq_k2 d mj_m140 ls M (mj_br (.ifnull 59) 259 st) := mj_R2 (r := (.ifnull 59, 3, 0, 0, 0)) rfl rfl
theorem s140_262 {d : Nat} {ls : mj_L} {st : List Value} {M : mj_H} : mj_Rn d mj_m140 262 ls st M = mq_k0 d mj_m140 263 ls M (mj_lda (mj_lk ls 0) st) := mj_R0 (r := (.aload_n 0, 1, 0, 0, 0)) rfl rfl
theorem s140_263 {d : Nat} {ls : mj_L} {st : List Value} {M : mj_H} : mj_Rn d mj_m140 263 ls st M = mq_k0 d mj_m140 266 ls M (mq_gf 5 3 st M) := (mj_R3 (r := (.getfield 31, 3, 5, 3, 16604)) rfl rfl).trans (congrArg (mq_k0 d mj_m140 266 ls M) mq_gf_eq)
theorem s140_266 {d : Nat} {ls : mj_L} {st : List Value} {M : mj_H} : mj_Rn d mj_m140 266 ls st M = mj_Rn d mj_m140 267 ls (.int 4 :: st) M := mj_R0 (r := (.iconst 4, 1, 0, 0, 0)) rfl rfl
theorem s140_267 {d : Nat} {ls : mj_L} {st : List Value} {M : mj_H} : mj_Rn (d + 1) mj_m140 267 ls st M = mq_k5a (d + 1) mj_m140 270 ls M 45 (mq_cb 0 1 1 st M) := mj_R5e (r := (.invokevirtual 102, 3, 0, 45, 12442)) (z := mj_m45) rfl rfl (by decide) (by decide) rfl
theorem s140_270 {d : Nat} {ls : mj_L} {st : List Value} {M : mj_H} : mj_Rn d mj_m140 270 ls st M = mq_k0 d mj_m140 271 ls M (mj_lda (mj_lk ls 0) st) := mj_R0 (r := (.aload_n 0, 1, 0, 0, 0)) rfl rfl
theorem s140_271 {d : Nat} {ls : mj_L} {st : List Value} {M : mj_H} : mj_Rn d mj_m140 271 ls st M = mq_k0 d mj_m140 274 ls M (mq_gf 5 3 st M) := (mj_R3 (r := (.getfield 31, 3, 5, 3, 16604)) rfl rfl).trans (congrArg (mq_k0 d mj_m140 274 ls M) mq_gf_eq)
theorem s140_274 {d : Nat} {ls : mj_L} {st : List Value} {M : mj_H} : mj_Rn d mj_m140 274 ls st M = mj_Rn d mj_m140 275 ls (.int 5 :: st) M := mj_R0 (r := (.iconst 5, 1, 0, 0, 0)) rfl rfl
theorem s140_275 {d : Nat} {ls : mj_L} {st : List Value} {M : mj_H} : mj_Rn d mj_m140 275 ls st M = mj_Rn d mj_m140 276 ls (.int 1 :: st) M := mj_R0 (r := (.iconst 1, 1, 0, 0, 0)) rfl rfl
theorem s140_276 {d : Nat} {ls : mj_L} {st : List Value} {M : mj_H} : mj_Rn (d + 1) mj_m140 276 ls st M = mq_k5a (d + 1) mj_m140 279 ls M 131 (mq_cb 0 2 1 st M) := mj_R5e (r := (.invokevirtual 313, 3, 0, 131, 16540)) (z := mj_m131) rfl rfl (by decide) (by decide) rfl
theorem s140_279 {d : Nat} {ls : mj_L} {st : List Value} {M : mj_H} : mj_Rn d mj_m140 279 ls st M = mq_k0 d mj_m140 280 ls M (mj_lda (mj_lk ls 0) st) := mj_R0 (r := (.aload_n 0, 1, 0, 0, 0)) rfl rfl
theorem s140_280 {d : Nat} {ls : mj_L} {st : List Value} {M : mj_H} : mj_Rn d mj_m140 280 ls st M = mq_k0 d mj_m140 283 ls M (mq_gf 5 3 st M) := (mj_R3 (r := (.getfield 31, 3, 5, 3, 16604)) rfl rfl).trans (congrArg (mq_k0 d mj_m140 283 ls M) mq_gf_eq)
theorem s140_283 {d : Nat} {ls : mj_L} {st : List Value} {M : mj_H} : mj_Rn d mj_m140 283 ls st M = mj_Rn d mj_m140 285 ls (.ref 3 :: st) M := mj_R3 (r := (.ldc 171, 2, 2, 8, 12497)) rfl rfl
theorem s140_285 {d : Nat} {ls : mj_L} {st : List Value} {M : mj_H} : mj_Rn (d + 1) mj_m140 285 ls st M = mq_k5a (d + 1) mj_m140 288 ls M 132 (mq_cb 0 1 1 st M) := mj_R5e (r := (.invokevirtual 319, 3, 0, 132, 16546)) (z := mj_m132) rfl rfl (by decide) (by decide) rfl
theorem s140_288 {d : Nat} {ls : mj_L} {st : List Value} {M : mj_H} : mj_Rn d mj_m140 288 ls st M = mq_k0 d mj_m140 289 ls M (mj_lda (mj_lk ls 0) st) := mj_R0 (r := (.aload_n 0, 1, 0, 0, 0)) rfl rfl
theorem s140_289 {d : Nat} {ls : mj_L} {st : List Value} {M : mj_H} : mj_Rn d mj_m140 289 ls st M = mq_k0 d mj_m140 292 ls M (mq_gf 5 3 st M) := (mj_R3 (r := (.getfield 31, 3, 5, 3, 16604)) rfl rfl).trans (congrArg (mq_k0 d mj_m140 292 ls M) mq_gf_eq)
theorem s140_292 {d : Nat} {ls : mj_L} {st : List Value} {M : mj_H} : mj_Rn d mj_m140 292 ls st M = mj_Rn d mj_m140 293 ls (.int 2 :: st) M := mj_R0 (r := (.iconst 2, 1, 0, 0, 0)) rfl rfl
theorem s140_293 {d : Nat} {ls : mj_L} {st : List Value} {M : mj_H} : mj_Rn d mj_m140 293 ls st M = mq_k0 d mj_m140 295 ls M (mj_lda (mj_lk ls 7) st) := mj_R0 (r := (.aload 7, 2, 0, 0, 0)) rfl rfl
theorem s140_295 {d : Nat} {ls : mj_L} {st : List Value} {M : mj_H} : mj_Rn d mj_m140 295 ls st M = mq_k0 d mj_m140 298 ls M (mq_gf 2 4 st M) := (mj_R3 (r := (.getfield 295, 3, 2, 4, 16447)) rfl rfl).trans (congrArg (mq_k0 d mj_m140 298 ls M) mq_gf_eq)
theorem s140_298 {d : Nat} {ls : mj_L} {st : List Value} {M : mj_H} : mj_Rn (d + 1) mj_m140 298 ls st M = mq_k5a (d + 1) mj_m140 301 ls M 131 (mq_cb 0 2 1 st M) := mj_R5e (r := (.invokevirtual 313, 3, 0, 131, 16540)) (z := mj_m131) rfl rfl (by decide) (by decide) rfl
theorem s140_301 {d : Nat} {ls : mj_L} {st : List Value} {M : mj_H} : mj_Rn d mj_m140 301 ls st M = mq_k0 d mj_m140 302 ls M (mj_lda (mj_lk ls 0) st) := mj_R0 (r := (.aload_n 0, 1, 0, 0, 0)) rfl rfl
theorem s140_302 {d : Nat} {ls : mj_L} {st : List Value} {M : mj_H} : mj_Rn d mj_m140 302 ls st M = mq_k0 d mj_m140 305 ls M (mq_gf 5 3 st M) := (mj_R3 (r := (.getfield 31, 3, 5, 3, 16604)) rfl rfl).trans (congrArg (mq_k0 d mj_m140 305 ls M) mq_gf_eq)
theorem s140_305 {d : Nat} {ls : mj_L} {st : List Value} {M : mj_H} : mj_Rn d mj_m140 305 ls st M = mq_k0 d mj_m140 307 ls M (mj_lda (mj_lk ls 7) st) := mj_R0 (r := (.aload 7, 2, 0, 0, 0)) rfl rfl
theorem s140_307 {d : Nat} {ls : mj_L} {st : List Value} {M : mj_H} : mj_Rn d mj_m140 307 ls st M = mq_k0 d mj_m140 310 ls M (mq_gf 2 3 st M) := (mj_R3 (r := (.getfield 291, 3, 2, 3, 16441)) rfl rfl).trans (congrArg (mq_k0 d mj_m140 310 ls M) mq_gf_eq)
theorem s140_310 {d : Nat} {ls : mj_L} {st : List Value} {M : mj_H} : mj_Rn d mj_m140 310 ls st M = mq_k0 d mj_m140 312 ls M (mj_lda (mj_lk ls 7) st) := mj_R0 (r := (.aload 7, 2, 0, 0, 0)) rfl rfl
theorem s140_312 {d : Nat} {ls : mj_L} {st : List Value} {M : mj_H} : mj_Rn d mj_m140 312 ls st M = mq_k0 d mj_m140 315 ls M (mq_gf 2 4 st M) := (mj_R3 (r := (.getfield 295, 3, 2, 4, 16447)) rfl rfl).trans (congrArg (mq_k0 d mj_m140 315 ls M) mq_gf_eq)
theorem s140_315 {d : Nat} {ls : mj_L} {st : List Value} {M : mj_H} : mj_Rn (d + 1) mj_m140 315 ls st M = mq_k5a (d + 1) mj_m140 318 ls M 10 (mq_cb 0 2 1 st M) := mj_R5e (r := (.invokevirtual 302, 3, 0, 10, 16535)) (z := mj_m10) rfl rfl (by decide) (by decide) rfl
theorem s140_318 {d : Nat} {ls : mj_L} {st : List Value} {M : mj_H} : mj_Rn d mj_m140 318 ls st M = mq_k0 d mj_m140 320 ls M (mj_ldi (mj_lk ls 6) st) := mj_R0 (r := (.iload 6, 2, 0, 0, 0)) rfl rfl
theorem s140_320 {d : Nat} {ls : mj_L} {st : List Value} {M : mj_H} : mj_Rn d mj_m140 320 ls st M = mj_Rn d mj_m140 321 ls (.int 1 :: st) M := mj_R0 (r := (.iconst 1, 1, 0, 0, 0)) rfl rfl
theorem s140_321 {d : Nat} {ls : mj_L} {st : List Value} {M : mj_H} : mj_Rn d mj_m140 321 ls st M = mq_k2 d mj_m140 ls M (mj_br (.if_icmp .le 21) 321 st) := mj_R2 (r := (.if_icmp .le 21, 3, 0, 0, 0)) rfl rfl
theorem s140_324 {d : Nat} {ls : mj_L} {st : List Value} {M : mj_H} : mj_Rn d mj_m140 324 ls st M = mq_k0 d mj_m140 325 ls M (mj_lda (mj_lk ls 0) st) := mj_R0 (r := (.aload_n 0, 1, 0, 0, 0)) rfl rfl
theorem s140_325 {d : Nat} {ls : mj_L} {st : List Value} {M : mj_H} : mj_Rn d mj_m140 325 ls st M = mq_k0 d mj_m140 328 ls M (mq_gf 5 3 st M) := (mj_R3 (r := (.getfield 31, 3, 5, 3, 16604)) rfl rfl).trans (congrArg (mq_k0 d mj_m140 328 ls M) mq_gf_eq)
theorem s140_328 {d : Nat} {ls : mj_L} {st : List Value} {M : mj_H} : mj_Rn d mj_m140 328 ls st M = mj_Rn d mj_m140 329 ls (.int 5 :: st) M := mj_R0 (r := (.iconst 5, 1, 0, 0, 0)) rfl rfl
theorem s140_329 {d : Nat} {ls : mj_L} {st : List Value} {M : mj_H} : mj_Rn (d + 1) mj_m140 329 ls st M = mq_k5a (d + 1) mj_m140 332 ls M 45 (mq_cb 0 1 1 st M) := mj_R5e (r := (.invokevirtual 102, 3, 0, 45, 12442)) (z := mj_m45) rfl rfl (by decide) (by decide) rfl
theorem s140_332 {d : Nat} {ls : mj_L} {st : List Value} {M : mj_H} : mj_Rn d mj_m140 332 ls st M = mq_k0 d mj_m140 333 ls M (mj_lda (mj_lk ls 0) st) := mj_R0 (r := (.aload_n 0, 1, 0, 0, 0)) rfl rfl
theorem s140_333 {d : Nat} {ls : mj_L} {st : List Value} {M : mj_H} : mj_Rn d mj_m140 333 ls st M = mq_k0 d mj_m140 336 ls M (mq_gf 5 3 st M) := (mj_R3 (r := (.getfield 31, 3, 5, 3, 16604)) rfl rfl).trans (congrArg (mq_k0 d mj_m140 336 ls M) mq_gf_eq)
theorem s140_336 {d : Nat} {ls : mj_L} {st : List Value} {M : mj_H} : mj_Rn d mj_m140 336 ls st M = mj_Rn d mj_m140 337 ls (.int 0 :: st) M := mj_R0 (r := (.iconst 0, 1, 0, 0, 0)) rfl rfl
theorem s140_337 {d : Nat} {ls : mj_L} {st : List Value} {M : mj_H} : mj_Rn d mj_m140 337 ls st M = mq_k0 d mj_m140 339 ls M (mj_ldi (mj_lk ls 6) st) := mj_R0 (r := (.iload 6, 2, 0, 0, 0)) rfl rfl
theorem s140_339 {d : Nat} {ls : mj_L} {st : List Value} {M : mj_H} : mj_Rn (d + 1) mj_m140 339 ls st M = mq_k5a (d + 1) mj_m140 342 ls M 131 (mq_cb 0 2 1 st M) := mj_R5e (r := (.invokevirtual 313, 3, 0, 131, 16540)) (z := mj_m131) rfl rfl (by decide) (by decide) rfl
theorem s140_342 {d : Nat} {ls : mj_L} {st : List Value} {M : mj_H} : mj_Rn d mj_m140 342 ls st M = mq_k6 M (mj_re none (.return_) st) := mj_R6 (r := (.return_, 1, 0, 0, 0)) rfl rfl
/- 156 PasskeyHouse$Key.signNext()I -/
theorem s156_0 {d : Nat} {ls : mj_L} {st : List Value} {M : mj_H} : mj_Rn d mj_m156 0 ls st M = mq_k0 d mj_m156 1 ls M (mj_lda (mj_lk ls 0) st) := mj_R0 (r := (.aload_n 0, 1, 0, 0, 0)) rfl rfl
theorem s156_1 {d : Nat} {ls : mj_L} {st : List Value} {M : mj_H} : mj_Rn d mj_m156 1 ls st M = mq_k0 d mj_m156 4 ls M (mq_gf 5 2 st M) := (mj_R3 (r := (.getfield 22, 3, 5, 2, 16600)) rfl rfl).trans (congrArg (mq_k0 d mj_m156 4 ls M) mq_gf_eq)
theorem s156_4 {d : Nat} {ls : mj_L} {st : List Value} {M : mj_H} : mj_Rn d mj_m156 4 ls st M = mq_k0 d mj_m156 5 ls M (mj_lda (mj_lk ls 0) st) := mj_R0 (r := (.aload_n 0, 1, 0, 0, 0)) rfl rfl
theorem s156_5 {d : Nat} {ls : mj_L} {st : List Value} {M : mj_H} : mj_Rn d mj_m156 5 ls st M = mq_k0 d mj_m156 8 ls M (mq_gf 5 12 st M) := (mj_R3 (r := (.getfield 58, 3, 5, 12, 16624)) rfl rfl).trans (congrArg (mq_k0 d mj_m156 8 ls M) mq_gf_eq)
theorem s156_8 {d : Nat} {ls : mj_L} {st : List Value} {M : mj_H} : mj_Rn d mj_m156 8 ls st M = mq_k0 d mj_m156 9 ls M (mj_lda (mj_lk ls 0) st) := mj_R0 (r := (.aload_n 0, 1, 0, 0, 0)) rfl rfl
theorem s156_9 {d : Nat} {ls : mj_L} {st : List Value} {M : mj_H} : mj_Rn d mj_m156 9 ls st M = mq_k0 d mj_m156 12 ls M (mq_gf 5 13 st M) := (mj_R3 (r := (.getfield 348, 3, 5, 13, 16626)) rfl rfl).trans (congrArg (mq_k0 d mj_m156 12 ls M) mq_gf_eq)
theorem s156_12 {d : Nat} {ls : mj_L} {st : List Value} {M : mj_H} : mj_Rn (d + 1) mj_m156 12 ls st M = mq_k5a (d + 1) mj_m156 15 ls M 137 (mq_cb 0 2 8 st M) := mj_R5e (r := (.invokevirtual 340, 3, 0, 137, 16572)) (z := mj_m137) rfl rfl (by decide) (by decide) rfl
theorem s156_15 {d : Nat} {ls : mj_L} {st : List Value} {M : mj_H} : mj_Rn d mj_m156 15 ls st M = mq_k1 d mj_m156 16 M (mj_lo 2 (.istore 1) ls st) := (mj_R1 (r := (.istore_n 1, 1, 0, 0, 0)) rfl rfl).trans (congrArg (mq_k1 d mj_m156 16 M) (mq_sti (k := 1)))
theorem s156_16 {d : Nat} {ls : mj_L} {st : List Value} {M : mj_H} : mj_Rn d mj_m156 16 ls st M = mq_k0 d mj_m156 17 ls M (mj_ldi (mj_lk ls 1) st) := mj_R0 (r := (.iload_n 1, 1, 0, 0, 0)) rfl rfl
theorem s156_17 {d : Nat} {ls : mj_L} {st : List Value} {M : mj_H} : mj_Rn d mj_m156 17 ls st M = mj_Rn d mj_m156 18 ls (.int (-1) :: st) M := mj_R0 (r := (.iconst (-1), 1, 0, 0, 0)) rfl rfl
theorem s156_18 {d : Nat} {ls : mj_L} {st : List Value} {M : mj_H} : mj_Rn d mj_m156 18 ls st M = mq_k2 d mj_m156 ls M (mj_br (.if_icmp .ne 6) 18 st) := mj_R2 (r := (.if_icmp .ne 6, 3, 0, 0, 0)) rfl rfl
theorem s156_21 {d : Nat} {ls : mj_L} {st : List Value} {M : mj_H} : mj_Rn d mj_m156 21 ls st M = mj_Rn d mj_m156 23 ls (.int 48 :: st) M := mj_R0 (r := (.bipush 48, 2, 0, 0, 0)) rfl rfl
theorem s156_23 {d : Nat} {ls : mj_L} {st : List Value} {M : mj_H} : mj_Rn d mj_m156 23 ls st M = mq_k6 M (mj_re (some .int) (.ireturn) st) := mj_R6 (r := (.ireturn, 1, 0, 0, 0)) rfl rfl
theorem s156_24 {d : Nat} {ls : mj_L} {st : List Value} {M : mj_H} : mj_Rn d mj_m156 24 ls st M = mq_k0 d mj_m156 25 ls M (mj_lda (mj_lk ls 0) st) := mj_R0 (r := (.aload_n 0, 1, 0, 0, 0)) rfl rfl
theorem s156_25 {d : Nat} {ls : mj_L} {st : List Value} {M : mj_H} : mj_Rn d mj_m156 25 ls st M = mq_k0 d mj_m156 26 ls M (mj_ldi (mj_lk ls 1) st) := mj_R0 (r := (.iload_n 1, 1, 0, 0, 0)) rfl rfl
theorem s156_26 {d : Nat} {ls : mj_L} {st : List Value} {M : mj_H} : mj_Rn d mj_m156 26 ls st M = mq_k4 d mj_m156 29 ls (mq_pf 5 12 0 st M) := (mj_R4 (r := (.putfield 58, 3, 5, 12, 16624)) rfl rfl).trans (congrArg (mq_k4 d mj_m156 29 ls) (mq_pf_eq rfl rfl))
theorem s156_29 {d : Nat} {ls : mj_L} {st : List Value} {M : mj_H} : mj_Rn d mj_m156 29 ls st M = mq_k0 d mj_m156 30 ls M (mj_lda (mj_lk ls 0) st) := mj_R0 (r := (.aload_n 0, 1, 0, 0, 0)) rfl rfl
theorem s156_30 {d : Nat} {ls : mj_L} {st : List Value} {M : mj_H} : mj_Rn d mj_m156 30 ls st M = mq_k0 d mj_m156 31 ls M (mj_ldi (mj_lk ls 1) st) := mj_R0 (r := (.iload_n 1, 1, 0, 0, 0)) rfl rfl
theorem s156_31 {d : Nat} {ls : mj_L} {st : List Value} {M : mj_H} : mj_Rn d mj_m156 31 ls st M = mj_Rn d mj_m156 32 ls (.int 0 :: st) M := mj_R0 (r := (.iconst 0, 1, 0, 0, 0)) rfl rfl
theorem s156_32 {d : Nat} {ls : mj_L} {st : List Value} {M : mj_H} : mj_Rn d mj_m156 32 ls st M = mq_k0 d mj_m156 33 ls M (mj_lda (mj_lk ls 0) st) := mj_R0 (r := (.aload_n 0, 1, 0, 0, 0)) rfl rfl
theorem s156_33 {d : Nat} {ls : mj_L} {st : List Value} {M : mj_H} : mj_Rn d mj_m156 33 ls st M = mq_k0 d mj_m156 36 ls M (mq_gf 5 13 st M) := (mj_R3 (r := (.getfield 348, 3, 5, 13, 16626)) rfl rfl).trans (congrArg (mq_k0 d mj_m156 36 ls M) mq_gf_eq)
theorem s156_36 {d : Nat} {ls : mj_L} {st : List Value} {M : mj_H} : mj_Rn d mj_m156 36 ls st M = mq_k0 d mj_m156 37 ls M (mj_lda (mj_lk ls 0) st) := mj_R0 (r := (.aload_n 0, 1, 0, 0, 0)) rfl rfl
theorem s156_37 {d : Nat} {ls : mj_L} {st : List Value} {M : mj_H} : mj_Rn d mj_m156 37 ls st M = mq_k0 d mj_m156 40 ls M (mq_gf 5 14 st M) := (mj_R3 (r := (.getfield 351, 3, 5, 14, 16628)) rfl rfl).trans (congrArg (mq_k0 d mj_m156 40 ls M) mq_gf_eq)
theorem s156_40 {d : Nat} {ls : mj_L} {st : List Value} {M : mj_H} : mj_Rn d mj_m156 40 ls st M = mq_k0 d mj_m156 41 ls M (mj_lda (mj_lk ls 0) st) := mj_R0 (r := (.aload_n 0, 1, 0, 0, 0)) rfl rfl
theorem s156_41 {d : Nat} {ls : mj_L} {st : List Value} {M : mj_H} : mj_Rn d mj_m156 41 ls st M = mq_k0 d mj_m156 44 ls M (mq_gf 5 15 st M) := (mj_R3 (r := (.getfield 354, 3, 5, 15, 16630)) rfl rfl).trans (congrArg (mq_k0 d mj_m156 44 ls M) mq_gf_eq)
theorem s156_44 {d : Nat} {ls : mj_L} {st : List Value} {M : mj_H} : mj_Rn d mj_m156 44 ls st M = mj_Rn d mj_m156 45 ls (.int 1 :: st) M := mj_R0 (r := (.iconst 1, 1, 0, 0, 0)) rfl rfl
theorem s156_45 {d : Nat} {ls : mj_L} {st : List Value} {M : mj_H} : mj_Rn (d + 1) mj_m156 45 ls st M = mq_k5a (d + 1) mj_m156 48 ls M 140 (mq_cb 0 6 5 st M) := mj_R5e (r := (.invokevirtual 360, 3, 0, 140, 16584)) (z := mj_m140) rfl rfl (by decide) (by decide) rfl
theorem s156_48 {d : Nat} {ls : mj_L} {st : List Value} {M : mj_H} : mj_Rn d mj_m156 48 ls st M = mj_Rn d mj_m156 49 ls (.int 0 :: st) M := mj_R0 (r := (.iconst 0, 1, 0, 0, 0)) rfl rfl
theorem s156_49 {d : Nat} {ls : mj_L} {st : List Value} {M : mj_H} : mj_Rn d mj_m156 49 ls st M = mq_k6 M (mj_re (some .int) (.ireturn) st) := mj_R6 (r := (.ireturn, 1, 0, 0, 0)) rfl rfl
theorem c140 {d : Nat} {a0 : Nat} {x1 : Int32} {x2 : Int32} {x3 : Int32} {x4 : Int32} {x5 : Int32} {x6 : Int32} {M : mj_H} : mj_V (d + 1) 140 [.ref a0, .int x1, .int x2, .int x3, .int x4, .int x5, .int x6] M = mj_Rn d mj_m140 0 [(0, .ref a0), (1, .int x1), (2, .int x2), (3, .int x3), (4, .int x4), (5, .int x5), (6, .int x6)] [] M := mj_V_go rfl (Nat.le_of_ble_eq_true rfl)
theorem c156 {d : Nat} {a0 : Nat} {M : mj_H} : mj_V (d + 1) 156 [.ref a0] M = mj_Rn d mj_m156 0 [(0, .ref a0)] [] M := mj_V_go rfl (Nat.le_of_ble_eq_true rfl)
/-- the answer to SIGN -/
def sgHd (many : Nat) : Int32 := if many = 0 then 163 else if many = 1 then 164 else 165
def rpTail (u : List Int32) (many : Nat) : List Int32 := (if many = 0 then [] else [4, 161, 98, 105, 100] ++ (bt_hd 2 (nI u.length) ++ u)) ++ (if many ≤ 1 then [] else 5 :: bt_hd 0 (nI many))
def rpSign (id : Int32) (data : List Int32) (sig : Int32) (u : List Int32) (many : Nat) : List Int32 := sgHd many :: ([1, 162, 98, 105, 100] ++ ((68 :: b4 id) ++ ([100, 116, 121, 112, 101, 106, 112, 117, 98, 108, 105, 99, 45, 107, 101, 121, 2, 73] ++ (data ++ (3 :: ((68 :: b4 sig) ++ rpTail u many))))))
theorem h_54 : bt_hd 5 4 = [164] := by decide
theorem h_55 : bt_hd 5 5 = [165] := by decide
theorem h_51 : bt_hd 5 1 = [161] := by decide
theorem h_41 : bt_hd 4 1 = [129] := by decide
theorem h_29 : bt_hd 2 9 = [73] := by decide
theorem h_22 : bt_hd 2 2 = [66] := by decide
theorem h_721 : bt_hd 7 21 = [245] := by decide
theorem h_720 : bt_hd 7 20 = [244] := by decide
theorem h_0400 : bt_hd 0 400 = [25, 1, 144] := by decide
theorem aa_4 : (4 : Int32) &&& 255 = 4 := by decide
theorem aa_5 : (5 : Int32) &&& 255 = 5 := by decide
theorem aa_6 : (6 : Int32) &&& 255 = 6 := by decide
/-- what is known of a record that was written -/
theorem fs_wr_st {r : List Int32} {s : Fl} (h : (fs_wr r s).2 = true) : (fs_wr r s).1.2.2.2.2.2.2.2 = fs_lrn s.2.2.2.2.2.2.2 r := by
  have hp : ∀ s : Fl, (fs_put r s).2 = true → (fs_put r s).1.2.2.2.2.2.2.2 = fs_lrn s.2.2.2.2.2.2.2 r := by
    intro s h
    unfold fs_put at h ⊢
    dsimp only at h ⊢
    split
    · next hz => rw [if_pos hz, hz] at h; cases h
    · rfl
  unfold fs_wr at h ⊢
  split
  · next h1 =>
    rw [if_pos h1] at h
    dsimp only at h ⊢
    split
    · next hz => rw [if_pos hz, hz] at h; cases h
    · next hz =>
      rw [if_neg hz] at h
      rw [hp _ h, (fs_move_st s (by cases hq : (fs_move s).2 <;> simp_all)).1]
  · next h1 => rw [if_neg h1] at h; exact hp _ h
theorem lrn_cnt (s : St) (id n : Int32) : fs_lrn s (rcCount id n) = fs_count s id n := by
  have g0 : (rcCount id n).getD 0 0 = 4 := rfl
  have g2 : w4a (rcCount id n) 2 = id := by
    have : ((rcCount id n).drop 2).take 4 = b4 id := by
      unfold rcCount rc
      simp [b4]
    rw [w4a, this, w4_b4]
  have g6 : w4a (rcCount id n) 6 = n := by
    have : ((rcCount id n).drop 6).take 4 = b4 n := by
      unfold rcCount rc
      simp [b4]
    rw [w4a, this, w4_b4]
  unfold fs_lrn
  rw [g0, if_neg (by decide), if_neg (by decide), if_neg (by decide), if_pos rfl, g2, g6]
/-- a credential's cell behind a count -/
theorem cnt_at {s : St} {id n : Int32} {j : Nat} {c : Cr} (h : s.2.2.2.2[j]? = some c) : ∃ c', (fs_count s id n).2.2.2.2[j]? = some c' ∧ c'.1 = c.1 ∧ c'.2.2.1 = c.2.2.1 ∧ c'.2.2.2.1 = c.2.2.2.1 ∧ c'.2.1 = c.2.1 := by
  unfold fs_count
  split
  · exact ⟨c, h, rfl, rfl, rfl, rfl⟩
  · refine ⟨if c.1 = id then ((c.1, (c.2.1, (c.2.2.1, (c.2.2.2.1, n)))) : Cr) else c, ?_, ?_⟩
    · simp [h]
    · split <;> exact ⟨rfl, rfl, rfl, rfl⟩
def sw_id (c : Option Cr) : Int32 := match c with
  | some c => c.1
  | none => 0
def sw_cnt (k : Ky) (c : Option Cr) : Int32 := (match c with
  | some c => c.2.2.2.2
  | none => k.1.1.1.1.2.2.2.2.2.2.2.2.2.2.1) + 1
def sw_sec (T : Tm) (id : Int32) (c : Option Cr) : Int32 := match c with
  | some c => c.2.2.1
  | none => bt_at (tm_row T.1 id) 3
def sw_oid (id : Int32) (c : Option Cr) : Int32 := match c with
  | some c => c.1
  | none => id
def sw_us (c : Option Cr) : List Int32 := match c with
  | some c => c.2.2.2.1
  | none => []
def sw_row (k : Ky) (T : Tm) (c : Option Cr) (id party hash flags : Int32) : List Int32 := 6 :: sw_sec T id c :: (dt9 party flags (sw_cnt k c) ++ b4 hash)
/-- a signature: with the credential, or with an id -/
def sw (k : Ky) (T : Tm) (c : Option Cr) (id party hash flags : Int32) (many : Nat) : Ky × Tm :=
  if (fs_wr (rcCount (sw_id c) (sw_cnt k c)) k.1.1.1.1).2 = false then (ky_w k (rcCount (sw_id c) (sw_cnt k c)), T)
  else (((((((ky_w k (rcCount (sw_id c) (sw_cnt k c))).1.1.1.1, k.1.1.1.2 ++ rpSign (sw_oid id c) (dt9 party flags (sw_cnt k c)) (nI (tm_no T (sw_row k T c id party hash flags))) (sw_us c) many), (dt9 party flags (sw_cnt k c), (ky_w k (rcCount (sw_id c) (sw_cnt k c))).1.1.2.2)), (((ky_w k (rcCount (sw_id c) (sw_cnt k c))).1.2.1.1, (ky_w k (rcCount (sw_id c) (sw_cnt k c))).1.2.1.2), ((ky_w k (rcCount (sw_id c) (sw_cnt k c))).1.2.2.1, (ky_w k (rcCount (sw_id c) (sw_cnt k c))).1.2.2.2))), ((((ky_w k (rcCount (sw_id c) (sw_cnt k c))).2.1.1.1, (ky_w k (rcCount (sw_id c) (sw_cnt k c))).2.1.1.2), ((ky_w k (rcCount (sw_id c) (sw_cnt k c))).2.1.2.1, (ky_w k (rcCount (sw_id c) (sw_cnt k c))).2.1.2.2)), (((ky_w k (rcCount (sw_id c) (sw_cnt k c))).2.2.1.1, (ky_w k (rcCount (sw_id c) (sw_cnt k c))).2.2.1.2), (ky_w k (rcCount (sw_id c) (sw_cnt k c))).2.2.2))) : Ky), tm_mk T (sw_row k T c id party hash flags))
theorem nI_le1 {m : Nat} (h : m < 100) : (nI m ≤ 1) ↔ m ≤ 1 := nl_le (n := 1) (by omega) rfl
section KZ
variable {A : Nat → Prop} {κ : Nat} {M M' : mj_H} {k : Ky} {T T' : Tm} {row row' : List Int32} {d : Nat} {ms : List Int32} {n : Nat} {S V H E N : List Int32} {i : Int32} {o : Option Nat}
theorem kz_lowX {m : Nat} (z : kz A κ M k T row) (w : Int64) (xs : List Int32) (hx : k.1.1.1.2 ++ bt_low w m = xs) (hl : xs.length ≤ 400) : ∃ M', mj_V (d + 1) 10 [.ref (κ + 16), .long w, .int (nI m)] M = some (none, M') ∧ kz A κ M' (((((k.1.1.1.1, xs), (k.1.1.2.1, k.1.1.2.2)), ((k.1.2.1.1, k.1.2.1.2), (k.1.2.2.1, k.1.2.2.2))), (((k.2.1.1.1, k.2.1.1.2), (k.2.1.2.1, k.2.1.2.2)), ((k.2.2.1.1, k.2.2.1.2), k.2.2.2))) : Ky) T row ∧ fx (kS A κ) M M' := by
  subst hx
  exact kz_low z w (by simp [bt_low_len] at hl; omega)
/-- the id is of a WRAP -/
theorem ky_sw0 (z : kz A κ M k T row) (id party hash flags : Int32) (hw : fw k.1.1.1.1) (hon : k.1.1.1.1.2.1 = true) (hf : T.1.length < 1000) (hr : k.1.1.1.2.length ≤ 1) : ∃ M' row', mj_V (d + 6) 140 [.ref κ, .int (-2), .int id, .int party, .int hash, .int flags, .int 0] M = some (none, M') ∧ kz A κ M' (sw k T none id party hash flags 0).1 (sw k T none id party hash flags 0).2 row' ∧ fx (kS A κ) M M' := by
  obtain ⟨u0, x0⟩ := z.fa
  obtain ⟨r0, hr0⟩ := z.st
  have v0 := st_standing0 (d := d + 4) (i := -2) hr0 (Or.inl (by decide))
  obtain ⟨M1, p1, z1, f1⟩ := ky_wr0 (d := d) (kk := 4) (a := 0) (b := k.1.1.1.1.2.2.2.2.2.2.2.2.2.2.1 + 1) z hw hon (Or.inr (Or.inr rfl))
  rw [show rcn 4 0 (k.1.1.1.1.2.2.2.2.2.2.2.2.2.2.1 + 1) = rcCount 0 (k.1.1.1.1.2.2.2.2.2.2.2.2.2.2.1 + 1) from rfl] at p1 z1
  obtain ⟨u1, x1⟩ := z1.fa
  unfold sw
  rw [show sw_id none = 0 from rfl, show sw_cnt k none = k.1.1.1.1.2.2.2.2.2.2.2.2.2.2.1 + 1 from rfl]
  cases hwr : (fs_wr (rcCount 0 (k.1.1.1.1.2.2.2.2.2.2.2.2.2.2.1 + 1)) k.1.1.1.1).2 with
  | false =>
    rw [hwr] at p1
    refine ⟨M1, _, ?_, by simpa using z1, f1⟩
    simp (disch := (first | omega | decide)) [c140, s140_0, s140_1, s140_4, s140_5, s140_8, s140_10, s140_12, s140_15, s140_16, s140_19, s140_22, s140_25, s140_27, s140_30, s140_31, s140_32, s140_34, s140_35, s140_38, s140_39, s140_41, s140_44, s140_45, s140_48, s140_50, s140_53, s140_55, s140_56, s140_59, s140_62, s140_63, s140_64, s140_65, s140_67, s140_69, s140_72, s140_73, s140_76, s140_77, s140_79, s140_82, s140_83, s140_86, s140_88, s140_89, s140_92, s140_93, s140_96, s140_97, s140_100, s140_101, s140_104, s140_105, s140_108, s140_109, s140_112, s140_113, s140_114, s140_117, s140_118, s140_121, s140_123, s140_126, s140_127, s140_130, s140_132, s140_135, s140_136, s140_139, s140_141, s140_144, s140_147, s140_148, s140_151, s140_154, s140_157, s140_158, s140_161, s140_164, s140_167, s140_168, s140_171, s140_172, s140_175, s140_176, s140_179, s140_180, s140_181, s140_184, s140_187, s140_190, s140_191, s140_194, s140_195, s140_198, s140_199, s140_200, s140_203, s140_206, s140_209, s140_210, s140_213, s140_214, s140_217, s140_218, s140_221, s140_222, s140_224, s140_227, s140_228, s140_231, s140_232, s140_233, s140_236, s140_239, s140_241, s140_244, s140_246, s140_249, s140_252, s140_254, s140_257, s140_259, s140_262, s140_263, s140_266, s140_267, s140_270, s140_271, s140_274, s140_275, s140_276, s140_279, s140_280, s140_283, s140_285, s140_288, s140_289, s140_292, s140_293, s140_295, s140_298, s140_301, s140_302, s140_305, s140_307, s140_310, s140_312, s140_315, s140_318, s140_320, s140_321, s140_324, s140_325, s140_328, s140_329, s140_332, s140_333, s140_336, s140_337, s140_339, s140_342, mq_k0s, mq_k1s, mq_k2s, mq_k4s, mq_k5s, mq_k5n, mq_k5as, mq_k6s, mj_pu, mj_lo, mj_br, mj_hr, mj_hw, mq_gf, mq_len, mq_al, mq_pf, mq_ok, mj_re, mq_lkm, mq_lkn, mj_ldi, mj_ldl, mj_lda, mj_ii, mj_ll, mj_li, mj_i1, ms_1, ms_2, f1_n, f1_i, f1_r, f1_u, f1_l, f2_n, f2_i, f2_r, f2_u, f2_l, mj_tg, mj_c1, mj_c2, mj_ar, mj_aw, mq_cb, mq_oi, mj_rm, Value.category, -getElem?_pos, List.getElem?_cons_zero, decide_eq_true, decide_eq_false, nl_lt, nl_le, ln_lt, ln_le, nl_eq, ln_eq, nl_add, ln_add, nl_sub, ln_mul, nI_sub, nI_mul, nI_add, nI_lt_iff, nI_le_iff, nI_inj, nI_num, mq_ix, nI_1, nl_mul, nl_div, x0, v0, p1, x1, on1]
  | true =>
    rw [hwr] at p1
    rw [if_neg (by simp)]
    obtain ⟨M2, p2, z2, f2⟩ := ky_data (d := d + 3) z1 party flags (k.1.1.1.1.2.2.2.2.2.2.2.2.2.2.1 + 1)
    (try dsimp only at z2)
    obtain ⟨u2, x2⟩ := z2.fa
    have hdl := dt9_len party flags (k.1.1.1.1.2.2.2.2.2.2.2.2.2.2.1 + 1)
    have hrow : 6 :: bt_at (tm_row T.1 id) 3 :: (dt9 party flags (k.1.1.1.1.2.2.2.2.2.2.2.2.2.2.1 + 1) ++ b4 hash) = sw_row k T none id party hash flags := rfl
    generalize hsg : nI (tm_no T (sw_row k T none id party hash flags)) = sg
    rw [show (ky_w k (rcCount 0 (k.1.1.1.1.2.2.2.2.2.2.2.2.2.2.1 + 1))).1.1.1.2 = k.1.1.1.2 from rfl] at x2
    have hR : (ky_w k (rcCount 0 (k.1.1.1.1.2.2.2.2.2.2.2.2.2.2.1 + 1))).1.1.1.2 = k.1.1.1.2 := rfl
    have z2' : kz A κ M2 ((((((ky_w k (rcCount 0 (k.1.1.1.1.2.2.2.2.2.2.2.2.2.2.1 + 1))).1.1.1.1, k.1.1.1.2), (dt9 party flags (k.1.1.1.1.2.2.2.2.2.2.2.2.2.2.1 + 1), (ky_w k (rcCount 0 (k.1.1.1.1.2.2.2.2.2.2.2.2.2.2.1 + 1))).1.1.2.2)), (((ky_w k (rcCount 0 (k.1.1.1.1.2.2.2.2.2.2.2.2.2.2.1 + 1))).1.2.1.1, (ky_w k (rcCount 0 (k.1.1.1.1.2.2.2.2.2.2.2.2.2.2.1 + 1))).1.2.1.2), ((ky_w k (rcCount 0 (k.1.1.1.1.2.2.2.2.2.2.2.2.2.2.1 + 1))).1.2.2.1, (ky_w k (rcCount 0 (k.1.1.1.1.2.2.2.2.2.2.2.2.2.2.1 + 1))).1.2.2.2))), ((((ky_w k (rcCount 0 (k.1.1.1.1.2.2.2.2.2.2.2.2.2.2.1 + 1))).2.1.1.1, (ky_w k (rcCount 0 (k.1.1.1.1.2.2.2.2.2.2.2.2.2.2.1 + 1))).2.1.1.2), ((ky_w k (rcCount 0 (k.1.1.1.1.2.2.2.2.2.2.2.2.2.2.1 + 1))).2.1.2.1, (ky_w k (rcCount 0 (k.1.1.1.1.2.2.2.2.2.2.2.2.2.2.1 + 1))).2.1.2.2)), (((ky_w k (rcCount 0 (k.1.1.1.1.2.2.2.2.2.2.2.2.2.2.1 + 1))).2.2.1.1, (ky_w k (rcCount 0 (k.1.1.1.1.2.2.2.2.2.2.2.2.2.2.1 + 1))).2.2.1.2), (ky_w k (rcCount 0 (k.1.1.1.1.2.2.2.2.2.2.2.2.2.2.1 + 1))).2.2.2))) : Ky) T row := z2
    clear z2
    have z2 := z2'
    generalize hD : dt9 party flags (k.1.1.1.1.2.2.2.2.2.2.2.2.2.2.1 + 1) = D at *
    generalize k.1.1.1.2 = R at *
    obtain ⟨M3, p3, z3, f3⟩ := kz_headX (d := d + 3) z2 5 3 (R ++ [163]) (by simp only [List.append_assoc, List.cons_append, List.nil_append, List.append_nil, h_53, h_54, h_55, h_52, h_51, h_41, h_217, h_29, h_22, h_16, h_721, h_720, h_0400, aa_1, aa_2, aa_3, aa_4, aa_5, aa_6, tx_0, tx_1, tx_2, tx_3, tx_5, tx_6, tx_7, tx_8, tx_9, tx_10]) (by simp [b4_len, hdl]; omega)
    (try dsimp only at z3)
    obtain ⟨u3, x3⟩ := z3.fa
    obtain ⟨M4, p4, z4, f4⟩ := kz_pushX (d := d + 4) z3 1 ((R ++ [163]) ++ [1]) (by simp only [List.append_assoc, List.cons_append, List.nil_append, List.append_nil, h_53, h_54, h_55, h_52, h_51, h_41, h_217, h_29, h_22, h_16, h_721, h_720, h_0400, aa_1, aa_2, aa_3, aa_4, aa_5, aa_6, tx_0, tx_1, tx_2, tx_3, tx_5, tx_6, tx_7, tx_8, tx_9, tx_10]) (by simp [b4_len, hdl]; omega)
    (try dsimp only at z4)
    obtain ⟨u4, x4⟩ := z4.fa
    obtain ⟨M5, p5, z5, f5⟩ := kz_headX (d := d + 3) z4 5 2 (((R ++ [163]) ++ [1]) ++ [162]) (by simp only [List.append_assoc, List.cons_append, List.nil_append, List.append_nil, h_53, h_54, h_55, h_52, h_51, h_41, h_217, h_29, h_22, h_16, h_721, h_720, h_0400, aa_1, aa_2, aa_3, aa_4, aa_5, aa_6, tx_0, tx_1, tx_2, tx_3, tx_5, tx_6, tx_7, tx_8, tx_9, tx_10]) (by simp [b4_len, hdl]; omega)
    (try dsimp only at z5)
    obtain ⟨u5, x5⟩ := z5.fa
    obtain ⟨M6, p6, z6, f6⟩ := kz_textX (d := d) (j := 0) (a := 3) z5 (by omega) ((((R ++ [163]) ++ [1]) ++ [162]) ++ [98,  105,  100]) rfl (by simp only [List.append_assoc, List.cons_append, List.nil_append, List.append_nil, h_53, h_54, h_55, h_52, h_51, h_41, h_217, h_29, h_22, h_16, h_721, h_720, h_0400, aa_1, aa_2, aa_3, aa_4, aa_5, aa_6, tx_0, tx_1, tx_2, tx_3, tx_5, tx_6, tx_7, tx_8, tx_9, tx_10]) (by simp [b4_len, hdl]; omega)
    (try dsimp only at z6)
    obtain ⟨u6, x6⟩ := z6.fa
    obtain ⟨M7, p7, z7, f7⟩ := kz_termX (d := d + 2) z6 id (((((R ++ [163]) ++ [1]) ++ [162]) ++ [98,  105,  100]) ++ (68 :: b4 id)) rfl (by simp [b4_len, hdl]; omega)
    (try dsimp only at z7)
    obtain ⟨u7, x7⟩ := z7.fa
    obtain ⟨M8, p8, z8, f8⟩ := kz_textX (d := d) (j := 2) (a := 7) z7 (by omega) ((((((R ++ [163]) ++ [1]) ++ [162]) ++ [98,  105,  100]) ++ (68 :: b4 id)) ++ [100,  116,  121,  112,  101]) rfl (by simp only [List.append_assoc, List.cons_append, List.nil_append, List.append_nil, h_53, h_54, h_55, h_52, h_51, h_41, h_217, h_29, h_22, h_16, h_721, h_720, h_0400, aa_1, aa_2, aa_3, aa_4, aa_5, aa_6, tx_0, tx_1, tx_2, tx_3, tx_5, tx_6, tx_7, tx_8, tx_9, tx_10]) (by simp [b4_len, hdl]; omega)
    (try dsimp only at z8)
    obtain ⟨u8, x8⟩ := z8.fa
    obtain ⟨M9, p9, z9, f9⟩ := kz_textX (d := d) (j := 5) (a := 13) z8 (by omega) (((((((R ++ [163]) ++ [1]) ++ [162]) ++ [98,  105,  100]) ++ (68 :: b4 id)) ++ [100,  116,  121,  112,  101]) ++ [106,  112,  117,  98,  108,  105,  99,  45,  107,  101,  121]) rfl (by simp only [List.append_assoc, List.cons_append, List.nil_append, List.append_nil, h_53, h_54, h_55, h_52, h_51, h_41, h_217, h_29, h_22, h_16, h_721, h_720, h_0400, aa_1, aa_2, aa_3, aa_4, aa_5, aa_6, tx_0, tx_1, tx_2, tx_3, tx_5, tx_6, tx_7, tx_8, tx_9, tx_10]) (by simp [b4_len, hdl]; omega)
    (try dsimp only at z9)
    obtain ⟨u9, x9⟩ := z9.fa
    obtain ⟨M10, p10, z10, f10⟩ := kz_pushX (d := d + 4) z9 2 ((((((((R ++ [163]) ++ [1]) ++ [162]) ++ [98,  105,  100]) ++ (68 :: b4 id)) ++ [100,  116,  121,  112,  101]) ++ [106,  112,  117,  98,  108,  105,  99,  45,  107,  101,  121]) ++ [2]) (by simp only [List.append_assoc, List.cons_append, List.nil_append, List.append_nil, h_53, h_54, h_55, h_52, h_51, h_41, h_217, h_29, h_22, h_16, h_721, h_720, h_0400, aa_1, aa_2, aa_3, aa_4, aa_5, aa_6, tx_0, tx_1, tx_2, tx_3, tx_5, tx_6, tx_7, tx_8, tx_9, tx_10]) (by simp [b4_len, hdl]; omega)
    (try dsimp only at z10)
    obtain ⟨u10, x10⟩ := z10.fa
    have v10 := v_size (d := d + 4) z10.da
    obtain ⟨M11, p11, z11, f11⟩ := kz_headX (d := d + 3) z10 2 9 (((((((((R ++ [163]) ++ [1]) ++ [162]) ++ [98,  105,  100]) ++ (68 :: b4 id)) ++ [100,  116,  121,  112,  101]) ++ [106,  112,  117,  98,  108,  105,  99,  45,  107,  101,  121]) ++ [2]) ++ [73]) (by simp only [List.append_assoc, List.cons_append, List.nil_append, List.append_nil, h_53, h_54, h_55, h_52, h_51, h_41, h_217, h_29, h_22, h_16, h_721, h_720, h_0400, aa_1, aa_2, aa_3, aa_4, aa_5, aa_6, tx_0, tx_1, tx_2, tx_3, tx_5, tx_6, tx_7, tx_8, tx_9, tx_10]) (by simp [b4_len, hdl]; omega)
    (try dsimp only at z11)
    obtain ⟨u11, x11⟩ := z11.fa
    have v11 := v_size (d := d + 4) z11.da
    obtain ⟨M12, p12, z12, f12⟩ := kz_partX (d := d + 3) (m := 9) z11 ((((((((((R ++ [163]) ++ [1]) ++ [162]) ++ [98,  105,  100]) ++ (68 :: b4 id)) ++ [100,  116,  121,  112,  101]) ++ [106,  112,  117,  98,  108,  105,  99,  45,  107,  101,  121]) ++ [2]) ++ [73]) ++ D) hdl rfl (by simp [b4_len, hdl]; omega)
    (try dsimp only at z12)
    obtain ⟨u12, x12⟩ := z12.fa
    obtain ⟨M13, p13, z13, f13⟩ := kz_pushX (d := d + 4) z12 3 (((((((((((R ++ [163]) ++ [1]) ++ [162]) ++ [98,  105,  100]) ++ (68 :: b4 id)) ++ [100,  116,  121,  112,  101]) ++ [106,  112,  117,  98,  108,  105,  99,  45,  107,  101,  121]) ++ [2]) ++ [73]) ++ D) ++ [3]) (by simp only [List.append_assoc, List.cons_append, List.nil_append, List.append_nil, h_53, h_54, h_55, h_52, h_51, h_41, h_217, h_29, h_22, h_16, h_721, h_720, h_0400, aa_1, aa_2, aa_3, aa_4, aa_5, aa_6, tx_0, tx_1, tx_2, tx_3, tx_5, tx_6, tx_7, tx_8, tx_9, tx_10]) (by simp [b4_len, hdl]; omega)
    (try dsimp only at z13)
    obtain ⟨u13, x13⟩ := z13.fa
    have w13 := tx_part (d := d + 3) z13.t id 3
    obtain ⟨M14, p14, z14, f14⟩ := ky_sig (d := d) z13 (bt_at (tm_row T.1 id) 3) hash hf
    (try dsimp only at z14)
    obtain ⟨u14, x14⟩ := z14.fa
    rw [hrow, hsg] at p14
    rw [hrow] at z14
    obtain ⟨M15, p15, z15, f15⟩ := kz_termX (d := d + 2) z14 sg ((R ++ [163] ++ [1] ++ [162] ++ [98, 105, 100] ++ (68 :: b4 id) ++ [100, 116, 121, 112, 101] ++ [106, 112, 117, 98, 108, 105, 99, 45, 107, 101, 121] ++ [2] ++ [73] ++ D ++ [3]) ++ (68 :: b4 sg)) rfl (by simp [b4_len, hdl]; omega)
    (try dsimp only at z15)
    obtain ⟨u15, x15⟩ := z15.fa
    refine ⟨M15, sw_row k T none id party hash flags, ?_, ?_, (((((((((((((((f1).trs f2).trs f3).trs f4).trs f5).trs f6).trs f7).trs f8).trs f9).trs f10).trs f11).trs f12).trs f13).trs f14).trs f15)⟩
    · dsimp only at v10 v11
      rw [hdl] at v10 v11
      rw [show nI 9 = 9 from rfl] at v10 v11 p12
      simp (disch := (first | omega | decide)) [c140, s140_0, s140_1, s140_4, s140_5, s140_8, s140_10, s140_12, s140_15, s140_16, s140_19, s140_22, s140_25, s140_27, s140_30, s140_31, s140_32, s140_34, s140_35, s140_38, s140_39, s140_41, s140_44, s140_45, s140_48, s140_50, s140_53, s140_55, s140_56, s140_59, s140_62, s140_63, s140_64, s140_65, s140_67, s140_69, s140_72, s140_73, s140_76, s140_77, s140_79, s140_82, s140_83, s140_86, s140_88, s140_89, s140_92, s140_93, s140_96, s140_97, s140_100, s140_101, s140_104, s140_105, s140_108, s140_109, s140_112, s140_113, s140_114, s140_117, s140_118, s140_121, s140_123, s140_126, s140_127, s140_130, s140_132, s140_135, s140_136, s140_139, s140_141, s140_144, s140_147, s140_148, s140_151, s140_154, s140_157, s140_158, s140_161, s140_164, s140_167, s140_168, s140_171, s140_172, s140_175, s140_176, s140_179, s140_180, s140_181, s140_184, s140_187, s140_190, s140_191, s140_194, s140_195, s140_198, s140_199, s140_200, s140_203, s140_206, s140_209, s140_210, s140_213, s140_214, s140_217, s140_218, s140_221, s140_222, s140_224, s140_227, s140_228, s140_231, s140_232, s140_233, s140_236, s140_239, s140_241, s140_244, s140_246, s140_249, s140_252, s140_254, s140_257, s140_259, s140_262, s140_263, s140_266, s140_267, s140_270, s140_271, s140_274, s140_275, s140_276, s140_279, s140_280, s140_283, s140_285, s140_288, s140_289, s140_292, s140_293, s140_295, s140_298, s140_301, s140_302, s140_305, s140_307, s140_310, s140_312, s140_315, s140_318, s140_320, s140_321, s140_324, s140_325, s140_328, s140_329, s140_332, s140_333, s140_336, s140_337, s140_339, s140_342, mq_k0s, mq_k1s, mq_k2s, mq_k4s, mq_k5s, mq_k5n, mq_k5as, mq_k6s, mj_pu, mj_lo, mj_br, mj_hr, mj_hw, mq_gf, mq_len, mq_al, mq_pf, mq_ok, mj_re, mq_lkm, mq_lkn, mj_ldi, mj_ldl, mj_lda, mj_ii, mj_ll, mj_li, mj_i1, ms_1, ms_2, f1_n, f1_i, f1_r, f1_u, f1_l, f2_n, f2_i, f2_r, f2_u, f2_l, mj_tg, mj_c1, mj_c2, mj_ar, mj_aw, mq_cb, mq_oi, mj_rm, Value.category, -getElem?_pos, List.getElem?_cons_zero, decide_eq_true, decide_eq_false, nl_lt, nl_le, ln_lt, ln_le, nl_eq, ln_eq, nl_add, ln_add, nl_sub, ln_mul, nI_sub, nI_mul, nI_add, nI_lt_iff, nI_le_iff, nI_inj, nI_num, mq_ix, nI_1, nl_mul, nl_div, x0, v0, p1, x1, on1, p2, x2, p3, x3, p4, x4, p5, x5, p6, x6, p7, x7, p8, x8, p9, x9, p10, x10, v10, p11, x11, v11, p12, x12, p13, x13, w13, p14, x14, p15]
    · have e : R ++ [163] ++ [1] ++ [162] ++ [98, 105, 100] ++ (68 :: b4 id) ++ [100, 116, 121, 112, 101] ++ [106, 112, 117, 98, 108, 105, 99, 45, 107, 101, 121] ++ [2] ++ [73] ++ D ++ [3] ++ (68 :: b4 sg) = R ++ rpSign (sw_oid id none) D sg (sw_us none) 0 := by
        simp [rpSign, sgHd, rpTail, sw_oid]
      rw [e] at z15
      exact z15
theorem kz.cre (z : kz A κ M k T row) {j : Nat} {c : Cr} (h : k.1.1.1.1.2.2.2.2.2.2.2.2.2.2.2[j]? = some c) : M[κ + 7 + j]? = some (2, [.int c.1, .int c.2.1, .int c.2.2.1, .long (bt_lo c.2.2.2.1), .int (nI c.2.2.2.1.length), .int c.2.2.2.2]) := by
  obtain ⟨r, hr⟩ := z.st
  exact hr.cr j c h
def sgN (many : Nat) : Int32 := if many = 0 then 3 else if many = 1 then 4 else 5
theorem h_5m (many : Nat) : bt_hd 5 (sgN many) = [sgHd many] := by
  unfold sgN sgHd
  split
  · exact h_53
  · split
    · exact h_54
    · exact h_55
/-- with the credential at a place -/
theorem ky_sw1 (z : kz A κ M k T row) {j : Nat} {c : Cr} (hj : k.1.1.1.1.2.2.2.2.2.2.2.2.2.2.2[j]? = some c) (id party hash flags : Int32) (many : Nat) (hm : many < 100) (hw : fw k.1.1.1.1) (hon : k.1.1.1.1.2.1 = true) (hf : T.1.length < 1000) (hr : k.1.1.1.2.length ≤ 1) : ∃ M' row', mj_V (d + 6) 140 [.ref κ, .int (nI j), .int id, .int party, .int hash, .int flags, .int (nI many)] M = some (none, M') ∧ kz A κ M' (sw k T (some c) id party hash flags many).1 (sw k T (some c) id party hash flags many).2 row' ∧ fx (kS A κ) M M' := by
  obtain ⟨u0, x0⟩ := z.fa
  obtain ⟨r0, hr0⟩ := z.st
  have hjl : j < k.1.1.1.1.2.2.2.2.2.2.2.2.2.2.2.length := (List.getElem?_eq_some_iff.mp hj).1
  have hul : c.2.2.2.1.length ≤ 8 ∧ ∀ v ∈ c.2.2.2.1, v &&& 255 = v := hw.u c (List.mem_of_getElem? hj)
  have v0 := st_standing (d := d + 4) hr0 hjl
  have y0 := z.cre hj
  obtain ⟨M1, p1, z1, f1⟩ := ky_wr0 (d := d) (kk := 4) (a := c.1) (b := c.2.2.2.2 + 1) z hw hon (Or.inr (Or.inr rfl))
  rw [show rcn 4 c.1 (c.2.2.2.2 + 1) = rcCount c.1 (c.2.2.2.2 + 1) from rfl] at p1 z1
  obtain ⟨u1, x1⟩ := z1.fa
  unfold sw
  rw [show sw_id (some c) = c.1 from rfl, show sw_cnt k (some c) = c.2.2.2.2 + 1 from rfl]
  cases hwr : (fs_wr (rcCount c.1 (c.2.2.2.2 + 1)) k.1.1.1.1).2 with
  | false =>
    rw [hwr] at p1
    refine ⟨M1, _, ?_, by simpa using z1, f1⟩
    simp (disch := (first | omega | decide)) [c140, s140_0, s140_1, s140_4, s140_5, s140_8, s140_10, s140_12, s140_15, s140_16, s140_19, s140_22, s140_25, s140_27, s140_30, s140_31, s140_32, s140_34, s140_35, s140_38, s140_39, s140_41, s140_44, s140_45, s140_48, s140_50, s140_53, s140_55, s140_56, s140_59, s140_62, s140_63, s140_64, s140_65, s140_67, s140_69, s140_72, s140_73, s140_76, s140_77, s140_79, s140_82, s140_83, s140_86, s140_88, s140_89, s140_92, s140_93, s140_96, s140_97, s140_100, s140_101, s140_104, s140_105, s140_108, s140_109, s140_112, s140_113, s140_114, s140_117, s140_118, s140_121, s140_123, s140_126, s140_127, s140_130, s140_132, s140_135, s140_136, s140_139, s140_141, s140_144, s140_147, s140_148, s140_151, s140_154, s140_157, s140_158, s140_161, s140_164, s140_167, s140_168, s140_171, s140_172, s140_175, s140_176, s140_179, s140_180, s140_181, s140_184, s140_187, s140_190, s140_191, s140_194, s140_195, s140_198, s140_199, s140_200, s140_203, s140_206, s140_209, s140_210, s140_213, s140_214, s140_217, s140_218, s140_221, s140_222, s140_224, s140_227, s140_228, s140_231, s140_232, s140_233, s140_236, s140_239, s140_241, s140_244, s140_246, s140_249, s140_252, s140_254, s140_257, s140_259, s140_262, s140_263, s140_266, s140_267, s140_270, s140_271, s140_274, s140_275, s140_276, s140_279, s140_280, s140_283, s140_285, s140_288, s140_289, s140_292, s140_293, s140_295, s140_298, s140_301, s140_302, s140_305, s140_307, s140_310, s140_312, s140_315, s140_318, s140_320, s140_321, s140_324, s140_325, s140_328, s140_329, s140_332, s140_333, s140_336, s140_337, s140_339, s140_342, mq_k0s, mq_k1s, mq_k2s, mq_k4s, mq_k5s, mq_k5n, mq_k5as, mq_k6s, mj_pu, mj_lo, mj_br, mj_hr, mj_hw, mq_gf, mq_len, mq_al, mq_pf, mq_ok, mj_re, mq_lkm, mq_lkn, mj_ldi, mj_ldl, mj_lda, mj_ii, mj_ll, mj_li, mj_i1, ms_1, ms_2, f1_n, f1_i, f1_r, f1_u, f1_l, f2_n, f2_i, f2_r, f2_u, f2_l, mj_tg, mj_c1, mj_c2, mj_ar, mj_aw, mq_cb, mq_oi, mj_rm, Value.category, -getElem?_pos, List.getElem?_cons_zero, decide_eq_true, decide_eq_false, nl_lt, nl_le, ln_lt, ln_le, nl_eq, ln_eq, nl_add, ln_add, nl_sub, ln_mul, nI_sub, nI_mul, nI_add, nI_lt_iff, nI_le_iff, nI_inj, nI_num, mq_ix, nI_1, nl_mul, nl_div, x0, v0, y0, p1, x1, on1]
  | true =>
    rw [hwr] at p1
    rw [if_neg (by simp)]
    obtain ⟨c', hc', e1, e2, e3, -⟩ : ∃ c', (fs_wr (rcCount c.1 (c.2.2.2.2 + 1)) k.1.1.1.1).1.2.2.2.2.2.2.2.2.2.2.2[j]? = some c' ∧ c'.1 = c.1 ∧ c'.2.2.1 = c.2.2.1 ∧ c'.2.2.2.1 = c.2.2.2.1 ∧ c'.2.1 = c.2.1 := by
      rw [fs_wr_st hwr, lrn_cnt]; exact cnt_at hj
    obtain ⟨M2, p2, z2, f2⟩ := ky_data (d := d + 3) z1 party flags (c.2.2.2.2 + 1)
    (try dsimp only at z2)
    obtain ⟨u2, x2⟩ := z2.fa
    have hdl := dt9_len party flags (c.2.2.2.2 + 1)
    have hrow : 6 :: c.2.2.1 :: (dt9 party flags (c.2.2.2.2 + 1) ++ b4 hash) = sw_row k T (some c) id party hash flags := rfl
    generalize hsg : nI (tm_no T (sw_row k T (some c) id party hash flags)) = sg
    have z2' : kz A κ M2 ((((((ky_w k (rcCount c.1 (c.2.2.2.2 + 1))).1.1.1.1, k.1.1.1.2), (dt9 party flags (c.2.2.2.2 + 1), (ky_w k (rcCount c.1 (c.2.2.2.2 + 1))).1.1.2.2)), (((ky_w k (rcCount c.1 (c.2.2.2.2 + 1))).1.2.1.1, (ky_w k (rcCount c.1 (c.2.2.2.2 + 1))).1.2.1.2), ((ky_w k (rcCount c.1 (c.2.2.2.2 + 1))).1.2.2.1, (ky_w k (rcCount c.1 (c.2.2.2.2 + 1))).1.2.2.2))), ((((ky_w k (rcCount c.1 (c.2.2.2.2 + 1))).2.1.1.1, (ky_w k (rcCount c.1 (c.2.2.2.2 + 1))).2.1.1.2), ((ky_w k (rcCount c.1 (c.2.2.2.2 + 1))).2.1.2.1, (ky_w k (rcCount c.1 (c.2.2.2.2 + 1))).2.1.2.2)), (((ky_w k (rcCount c.1 (c.2.2.2.2 + 1))).2.2.1.1, (ky_w k (rcCount c.1 (c.2.2.2.2 + 1))).2.2.1.2), (ky_w k (rcCount c.1 (c.2.2.2.2 + 1))).2.2.2))) : Ky) T row := z2
    rw [show (ky_w k (rcCount c.1 (c.2.2.2.2 + 1))).1.1.1.2 = k.1.1.1.2 from rfl] at x2
    clear z2
    have z2 := z2'
    generalize hD : dt9 party flags (c.2.2.2.2 + 1) = D at *
    generalize k.1.1.1.2 = R at *
    generalize hid : c.1 = cid at *
    generalize hU : c.2.2.2.1 = U at *
    have hbl := bt_hd_len 2 (nI U.length)
    have hbm := bt_hd_len 0 (nI many)
    have hul1 := hul.1
    obtain ⟨M3, p3, z3, f3⟩ := kz_headX (d := d + 3) z2 5 (sgN many) (R ++ [sgHd many]) (by rw [h_5m]) (by simp; omega)
    (try dsimp only at z3)
    obtain ⟨u3, x3⟩ := z3.fa
    obtain ⟨M4, p4, z4, f4⟩ := kz_pushX (d := d + 4) z3 1 ((R ++ [sgHd many]) ++ [1]) (by simp only [List.append_assoc, List.cons_append, List.nil_append, List.append_nil, h_53, h_54, h_55, h_52, h_51, h_41, h_217, h_29, h_22, h_16, h_721, h_720, h_0400, aa_1, aa_2, aa_3, aa_4, aa_5, aa_6, tx_0, tx_1, tx_2, tx_3, tx_5, tx_6, tx_7, tx_8, tx_9, tx_10]) (by simp [b4_len, hdl]; omega)
    (try dsimp only at z4)
    obtain ⟨u4, x4⟩ := z4.fa
    obtain ⟨M5, p5, z5, f5⟩ := kz_headX (d := d + 3) z4 5 2 (((R ++ [sgHd many]) ++ [1]) ++ [162]) (by simp only [List.append_assoc, List.cons_append, List.nil_append, List.append_nil, h_53, h_54, h_55, h_52, h_51, h_41, h_217, h_29, h_22, h_16, h_721, h_720, h_0400, aa_1, aa_2, aa_3, aa_4, aa_5, aa_6, tx_0, tx_1, tx_2, tx_3, tx_5, tx_6, tx_7, tx_8, tx_9, tx_10]) (by simp [b4_len, hdl]; omega)
    (try dsimp only at z5)
    obtain ⟨u5, x5⟩ := z5.fa
    obtain ⟨M6, p6, z6, f6⟩ := kz_textX (d := d) (j := 0) (a := 3) z5 (by omega) ((((R ++ [sgHd many]) ++ [1]) ++ [162]) ++ [98,  105,  100]) rfl (by simp only [List.append_assoc, List.cons_append, List.nil_append, List.append_nil, h_53, h_54, h_55, h_52, h_51, h_41, h_217, h_29, h_22, h_16, h_721, h_720, h_0400, aa_1, aa_2, aa_3, aa_4, aa_5, aa_6, tx_0, tx_1, tx_2, tx_3, tx_5, tx_6, tx_7, tx_8, tx_9, tx_10]) (by simp [b4_len, hdl]; omega)
    (try dsimp only at z6)
    obtain ⟨u6, x6⟩ := z6.fa
    obtain ⟨M7, p7, z7, f7⟩ := kz_termX (d := d + 2) z6 cid (((((R ++ [sgHd many]) ++ [1]) ++ [162]) ++ [98,  105,  100]) ++ (68 :: b4 cid)) rfl (by simp [b4_len, hdl]; omega)
    (try dsimp only at z7)
    obtain ⟨u7, x7⟩ := z7.fa
    obtain ⟨M8, p8, z8, f8⟩ := kz_textX (d := d) (j := 2) (a := 7) z7 (by omega) ((((((R ++ [sgHd many]) ++ [1]) ++ [162]) ++ [98,  105,  100]) ++ (68 :: b4 cid)) ++ [100,  116,  121,  112,  101]) rfl (by simp only [List.append_assoc, List.cons_append, List.nil_append, List.append_nil, h_53, h_54, h_55, h_52, h_51, h_41, h_217, h_29, h_22, h_16, h_721, h_720, h_0400, aa_1, aa_2, aa_3, aa_4, aa_5, aa_6, tx_0, tx_1, tx_2, tx_3, tx_5, tx_6, tx_7, tx_8, tx_9, tx_10]) (by simp [b4_len, hdl]; omega)
    (try dsimp only at z8)
    obtain ⟨u8, x8⟩ := z8.fa
    obtain ⟨M9, p9, z9, f9⟩ := kz_textX (d := d) (j := 5) (a := 13) z8 (by omega) (((((((R ++ [sgHd many]) ++ [1]) ++ [162]) ++ [98,  105,  100]) ++ (68 :: b4 cid)) ++ [100,  116,  121,  112,  101]) ++ [106,  112,  117,  98,  108,  105,  99,  45,  107,  101,  121]) rfl (by simp only [List.append_assoc, List.cons_append, List.nil_append, List.append_nil, h_53, h_54, h_55, h_52, h_51, h_41, h_217, h_29, h_22, h_16, h_721, h_720, h_0400, aa_1, aa_2, aa_3, aa_4, aa_5, aa_6, tx_0, tx_1, tx_2, tx_3, tx_5, tx_6, tx_7, tx_8, tx_9, tx_10]) (by simp [b4_len, hdl]; omega)
    (try dsimp only at z9)
    obtain ⟨u9, x9⟩ := z9.fa
    obtain ⟨M10, p10, z10, f10⟩ := kz_pushX (d := d + 4) z9 2 ((((((((R ++ [sgHd many]) ++ [1]) ++ [162]) ++ [98,  105,  100]) ++ (68 :: b4 cid)) ++ [100,  116,  121,  112,  101]) ++ [106,  112,  117,  98,  108,  105,  99,  45,  107,  101,  121]) ++ [2]) (by simp only [List.append_assoc, List.cons_append, List.nil_append, List.append_nil, h_53, h_54, h_55, h_52, h_51, h_41, h_217, h_29, h_22, h_16, h_721, h_720, h_0400, aa_1, aa_2, aa_3, aa_4, aa_5, aa_6, tx_0, tx_1, tx_2, tx_3, tx_5, tx_6, tx_7, tx_8, tx_9, tx_10]) (by simp [b4_len, hdl]; omega)
    (try dsimp only at z10)
    obtain ⟨u10, x10⟩ := z10.fa
    have v10 := v_size (d := d + 4) z10.da
    obtain ⟨M11, p11, z11, f11⟩ := kz_headX (d := d + 3) z10 2 9 (((((((((R ++ [sgHd many]) ++ [1]) ++ [162]) ++ [98,  105,  100]) ++ (68 :: b4 cid)) ++ [100,  116,  121,  112,  101]) ++ [106,  112,  117,  98,  108,  105,  99,  45,  107,  101,  121]) ++ [2]) ++ [73]) (by simp only [List.append_assoc, List.cons_append, List.nil_append, List.append_nil, h_53, h_54, h_55, h_52, h_51, h_41, h_217, h_29, h_22, h_16, h_721, h_720, h_0400, aa_1, aa_2, aa_3, aa_4, aa_5, aa_6, tx_0, tx_1, tx_2, tx_3, tx_5, tx_6, tx_7, tx_8, tx_9, tx_10]) (by simp [b4_len, hdl]; omega)
    (try dsimp only at z11)
    obtain ⟨u11, x11⟩ := z11.fa
    have v11 := v_size (d := d + 4) z11.da
    obtain ⟨M12, p12, z12, f12⟩ := kz_partX (d := d + 3) (m := 9) z11 ((((((((((R ++ [sgHd many]) ++ [1]) ++ [162]) ++ [98,  105,  100]) ++ (68 :: b4 cid)) ++ [100,  116,  121,  112,  101]) ++ [106,  112,  117,  98,  108,  105,  99,  45,  107,  101,  121]) ++ [2]) ++ [73]) ++ D) hdl rfl (by simp [b4_len, hdl]; omega)
    (try dsimp only at z12)
    obtain ⟨u12, x12⟩ := z12.fa
    obtain ⟨M13, p13, z13, f13⟩ := kz_pushX (d := d + 4) z12 3 (((((((((((R ++ [sgHd many]) ++ [1]) ++ [162]) ++ [98,  105,  100]) ++ (68 :: b4 cid)) ++ [100,  116,  121,  112,  101]) ++ [106,  112,  117,  98,  108,  105,  99,  45,  107,  101,  121]) ++ [2]) ++ [73]) ++ D) ++ [3]) (by simp only [List.append_assoc, List.cons_append, List.nil_append, List.append_nil, h_53, h_54, h_55, h_52, h_51, h_41, h_217, h_29, h_22, h_16, h_721, h_720, h_0400, aa_1, aa_2, aa_3, aa_4, aa_5, aa_6, tx_0, tx_1, tx_2, tx_3, tx_5, tx_6, tx_7, tx_8, tx_9, tx_10]) (by simp [b4_len, hdl]; omega)
    (try dsimp only at z13)
    obtain ⟨u13, x13⟩ := z13.fa
    have y6 := z6.cre hc'
    have y13 := z13.cre hc'
    rw [e1] at y6
    rw [e2] at y13
    obtain ⟨M14, p14, z14, f14⟩ := ky_sig (d := d) z13 c.2.2.1 hash hf
    (try dsimp only at z14)
    obtain ⟨u14, x14⟩ := z14.fa
    rw [hrow, hsg] at p14
    rw [hrow] at z14
    obtain ⟨M15, p15, z15, f15⟩ := kz_termX (d := d + 2) z14 sg ((R ++ [sgHd many] ++ [1] ++ [162] ++ [98, 105, 100] ++ (68 :: b4 cid) ++ [100, 116, 121, 112, 101] ++ [106, 112, 117, 98, 108, 105, 99, 45, 107, 101, 121] ++ [2] ++ [73] ++ D ++ [3]) ++ (68 :: b4 sg)) rfl (by simp [b4_len, hdl]; omega)
    (try dsimp only at z15)
    obtain ⟨u15, x15⟩ := z15.fa
    dsimp only at v10 v11
    rw [hdl] at v10 v11
    rw [show nI 9 = 9 from rfl] at v10 v11 p12
    by_cases hm0 : many = 0
    · subst hm0
      simp only [show sgN 0 = 3 from rfl] at p3
      refine ⟨M15, sw_row k T (some c) id party hash flags, ?_, ?_, (((((((((((((((f1).trs f2).trs f3).trs f4).trs f5).trs f6).trs f7).trs f8).trs f9).trs f10).trs f11).trs f12).trs f13).trs f14).trs f15)⟩
      · rw [nI_0]
        simp (disch := (first | omega | decide)) [c140, s140_0, s140_1, s140_4, s140_5, s140_8, s140_10, s140_12, s140_15, s140_16, s140_19, s140_22, s140_25, s140_27, s140_30, s140_31, s140_32, s140_34, s140_35, s140_38, s140_39, s140_41, s140_44, s140_45, s140_48, s140_50, s140_53, s140_55, s140_56, s140_59, s140_62, s140_63, s140_64, s140_65, s140_67, s140_69, s140_72, s140_73, s140_76, s140_77, s140_79, s140_82, s140_83, s140_86, s140_88, s140_89, s140_92, s140_93, s140_96, s140_97, s140_100, s140_101, s140_104, s140_105, s140_108, s140_109, s140_112, s140_113, s140_114, s140_117, s140_118, s140_121, s140_123, s140_126, s140_127, s140_130, s140_132, s140_135, s140_136, s140_139, s140_141, s140_144, s140_147, s140_148, s140_151, s140_154, s140_157, s140_158, s140_161, s140_164, s140_167, s140_168, s140_171, s140_172, s140_175, s140_176, s140_179, s140_180, s140_181, s140_184, s140_187, s140_190, s140_191, s140_194, s140_195, s140_198, s140_199, s140_200, s140_203, s140_206, s140_209, s140_210, s140_213, s140_214, s140_217, s140_218, s140_221, s140_222, s140_224, s140_227, s140_228, s140_231, s140_232, s140_233, s140_236, s140_239, s140_241, s140_244, s140_246, s140_249, s140_252, s140_254, s140_257, s140_259, s140_262, s140_263, s140_266, s140_267, s140_270, s140_271, s140_274, s140_275, s140_276, s140_279, s140_280, s140_283, s140_285, s140_288, s140_289, s140_292, s140_293, s140_295, s140_298, s140_301, s140_302, s140_305, s140_307, s140_310, s140_312, s140_315, s140_318, s140_320, s140_321, s140_324, s140_325, s140_328, s140_329, s140_332, s140_333, s140_336, s140_337, s140_339, s140_342, mq_k0s, mq_k1s, mq_k2s, mq_k4s, mq_k5s, mq_k5n, mq_k5as, mq_k6s, mj_pu, mj_lo, mj_br, mj_hr, mj_hw, mq_gf, mq_len, mq_al, mq_pf, mq_ok, mj_re, mq_lkm, mq_lkn, mj_ldi, mj_ldl, mj_lda, mj_ii, mj_ll, mj_li, mj_i1, ms_1, ms_2, f1_n, f1_i, f1_r, f1_u, f1_l, f2_n, f2_i, f2_r, f2_u, f2_l, mj_tg, mj_c1, mj_c2, mj_ar, mj_aw, mq_cb, mq_oi, mj_rm, Value.category, -getElem?_pos, List.getElem?_cons_zero, decide_eq_true, decide_eq_false, nl_lt, nl_le, ln_lt, ln_le, nl_eq, ln_eq, nl_add, ln_add, nl_sub, ln_mul, nI_sub, nI_mul, nI_add, nI_lt_iff, nI_le_iff, nI_inj, nI_num, mq_ix, nI_1, nl_mul, nl_div, x0, v0, y0, p1, x1, on1, p2, x2, p3, x3, p4, x4, p5, x5, p6, x6, y6, p7, x7, p8, x8, p9, x9, p10, x10, v10, p11, x11, v11, p12, x12, p13, x13, y13, p14, x14, p15]
      · have e : R ++ [sgHd 0] ++ [1] ++ [162] ++ [98, 105, 100] ++ (68 :: b4 cid) ++ [100, 116, 121, 112, 101] ++ [106, 112, 117, 98, 108, 105, 99, 45, 107, 101, 121] ++ [2] ++ [73] ++ D ++ [3] ++ (68 :: b4 sg) = R ++ rpSign (sw_oid id (some c)) D sg (sw_us (some c)) 0 := by
          simp [rpSign, rpTail, sw_oid, hid]
        rw [e] at z15
        exact z15
    generalize hX : R ++ [sgHd many] ++ [1] ++ [162] ++ [98, 105, 100] ++ (68 :: b4 cid) ++ [100, 116, 121, 112, 101] ++ [106, 112, 117, 98, 108, 105, 99, 45, 107, 101, 121] ++ [2] ++ [73] ++ D ++ [3] ++ (68 :: b4 sg) = X at *
    have hXl : X.length = R.length + 44 := by rw [← hX]; simp [b4_len, hdl]
    obtain ⟨M16, p16, z16, f16⟩ := kz_pushX (d := d + 4) z15 4 (X ++ [4]) (by simp only [List.append_assoc, List.cons_append, List.nil_append, List.append_nil, h_53, h_54, h_55, h_52, h_51, h_41, h_217, h_29, h_22, h_16, h_721, h_720, h_0400, aa_1, aa_2, aa_3, aa_4, aa_5, aa_6, tx_0, tx_1, tx_2, tx_3, tx_5, tx_6, tx_7, tx_8, tx_9, tx_10]) (by simp [b4_len, hdl]; omega)
    (try dsimp only at z16)
    obtain ⟨u16, x16⟩ := z16.fa
    obtain ⟨M17, p17, z17, f17⟩ := kz_headX (d := d + 3) z16 5 1 ((X ++ [4]) ++ [161]) (by simp only [List.append_assoc, List.cons_append, List.nil_append, List.append_nil, h_53, h_54, h_55, h_52, h_51, h_41, h_217, h_29, h_22, h_16, h_721, h_720, h_0400, aa_1, aa_2, aa_3, aa_4, aa_5, aa_6, tx_0, tx_1, tx_2, tx_3, tx_5, tx_6, tx_7, tx_8, tx_9, tx_10]) (by simp [b4_len, hdl]; omega)
    (try dsimp only at z17)
    obtain ⟨u17, x17⟩ := z17.fa
    obtain ⟨M18, p18, z18, f18⟩ := kz_textX (d := d) (j := 0) (a := 3) z17 (by omega) (((X ++ [4]) ++ [161]) ++ [98,  105,  100]) rfl (by simp only [List.append_assoc, List.cons_append, List.nil_append, List.append_nil, h_53, h_54, h_55, h_52, h_51, h_41, h_217, h_29, h_22, h_16, h_721, h_720, h_0400, aa_1, aa_2, aa_3, aa_4, aa_5, aa_6, tx_0, tx_1, tx_2, tx_3, tx_5, tx_6, tx_7, tx_8, tx_9, tx_10]) (by simp [b4_len, hdl]; omega)
    (try dsimp only at z18)
    obtain ⟨u18, x18⟩ := z18.fa
    have y18 := z18.cre hc'
    obtain ⟨M19, p19, z19, f19⟩ := kz_headX (d := d + 3) z18 2 (nI U.length) (X ++ [4] ++ [161] ++ [98, 105, 100] ++ bt_hd 2 (nI U.length)) rfl (by simp; omega)
    (try dsimp only at z19)
    obtain ⟨u19, x19⟩ := z19.fa
    have y19 := z19.cre hc'
    have hlw : bt_low (bt_lo U) U.length = U := bt_lo_low U hul.2 hul.1
    obtain ⟨M20, p20, z20, f20⟩ := kz_lowX (d := d + 4) (m := U.length) z19 (bt_lo U) (X ++ [4] ++ [161] ++ [98, 105, 100] ++ bt_hd 2 (nI U.length) ++ U) (by rw [hlw]) (by simp; omega)
    (try dsimp only at z20)
    obtain ⟨u20, x20⟩ := z20.fa
    rw [e3] at y18 y19
    by_cases hm1 : many = 1
    · subst hm1
      simp only [show sgN 1 = 4 from rfl] at p3
      refine ⟨M20, sw_row k T (some c) id party hash flags, ?_, ?_, ((((((((((((((((((((f1).trs f2).trs f3).trs f4).trs f5).trs f6).trs f7).trs f8).trs f9).trs f10).trs f11).trs f12).trs f13).trs f14).trs f15).trs f16).trs f17).trs f18).trs f19).trs f20)⟩
      · simp (disch := (first | omega | decide)) [c140, s140_0, s140_1, s140_4, s140_5, s140_8, s140_10, s140_12, s140_15, s140_16, s140_19, s140_22, s140_25, s140_27, s140_30, s140_31, s140_32, s140_34, s140_35, s140_38, s140_39, s140_41, s140_44, s140_45, s140_48, s140_50, s140_53, s140_55, s140_56, s140_59, s140_62, s140_63, s140_64, s140_65, s140_67, s140_69, s140_72, s140_73, s140_76, s140_77, s140_79, s140_82, s140_83, s140_86, s140_88, s140_89, s140_92, s140_93, s140_96, s140_97, s140_100, s140_101, s140_104, s140_105, s140_108, s140_109, s140_112, s140_113, s140_114, s140_117, s140_118, s140_121, s140_123, s140_126, s140_127, s140_130, s140_132, s140_135, s140_136, s140_139, s140_141, s140_144, s140_147, s140_148, s140_151, s140_154, s140_157, s140_158, s140_161, s140_164, s140_167, s140_168, s140_171, s140_172, s140_175, s140_176, s140_179, s140_180, s140_181, s140_184, s140_187, s140_190, s140_191, s140_194, s140_195, s140_198, s140_199, s140_200, s140_203, s140_206, s140_209, s140_210, s140_213, s140_214, s140_217, s140_218, s140_221, s140_222, s140_224, s140_227, s140_228, s140_231, s140_232, s140_233, s140_236, s140_239, s140_241, s140_244, s140_246, s140_249, s140_252, s140_254, s140_257, s140_259, s140_262, s140_263, s140_266, s140_267, s140_270, s140_271, s140_274, s140_275, s140_276, s140_279, s140_280, s140_283, s140_285, s140_288, s140_289, s140_292, s140_293, s140_295, s140_298, s140_301, s140_302, s140_305, s140_307, s140_310, s140_312, s140_315, s140_318, s140_320, s140_321, s140_324, s140_325, s140_328, s140_329, s140_332, s140_333, s140_336, s140_337, s140_339, s140_342, mq_k0s, mq_k1s, mq_k2s, mq_k4s, mq_k5s, mq_k5n, mq_k5as, mq_k6s, mj_pu, mj_lo, mj_br, mj_hr, mj_hw, mq_gf, mq_len, mq_al, mq_pf, mq_ok, mj_re, mq_lkm, mq_lkn, mj_ldi, mj_ldl, mj_lda, mj_ii, mj_ll, mj_li, mj_i1, ms_1, ms_2, f1_n, f1_i, f1_r, f1_u, f1_l, f2_n, f2_i, f2_r, f2_u, f2_l, mj_tg, mj_c1, mj_c2, mj_ar, mj_aw, mq_cb, mq_oi, mj_rm, Value.category, -getElem?_pos, List.getElem?_cons_zero, decide_eq_true, decide_eq_false, nl_lt, nl_le, ln_lt, ln_le, nl_eq, ln_eq, nl_add, ln_add, nl_sub, ln_mul, nI_sub, nI_mul, nI_add, nI_lt_iff, nI_le_iff, nI_inj, nI_num, mq_ix, nI_1, nl_mul, nl_div, x0, v0, y0, p1, x1, on1, p2, x2, p3, x3, p4, x4, p5, x5, p6, x6, y6, p7, x7, p8, x8, p9, x9, p10, x10, v10, p11, x11, v11, p12, x12, p13, x13, y13, p14, x14, p15, x15, p16, x16, p17, x17, p18, x18, y18, p19, x19, y19, p20]
      · have e : X ++ [4] ++ [161] ++ [98, 105, 100] ++ bt_hd 2 (nI U.length) ++ U = R ++ rpSign (sw_oid id (some c)) D sg (sw_us (some c)) 1 := by
          rw [← hX]
          simp [rpSign, rpTail, sw_oid, hid, sw_us, hU]
        rw [e] at z20
        exact z20
    have hmN : sgN many = 5 := by simp [sgN, hm0, hm1]
    rw [hmN] at p3
    obtain ⟨M21, p21, z21, f21⟩ := kz_pushX (d := d + 4) z20 5 (X ++ [4] ++ [161] ++ [98, 105, 100] ++ bt_hd 2 (nI U.length) ++ U ++ [5]) (by rw [aa_5]) (by simp; omega)
    (try dsimp only at z21)
    obtain ⟨u21, x21⟩ := z21.fa
    obtain ⟨M22, p22, z22, f22⟩ := kz_headX (d := d + 3) z21 0 (nI many) (X ++ [4] ++ [161] ++ [98, 105, 100] ++ bt_hd 2 (nI U.length) ++ U ++ [5] ++ bt_hd 0 (nI many)) rfl (by simp; omega)
    have hm2 : ¬ many ≤ 1 := by omega
    refine ⟨M22, sw_row k T (some c) id party hash flags, ?_, ?_, ((((((((((((((((((((((f1).trs f2).trs f3).trs f4).trs f5).trs f6).trs f7).trs f8).trs f9).trs f10).trs f11).trs f12).trs f13).trs f14).trs f15).trs f16).trs f17).trs f18).trs f19).trs f20).trs f21).trs f22)⟩
    · simp (disch := (first | omega | decide)) [c140, s140_0, s140_1, s140_4, s140_5, s140_8, s140_10, s140_12, s140_15, s140_16, s140_19, s140_22, s140_25, s140_27, s140_30, s140_31, s140_32, s140_34, s140_35, s140_38, s140_39, s140_41, s140_44, s140_45, s140_48, s140_50, s140_53, s140_55, s140_56, s140_59, s140_62, s140_63, s140_64, s140_65, s140_67, s140_69, s140_72, s140_73, s140_76, s140_77, s140_79, s140_82, s140_83, s140_86, s140_88, s140_89, s140_92, s140_93, s140_96, s140_97, s140_100, s140_101, s140_104, s140_105, s140_108, s140_109, s140_112, s140_113, s140_114, s140_117, s140_118, s140_121, s140_123, s140_126, s140_127, s140_130, s140_132, s140_135, s140_136, s140_139, s140_141, s140_144, s140_147, s140_148, s140_151, s140_154, s140_157, s140_158, s140_161, s140_164, s140_167, s140_168, s140_171, s140_172, s140_175, s140_176, s140_179, s140_180, s140_181, s140_184, s140_187, s140_190, s140_191, s140_194, s140_195, s140_198, s140_199, s140_200, s140_203, s140_206, s140_209, s140_210, s140_213, s140_214, s140_217, s140_218, s140_221, s140_222, s140_224, s140_227, s140_228, s140_231, s140_232, s140_233, s140_236, s140_239, s140_241, s140_244, s140_246, s140_249, s140_252, s140_254, s140_257, s140_259, s140_262, s140_263, s140_266, s140_267, s140_270, s140_271, s140_274, s140_275, s140_276, s140_279, s140_280, s140_283, s140_285, s140_288, s140_289, s140_292, s140_293, s140_295, s140_298, s140_301, s140_302, s140_305, s140_307, s140_310, s140_312, s140_315, s140_318, s140_320, s140_321, s140_324, s140_325, s140_328, s140_329, s140_332, s140_333, s140_336, s140_337, s140_339, s140_342, mq_k0s, mq_k1s, mq_k2s, mq_k4s, mq_k5s, mq_k5n, mq_k5as, mq_k6s, mj_pu, mj_lo, mj_br, mj_hr, mj_hw, mq_gf, mq_len, mq_al, mq_pf, mq_ok, mj_re, mq_lkm, mq_lkn, mj_ldi, mj_ldl, mj_lda, mj_ii, mj_ll, mj_li, mj_i1, ms_1, ms_2, f1_n, f1_i, f1_r, f1_u, f1_l, f2_n, f2_i, f2_r, f2_u, f2_l, mj_tg, mj_c1, mj_c2, mj_ar, mj_aw, mq_cb, mq_oi, mj_rm, Value.category, -getElem?_pos, List.getElem?_cons_zero, decide_eq_true, decide_eq_false, nl_lt, nl_le, ln_lt, ln_le, nl_eq, ln_eq, nl_add, ln_add, nl_sub, ln_mul, nI_sub, nI_mul, nI_add, nI_lt_iff, nI_le_iff, nI_inj, nI_num, mq_ix, nI_1, nl_mul, nl_div, x0, v0, y0, p1, x1, on1, p2, x2, hm0, hm1, p3, x3, p4, x4, p5, x5, p6, x6, y6, p7, x7, p8, x8, p9, x9, p10, x10, v10, p11, x11, v11, p12, x12, p13, x13, y13, p14, x14, p15, x15, p16, x16, p17, x17, p18, x18, y18, p19, x19, y19, p20, x20, hm2, p21, x21, p22]
    · have e : X ++ [4] ++ [161] ++ [98, 105, 100] ++ bt_hd 2 (nI U.length) ++ U ++ [5] ++ bt_hd 0 (nI many) = R ++ rpSign (sw_oid id (some c)) D sg (sw_us (some c)) many := by
        rw [← hX]
        simp [rpSign, rpTail, sw_oid, hid, sw_us, hU, hm0, hm2]
      rw [e] at z22
      exact z22
end KZ
end
