/- 89.key9 -/
section
set_option maxRecDepth 512
/-! Class: Key: NEXT, INFO, RESET. -/
/- 141 PasskeyHouse$Key.inform()V -/
theorem s141_0 {d : Nat} {ls : mj_L} {st : List Value} {M : mj_H} : mj_Rn d mj_m141 0 ls st M = mq_k0 d mj_m141 1 ls M (mj_lda (mj_lk ls 0) st) := mj_R0 (r := (.aload_n 0, 1, 0, 0, 0)) rfl rfl
theorem s141_1 {d : Nat} {ls : mj_L} {st : List Value} {M : mj_H} : mj_Rn d mj_m141 1 ls st M = mq_k0 d mj_m141 4 ls M (mq_gf 5 3 st M) := (mj_R3 (r := (.getfield 31, 3, 5, 3, 16604)) rfl rfl).trans (congrArg (mq_k0 d mj_m141 4 ls M) mq_gf_eq)
theorem s141_4 {d : Nat} {ls : mj_L} {st : List Value} {M : mj_H} : mj_Rn d mj_m141 4 ls st M = mj_Rn d mj_m141 5 ls (.int 5 :: st) M := mj_R0 (r := (.iconst 5, 1, 0, 0, 0)) rfl rfl
theorem s141_5 {d : Nat} {ls : mj_L} {st : List Value} {M : mj_H} : mj_Rn d mj_m141 5 ls st M = mj_Rn d mj_m141 6 ls (.int 5 :: st) M := mj_R0 (r := (.iconst 5, 1, 0, 0, 0)) rfl rfl
theorem s141_6 {d : Nat} {ls : mj_L} {st : List Value} {M : mj_H} : mj_Rn (d + 1) mj_m141 6 ls st M = mq_k5a (d + 1) mj_m141 9 ls M 131 (mq_cb 0 2 1 st M) := mj_R5e (r := (.invokevirtual 313, 3, 0, 131, 16540)) (z := mj_m131) rfl rfl (by decide) (by decide) rfl
theorem s141_9 {d : Nat} {ls : mj_L} {st : List Value} {M : mj_H} : mj_Rn d mj_m141 9 ls st M = mq_k0 d mj_m141 10 ls M (mj_lda (mj_lk ls 0) st) := mj_R0 (r := (.aload_n 0, 1, 0, 0, 0)) rfl rfl
theorem s141_10 {d : Nat} {ls : mj_L} {st : List Value} {M : mj_H} : mj_Rn d mj_m141 10 ls st M = mq_k0 d mj_m141 13 ls M (mq_gf 5 3 st M) := (mj_R3 (r := (.getfield 31, 3, 5, 3, 16604)) rfl rfl).trans (congrArg (mq_k0 d mj_m141 13 ls M) mq_gf_eq)
theorem s141_13 {d : Nat} {ls : mj_L} {st : List Value} {M : mj_H} : mj_Rn d mj_m141 13 ls st M = mj_Rn d mj_m141 14 ls (.int 1 :: st) M := mj_R0 (r := (.iconst 1, 1, 0, 0, 0)) rfl rfl
theorem s141_14 {d : Nat} {ls : mj_L} {st : List Value} {M : mj_H} : mj_Rn (d + 1) mj_m141 14 ls st M = mq_k5a (d + 1) mj_m141 17 ls M 45 (mq_cb 0 1 1 st M) := mj_R5e (r := (.invokevirtual 102, 3, 0, 45, 12442)) (z := mj_m45) rfl rfl (by decide) (by decide) rfl
theorem s141_17 {d : Nat} {ls : mj_L} {st : List Value} {M : mj_H} : mj_Rn d mj_m141 17 ls st M = mq_k0 d mj_m141 18 ls M (mj_lda (mj_lk ls 0) st) := mj_R0 (r := (.aload_n 0, 1, 0, 0, 0)) rfl rfl
theorem s141_18 {d : Nat} {ls : mj_L} {st : List Value} {M : mj_H} : mj_Rn d mj_m141 18 ls st M = mq_k0 d mj_m141 21 ls M (mq_gf 5 3 st M) := (mj_R3 (r := (.getfield 31, 3, 5, 3, 16604)) rfl rfl).trans (congrArg (mq_k0 d mj_m141 21 ls M) mq_gf_eq)
theorem s141_21 {d : Nat} {ls : mj_L} {st : List Value} {M : mj_H} : mj_Rn d mj_m141 21 ls st M = mj_Rn d mj_m141 22 ls (.int 4 :: st) M := mj_R0 (r := (.iconst 4, 1, 0, 0, 0)) rfl rfl
theorem s141_22 {d : Nat} {ls : mj_L} {st : List Value} {M : mj_H} : mj_Rn d mj_m141 22 ls st M = mj_Rn d mj_m141 23 ls (.int 1 :: st) M := mj_R0 (r := (.iconst 1, 1, 0, 0, 0)) rfl rfl
theorem s141_23 {d : Nat} {ls : mj_L} {st : List Value} {M : mj_H} : mj_Rn (d + 1) mj_m141 23 ls st M = mq_k5a (d + 1) mj_m141 26 ls M 131 (mq_cb 0 2 1 st M) := mj_R5e (r := (.invokevirtual 313, 3, 0, 131, 16540)) (z := mj_m131) rfl rfl (by decide) (by decide) rfl
theorem s141_26 {d : Nat} {ls : mj_L} {st : List Value} {M : mj_H} : mj_Rn d mj_m141 26 ls st M = mq_k0 d mj_m141 27 ls M (mj_lda (mj_lk ls 0) st) := mj_R0 (r := (.aload_n 0, 1, 0, 0, 0)) rfl rfl
theorem s141_27 {d : Nat} {ls : mj_L} {st : List Value} {M : mj_H} : mj_Rn d mj_m141 27 ls st M = mq_k0 d mj_m141 30 ls M (mq_gf 5 3 st M) := (mj_R3 (r := (.getfield 31, 3, 5, 3, 16604)) rfl rfl).trans (congrArg (mq_k0 d mj_m141 30 ls M) mq_gf_eq)
theorem s141_30 {d : Nat} {ls : mj_L} {st : List Value} {M : mj_H} : mj_Rn d mj_m141 30 ls st M = mj_Rn d mj_m141 33 ls (.ref 21 :: st) M := mj_R3 (r := (.ldc_w 373, 3, 2, 17, 16595)) rfl rfl
theorem s141_33 {d : Nat} {ls : mj_L} {st : List Value} {M : mj_H} : mj_Rn (d + 1) mj_m141 33 ls st M = mq_k5a (d + 1) mj_m141 36 ls M 132 (mq_cb 0 1 1 st M) := mj_R5e (r := (.invokevirtual 319, 3, 0, 132, 16546)) (z := mj_m132) rfl rfl (by decide) (by decide) rfl
theorem s141_36 {d : Nat} {ls : mj_L} {st : List Value} {M : mj_H} : mj_Rn d mj_m141 36 ls st M = mq_k0 d mj_m141 37 ls M (mj_lda (mj_lk ls 0) st) := mj_R0 (r := (.aload_n 0, 1, 0, 0, 0)) rfl rfl
theorem s141_37 {d : Nat} {ls : mj_L} {st : List Value} {M : mj_H} : mj_Rn d mj_m141 37 ls st M = mq_k0 d mj_m141 40 ls M (mq_gf 5 3 st M) := (mj_R3 (r := (.getfield 31, 3, 5, 3, 16604)) rfl rfl).trans (congrArg (mq_k0 d mj_m141 40 ls M) mq_gf_eq)
theorem s141_40 {d : Nat} {ls : mj_L} {st : List Value} {M : mj_H} : mj_Rn d mj_m141 40 ls st M = mj_Rn d mj_m141 41 ls (.int 3 :: st) M := mj_R0 (r := (.iconst 3, 1, 0, 0, 0)) rfl rfl
theorem s141_41 {d : Nat} {ls : mj_L} {st : List Value} {M : mj_H} : mj_Rn (d + 1) mj_m141 41 ls st M = mq_k5a (d + 1) mj_m141 44 ls M 45 (mq_cb 0 1 1 st M) := mj_R5e (r := (.invokevirtual 102, 3, 0, 45, 12442)) (z := mj_m45) rfl rfl (by decide) (by decide) rfl
theorem s141_44 {d : Nat} {ls : mj_L} {st : List Value} {M : mj_H} : mj_Rn d mj_m141 44 ls st M = mq_k0 d mj_m141 45 ls M (mj_lda (mj_lk ls 0) st) := mj_R0 (r := (.aload_n 0, 1, 0, 0, 0)) rfl rfl
theorem s141_45 {d : Nat} {ls : mj_L} {st : List Value} {M : mj_H} : mj_Rn d mj_m141 45 ls st M = mq_k0 d mj_m141 48 ls M (mq_gf 5 3 st M) := (mj_R3 (r := (.getfield 31, 3, 5, 3, 16604)) rfl rfl).trans (congrArg (mq_k0 d mj_m141 48 ls M) mq_gf_eq)
theorem s141_48 {d : Nat} {ls : mj_L} {st : List Value} {M : mj_H} : mj_Rn d mj_m141 48 ls st M = mj_Rn d mj_m141 49 ls (.int 2 :: st) M := mj_R0 (r := (.iconst 2, 1, 0, 0, 0)) rfl rfl
theorem s141_49 {d : Nat} {ls : mj_L} {st : List Value} {M : mj_H} : mj_Rn d mj_m141 49 ls st M = mj_Rn d mj_m141 50 ls (.int 2 :: st) M := mj_R0 (r := (.iconst 2, 1, 0, 0, 0)) rfl rfl
theorem s141_50 {d : Nat} {ls : mj_L} {st : List Value} {M : mj_H} : mj_Rn (d + 1) mj_m141 50 ls st M = mq_k5a (d + 1) mj_m141 53 ls M 131 (mq_cb 0 2 1 st M) := mj_R5e (r := (.invokevirtual 313, 3, 0, 131, 16540)) (z := mj_m131) rfl rfl (by decide) (by decide) rfl
theorem s141_53 {d : Nat} {ls : mj_L} {st : List Value} {M : mj_H} : mj_Rn d mj_m141 53 ls st M = mq_k0 d mj_m141 54 ls M (mj_lda (mj_lk ls 0) st) := mj_R0 (r := (.aload_n 0, 1, 0, 0, 0)) rfl rfl
theorem s141_54 {d : Nat} {ls : mj_L} {st : List Value} {M : mj_H} : mj_Rn d mj_m141 54 ls st M = mq_k0 d mj_m141 57 ls M (mq_gf 5 3 st M) := (mj_R3 (r := (.getfield 31, 3, 5, 3, 16604)) rfl rfl).trans (congrArg (mq_k0 d mj_m141 57 ls M) mq_gf_eq)
theorem s141_57 {d : Nat} {ls : mj_L} {st : List Value} {M : mj_H} : mj_Rn d mj_m141 57 ls st M = mj_Rn d mj_m141 58 ls (.long 0 :: st) M := mj_R0 (r := (.lconst 0, 1, 0, 0, 0)) rfl rfl
theorem s141_58 {d : Nat} {ls : mj_L} {st : List Value} {M : mj_H} : mj_Rn d mj_m141 58 ls st M = mj_Rn d mj_m141 59 ls (.int 2 :: st) M := mj_R0 (r := (.iconst 2, 1, 0, 0, 0)) rfl rfl
theorem s141_59 {d : Nat} {ls : mj_L} {st : List Value} {M : mj_H} : mj_Rn (d + 1) mj_m141 59 ls st M = mq_k5a (d + 1) mj_m141 62 ls M 10 (mq_cb 0 2 1 st M) := mj_R5e (r := (.invokevirtual 302, 3, 0, 10, 16535)) (z := mj_m10) rfl rfl (by decide) (by decide) rfl
theorem s141_62 {d : Nat} {ls : mj_L} {st : List Value} {M : mj_H} : mj_Rn d mj_m141 62 ls st M = mq_k0 d mj_m141 63 ls M (mj_lda (mj_lk ls 0) st) := mj_R0 (r := (.aload_n 0, 1, 0, 0, 0)) rfl rfl
theorem s141_63 {d : Nat} {ls : mj_L} {st : List Value} {M : mj_H} : mj_Rn d mj_m141 63 ls st M = mq_k0 d mj_m141 66 ls M (mq_gf 5 3 st M) := (mj_R3 (r := (.getfield 31, 3, 5, 3, 16604)) rfl rfl).trans (congrArg (mq_k0 d mj_m141 66 ls M) mq_gf_eq)
theorem s141_66 {d : Nat} {ls : mj_L} {st : List Value} {M : mj_H} : mj_Rn d mj_m141 66 ls st M = mj_Rn d mj_m141 67 ls (.int 4 :: st) M := mj_R0 (r := (.iconst 4, 1, 0, 0, 0)) rfl rfl
theorem s141_67 {d : Nat} {ls : mj_L} {st : List Value} {M : mj_H} : mj_Rn (d + 1) mj_m141 67 ls st M = mq_k5a (d + 1) mj_m141 70 ls M 45 (mq_cb 0 1 1 st M) := mj_R5e (r := (.invokevirtual 102, 3, 0, 45, 12442)) (z := mj_m45) rfl rfl (by decide) (by decide) rfl
theorem s141_70 {d : Nat} {ls : mj_L} {st : List Value} {M : mj_H} : mj_Rn d mj_m141 70 ls st M = mq_k0 d mj_m141 71 ls M (mj_lda (mj_lk ls 0) st) := mj_R0 (r := (.aload_n 0, 1, 0, 0, 0)) rfl rfl
theorem s141_71 {d : Nat} {ls : mj_L} {st : List Value} {M : mj_H} : mj_Rn d mj_m141 71 ls st M = mq_k0 d mj_m141 74 ls M (mq_gf 5 3 st M) := (mj_R3 (r := (.getfield 31, 3, 5, 3, 16604)) rfl rfl).trans (congrArg (mq_k0 d mj_m141 74 ls M) mq_gf_eq)
theorem s141_74 {d : Nat} {ls : mj_L} {st : List Value} {M : mj_H} : mj_Rn d mj_m141 74 ls st M = mj_Rn d mj_m141 75 ls (.int 5 :: st) M := mj_R0 (r := (.iconst 5, 1, 0, 0, 0)) rfl rfl
theorem s141_75 {d : Nat} {ls : mj_L} {st : List Value} {M : mj_H} : mj_Rn d mj_m141 75 ls st M = mj_Rn d mj_m141 76 ls (.int 3 :: st) M := mj_R0 (r := (.iconst 3, 1, 0, 0, 0)) rfl rfl
theorem s141_76 {d : Nat} {ls : mj_L} {st : List Value} {M : mj_H} : mj_Rn (d + 1) mj_m141 76 ls st M = mq_k5a (d + 1) mj_m141 79 ls M 131 (mq_cb 0 2 1 st M) := mj_R5e (r := (.invokevirtual 313, 3, 0, 131, 16540)) (z := mj_m131) rfl rfl (by decide) (by decide) rfl
theorem s141_79 {d : Nat} {ls : mj_L} {st : List Value} {M : mj_H} : mj_Rn d mj_m141 79 ls st M = mq_k0 d mj_m141 80 ls M (mj_lda (mj_lk ls 0) st) := mj_R0 (r := (.aload_n 0, 1, 0, 0, 0)) rfl rfl
theorem s141_80 {d : Nat} {ls : mj_L} {st : List Value} {M : mj_H} : mj_Rn d mj_m141 80 ls st M = mq_k0 d mj_m141 83 ls M (mq_gf 5 3 st M) := (mj_R3 (r := (.getfield 31, 3, 5, 3, 16604)) rfl rfl).trans (congrArg (mq_k0 d mj_m141 83 ls M) mq_gf_eq)
theorem s141_83 {d : Nat} {ls : mj_L} {st : List Value} {M : mj_H} : mj_Rn d mj_m141 83 ls st M = mj_Rn d mj_m141 85 ls (.ref 9 :: st) M := mj_R3 (r := (.ldc 230, 2, 2, 10, 16426)) rfl rfl
theorem s141_85 {d : Nat} {ls : mj_L} {st : List Value} {M : mj_H} : mj_Rn (d + 1) mj_m141 85 ls st M = mq_k5a (d + 1) mj_m141 88 ls M 132 (mq_cb 0 1 1 st M) := mj_R5e (r := (.invokevirtual 319, 3, 0, 132, 16546)) (z := mj_m132) rfl rfl (by decide) (by decide) rfl
theorem s141_88 {d : Nat} {ls : mj_L} {st : List Value} {M : mj_H} : mj_Rn d mj_m141 88 ls st M = mq_k0 d mj_m141 89 ls M (mj_lda (mj_lk ls 0) st) := mj_R0 (r := (.aload_n 0, 1, 0, 0, 0)) rfl rfl
theorem s141_89 {d : Nat} {ls : mj_L} {st : List Value} {M : mj_H} : mj_Rn d mj_m141 89 ls st M = mq_k0 d mj_m141 92 ls M (mq_gf 5 3 st M) := (mj_R3 (r := (.getfield 31, 3, 5, 3, 16604)) rfl rfl).trans (congrArg (mq_k0 d mj_m141 92 ls M) mq_gf_eq)
theorem s141_92 {d : Nat} {ls : mj_L} {st : List Value} {M : mj_H} : mj_Rn d mj_m141 92 ls st M = mj_Rn d mj_m141 94 ls (.int 7 :: st) M := mj_R0 (r := (.bipush 7, 2, 0, 0, 0)) rfl rfl
theorem s141_94 {d : Nat} {ls : mj_L} {st : List Value} {M : mj_H} : mj_Rn d mj_m141 94 ls st M = mj_Rn d mj_m141 96 ls (.int 21 :: st) M := mj_R0 (r := (.bipush 21, 2, 0, 0, 0)) rfl rfl
theorem s141_96 {d : Nat} {ls : mj_L} {st : List Value} {M : mj_H} : mj_Rn (d + 1) mj_m141 96 ls st M = mq_k5a (d + 1) mj_m141 99 ls M 131 (mq_cb 0 2 1 st M) := mj_R5e (r := (.invokevirtual 313, 3, 0, 131, 16540)) (z := mj_m131) rfl rfl (by decide) (by decide) rfl
theorem s141_99 {d : Nat} {ls : mj_L} {st : List Value} {M : mj_H} : mj_Rn d mj_m141 99 ls st M = mq_k0 d mj_m141 100 ls M (mj_lda (mj_lk ls 0) st) := mj_R0 (r := (.aload_n 0, 1, 0, 0, 0)) rfl rfl
theorem s141_100 {d : Nat} {ls : mj_L} {st : List Value} {M : mj_H} : mj_Rn d mj_m141 100 ls st M = mq_k0 d mj_m141 103 ls M (mq_gf 5 3 st M) := (mj_R3 (r := (.getfield 31, 3, 5, 3, 16604)) rfl rfl).trans (congrArg (mq_k0 d mj_m141 103 ls M) mq_gf_eq)
theorem s141_103 {d : Nat} {ls : mj_L} {st : List Value} {M : mj_H} : mj_Rn d mj_m141 103 ls st M = mj_Rn d mj_m141 106 ls (.ref 19 :: st) M := mj_R3 (r := (.ldc_w 343, 3, 2, 16, 16571)) rfl rfl
theorem s141_106 {d : Nat} {ls : mj_L} {st : List Value} {M : mj_H} : mj_Rn (d + 1) mj_m141 106 ls st M = mq_k5a (d + 1) mj_m141 109 ls M 132 (mq_cb 0 1 1 st M) := mj_R5e (r := (.invokevirtual 319, 3, 0, 132, 16546)) (z := mj_m132) rfl rfl (by decide) (by decide) rfl
theorem s141_109 {d : Nat} {ls : mj_L} {st : List Value} {M : mj_H} : mj_Rn d mj_m141 109 ls st M = mq_k0 d mj_m141 110 ls M (mj_lda (mj_lk ls 0) st) := mj_R0 (r := (.aload_n 0, 1, 0, 0, 0)) rfl rfl
theorem s141_110 {d : Nat} {ls : mj_L} {st : List Value} {M : mj_H} : mj_Rn d mj_m141 110 ls st M = mq_k0 d mj_m141 113 ls M (mq_gf 5 3 st M) := (mj_R3 (r := (.getfield 31, 3, 5, 3, 16604)) rfl rfl).trans (congrArg (mq_k0 d mj_m141 113 ls M) mq_gf_eq)
theorem s141_113 {d : Nat} {ls : mj_L} {st : List Value} {M : mj_H} : mj_Rn d mj_m141 113 ls st M = mj_Rn d mj_m141 115 ls (.int 7 :: st) M := mj_R0 (r := (.bipush 7, 2, 0, 0, 0)) rfl rfl
theorem s141_115 {d : Nat} {ls : mj_L} {st : List Value} {M : mj_H} : mj_Rn d mj_m141 115 ls st M = mj_Rn d mj_m141 117 ls (.int 21 :: st) M := mj_R0 (r := (.bipush 21, 2, 0, 0, 0)) rfl rfl
theorem s141_117 {d : Nat} {ls : mj_L} {st : List Value} {M : mj_H} : mj_Rn (d + 1) mj_m141 117 ls st M = mq_k5a (d + 1) mj_m141 120 ls M 131 (mq_cb 0 2 1 st M) := mj_R5e (r := (.invokevirtual 313, 3, 0, 131, 16540)) (z := mj_m131) rfl rfl (by decide) (by decide) rfl
theorem s141_120 {d : Nat} {ls : mj_L} {st : List Value} {M : mj_H} : mj_Rn d mj_m141 120 ls st M = mq_k0 d mj_m141 121 ls M (mj_lda (mj_lk ls 0) st) := mj_R0 (r := (.aload_n 0, 1, 0, 0, 0)) rfl rfl
theorem s141_121 {d : Nat} {ls : mj_L} {st : List Value} {M : mj_H} : mj_Rn d mj_m141 121 ls st M = mq_k0 d mj_m141 124 ls M (mq_gf 5 3 st M) := (mj_R3 (r := (.getfield 31, 3, 5, 3, 16604)) rfl rfl).trans (congrArg (mq_k0 d mj_m141 124 ls M) mq_gf_eq)
theorem s141_124 {d : Nat} {ls : mj_L} {st : List Value} {M : mj_H} : mj_Rn d mj_m141 124 ls st M = mj_Rn d mj_m141 127 ls (.ref 23 :: st) M := mj_R3 (r := (.ldc_w 375, 3, 2, 18, 16596)) rfl rfl
theorem s141_127 {d : Nat} {ls : mj_L} {st : List Value} {M : mj_H} : mj_Rn (d + 1) mj_m141 127 ls st M = mq_k5a (d + 1) mj_m141 130 ls M 132 (mq_cb 0 1 1 st M) := mj_R5e (r := (.invokevirtual 319, 3, 0, 132, 16546)) (z := mj_m132) rfl rfl (by decide) (by decide) rfl
theorem s141_130 {d : Nat} {ls : mj_L} {st : List Value} {M : mj_H} : mj_Rn d mj_m141 130 ls st M = mq_k0 d mj_m141 131 ls M (mj_lda (mj_lk ls 0) st) := mj_R0 (r := (.aload_n 0, 1, 0, 0, 0)) rfl rfl
theorem s141_131 {d : Nat} {ls : mj_L} {st : List Value} {M : mj_H} : mj_Rn d mj_m141 131 ls st M = mq_k0 d mj_m141 134 ls M (mq_gf 5 3 st M) := (mj_R3 (r := (.getfield 31, 3, 5, 3, 16604)) rfl rfl).trans (congrArg (mq_k0 d mj_m141 134 ls M) mq_gf_eq)
theorem s141_134 {d : Nat} {ls : mj_L} {st : List Value} {M : mj_H} : mj_Rn d mj_m141 134 ls st M = mj_Rn d mj_m141 136 ls (.int 7 :: st) M := mj_R0 (r := (.bipush 7, 2, 0, 0, 0)) rfl rfl
theorem s141_136 {d : Nat} {ls : mj_L} {st : List Value} {M : mj_H} : mj_Rn d mj_m141 136 ls st M = mq_k0 d mj_m141 137 ls M (mj_lda (mj_lk ls 0) st) := mj_R0 (r := (.aload_n 0, 1, 0, 0, 0)) rfl rfl
theorem s141_137 {d : Nat} {ls : mj_L} {st : List Value} {M : mj_H} : mj_Rn d mj_m141 137 ls st M = mq_k0 d mj_m141 140 ls M (mq_gf 5 2 st M) := (mj_R3 (r := (.getfield 22, 3, 5, 2, 16600)) rfl rfl).trans (congrArg (mq_k0 d mj_m141 140 ls M) mq_gf_eq)
theorem s141_140 {d : Nat} {ls : mj_L} {st : List Value} {M : mj_H} : mj_Rn d mj_m141 140 ls st M = mq_k0 d mj_m141 143 ls M (mq_gf 8 11 st M) := (mj_R3 (r := (.getfield 194, 3, 8, 11, 16517)) rfl rfl).trans (congrArg (mq_k0 d mj_m141 143 ls M) mq_gf_eq)
theorem s141_143 {d : Nat} {ls : mj_L} {st : List Value} {M : mj_H} : mj_Rn d mj_m141 143 ls st M = mq_k2 d mj_m141 ls M (mj_br (.ifCond .eq 8) 143 st) := mj_R2 (r := (.ifCond .eq 8, 3, 0, 0, 0)) rfl rfl
theorem s141_146 {d : Nat} {ls : mj_L} {st : List Value} {M : mj_H} : mj_Rn d mj_m141 146 ls st M = mj_Rn d mj_m141 148 ls (.int 21 :: st) M := mj_R0 (r := (.bipush 21, 2, 0, 0, 0)) rfl rfl
theorem s141_148 {d : Nat} {ls : mj_L} {st : List Value} {M : mj_H} : mj_Rn d mj_m141 148 ls st M = mj_Rn d mj_m141 153 ls st M := mj_R2 (r := (.goto 5, 3, 0, 0, 0)) rfl rfl
theorem s141_151 {d : Nat} {ls : mj_L} {st : List Value} {M : mj_H} : mj_Rn d mj_m141 151 ls st M = mj_Rn d mj_m141 153 ls (.int 20 :: st) M := mj_R0 (r := (.bipush 20, 2, 0, 0, 0)) rfl rfl
theorem s141_153 {d : Nat} {ls : mj_L} {st : List Value} {M : mj_H} : mj_Rn (d + 1) mj_m141 153 ls st M = mq_k5a (d + 1) mj_m141 156 ls M 131 (mq_cb 0 2 1 st M) := mj_R5e (r := (.invokevirtual 313, 3, 0, 131, 16540)) (z := mj_m131) rfl rfl (by decide) (by decide) rfl
theorem s141_156 {d : Nat} {ls : mj_L} {st : List Value} {M : mj_H} : mj_Rn d mj_m141 156 ls st M = mq_k0 d mj_m141 157 ls M (mj_lda (mj_lk ls 0) st) := mj_R0 (r := (.aload_n 0, 1, 0, 0, 0)) rfl rfl
theorem s141_157 {d : Nat} {ls : mj_L} {st : List Value} {M : mj_H} : mj_Rn d mj_m141 157 ls st M = mq_k0 d mj_m141 160 ls M (mq_gf 5 3 st M) := (mj_R3 (r := (.getfield 31, 3, 5, 3, 16604)) rfl rfl).trans (congrArg (mq_k0 d mj_m141 160 ls M) mq_gf_eq)
theorem s141_160 {d : Nat} {ls : mj_L} {st : List Value} {M : mj_H} : mj_Rn d mj_m141 160 ls st M = mj_Rn d mj_m141 161 ls (.int 5 :: st) M := mj_R0 (r := (.iconst 5, 1, 0, 0, 0)) rfl rfl
theorem s141_161 {d : Nat} {ls : mj_L} {st : List Value} {M : mj_H} : mj_Rn (d + 1) mj_m141 161 ls st M = mq_k5a (d + 1) mj_m141 164 ls M 45 (mq_cb 0 1 1 st M) := mj_R5e (r := (.invokevirtual 102, 3, 0, 45, 12442)) (z := mj_m45) rfl rfl (by decide) (by decide) rfl
theorem s141_164 {d : Nat} {ls : mj_L} {st : List Value} {M : mj_H} : mj_Rn d mj_m141 164 ls st M = mq_k0 d mj_m141 165 ls M (mj_lda (mj_lk ls 0) st) := mj_R0 (r := (.aload_n 0, 1, 0, 0, 0)) rfl rfl
theorem s141_165 {d : Nat} {ls : mj_L} {st : List Value} {M : mj_H} : mj_Rn d mj_m141 165 ls st M = mq_k0 d mj_m141 168 ls M (mq_gf 5 3 st M) := (mj_R3 (r := (.getfield 31, 3, 5, 3, 16604)) rfl rfl).trans (congrArg (mq_k0 d mj_m141 168 ls M) mq_gf_eq)
theorem s141_168 {d : Nat} {ls : mj_L} {st : List Value} {M : mj_H} : mj_Rn d mj_m141 168 ls st M = mj_Rn d mj_m141 169 ls (.int 0 :: st) M := mj_R0 (r := (.iconst 0, 1, 0, 0, 0)) rfl rfl
theorem s141_169 {d : Nat} {ls : mj_L} {st : List Value} {M : mj_H} : mj_Rn d mj_m141 169 ls st M = mj_Rn d mj_m141 172 ls (.int 400 :: st) M := mj_R0 (r := (.sipush 400, 3, 0, 0, 0)) rfl rfl
theorem s141_172 {d : Nat} {ls : mj_L} {st : List Value} {M : mj_H} : mj_Rn (d + 1) mj_m141 172 ls st M = mq_k5a (d + 1) mj_m141 175 ls M 131 (mq_cb 0 2 1 st M) := mj_R5e (r := (.invokevirtual 313, 3, 0, 131, 16540)) (z := mj_m131) rfl rfl (by decide) (by decide) rfl
theorem s141_175 {d : Nat} {ls : mj_L} {st : List Value} {M : mj_H} : mj_Rn d mj_m141 175 ls st M = mq_k0 d mj_m141 176 ls M (mj_lda (mj_lk ls 0) st) := mj_R0 (r := (.aload_n 0, 1, 0, 0, 0)) rfl rfl
theorem s141_176 {d : Nat} {ls : mj_L} {st : List Value} {M : mj_H} : mj_Rn d mj_m141 176 ls st M = mq_k0 d mj_m141 179 ls M (mq_gf 5 3 st M) := (mj_R3 (r := (.getfield 31, 3, 5, 3, 16604)) rfl rfl).trans (congrArg (mq_k0 d mj_m141 179 ls M) mq_gf_eq)
theorem s141_179 {d : Nat} {ls : mj_L} {st : List Value} {M : mj_H} : mj_Rn d mj_m141 179 ls st M = mj_Rn d mj_m141 181 ls (.int 6 :: st) M := mj_R0 (r := (.bipush 6, 2, 0, 0, 0)) rfl rfl
theorem s141_181 {d : Nat} {ls : mj_L} {st : List Value} {M : mj_H} : mj_Rn (d + 1) mj_m141 181 ls st M = mq_k5a (d + 1) mj_m141 184 ls M 45 (mq_cb 0 1 1 st M) := mj_R5e (r := (.invokevirtual 102, 3, 0, 45, 12442)) (z := mj_m45) rfl rfl (by decide) (by decide) rfl
theorem s141_184 {d : Nat} {ls : mj_L} {st : List Value} {M : mj_H} : mj_Rn d mj_m141 184 ls st M = mq_k0 d mj_m141 185 ls M (mj_lda (mj_lk ls 0) st) := mj_R0 (r := (.aload_n 0, 1, 0, 0, 0)) rfl rfl
theorem s141_185 {d : Nat} {ls : mj_L} {st : List Value} {M : mj_H} : mj_Rn d mj_m141 185 ls st M = mq_k0 d mj_m141 188 ls M (mq_gf 5 3 st M) := (mj_R3 (r := (.getfield 31, 3, 5, 3, 16604)) rfl rfl).trans (congrArg (mq_k0 d mj_m141 188 ls M) mq_gf_eq)
theorem s141_188 {d : Nat} {ls : mj_L} {st : List Value} {M : mj_H} : mj_Rn d mj_m141 188 ls st M = mj_Rn d mj_m141 189 ls (.int 4 :: st) M := mj_R0 (r := (.iconst 4, 1, 0, 0, 0)) rfl rfl
theorem s141_189 {d : Nat} {ls : mj_L} {st : List Value} {M : mj_H} : mj_Rn d mj_m141 189 ls st M = mj_Rn d mj_m141 190 ls (.int 1 :: st) M := mj_R0 (r := (.iconst 1, 1, 0, 0, 0)) rfl rfl
theorem s141_190 {d : Nat} {ls : mj_L} {st : List Value} {M : mj_H} : mj_Rn (d + 1) mj_m141 190 ls st M = mq_k5a (d + 1) mj_m141 193 ls M 131 (mq_cb 0 2 1 st M) := mj_R5e (r := (.invokevirtual 313, 3, 0, 131, 16540)) (z := mj_m131) rfl rfl (by decide) (by decide) rfl
theorem s141_193 {d : Nat} {ls : mj_L} {st : List Value} {M : mj_H} : mj_Rn d mj_m141 193 ls st M = mq_k0 d mj_m141 194 ls M (mj_lda (mj_lk ls 0) st) := mj_R0 (r := (.aload_n 0, 1, 0, 0, 0)) rfl rfl
theorem s141_194 {d : Nat} {ls : mj_L} {st : List Value} {M : mj_H} : mj_Rn d mj_m141 194 ls st M = mq_k0 d mj_m141 197 ls M (mq_gf 5 3 st M) := (mj_R3 (r := (.getfield 31, 3, 5, 3, 16604)) rfl rfl).trans (congrArg (mq_k0 d mj_m141 197 ls M) mq_gf_eq)
theorem s141_197 {d : Nat} {ls : mj_L} {st : List Value} {M : mj_H} : mj_Rn d mj_m141 197 ls st M = mj_Rn d mj_m141 198 ls (.int 1 :: st) M := mj_R0 (r := (.iconst 1, 1, 0, 0, 0)) rfl rfl
theorem s141_198 {d : Nat} {ls : mj_L} {st : List Value} {M : mj_H} : mj_Rn (d + 1) mj_m141 198 ls st M = mq_k5a (d + 1) mj_m141 201 ls M 45 (mq_cb 0 1 1 st M) := mj_R5e (r := (.invokevirtual 102, 3, 0, 45, 12442)) (z := mj_m45) rfl rfl (by decide) (by decide) rfl
theorem s141_201 {d : Nat} {ls : mj_L} {st : List Value} {M : mj_H} : mj_Rn d mj_m141 201 ls st M = mq_k6 M (mj_re none (.return_) st) := mj_R6 (r := (.return_, 1, 0, 0, 0)) rfl rfl
/- 154 PasskeyHouse$Key.reset()I -/
theorem s154_0 {d : Nat} {ls : mj_L} {st : List Value} {M : mj_H} : mj_Rn d mj_m154 0 ls st M = mq_k0 d mj_m154 1 ls M (mj_lda (mj_lk ls 0) st) := mj_R0 (r := (.aload_n 0, 1, 0, 0, 0)) rfl rfl
theorem s154_1 {d : Nat} {ls : mj_L} {st : List Value} {M : mj_H} : mj_Rn d mj_m154 1 ls st M = mq_k0 d mj_m154 4 ls M (mq_gf 5 11 st M) := (mj_R3 (r := (.getfield 62, 3, 5, 11, 16622)) rfl rfl).trans (congrArg (mq_k0 d mj_m154 4 ls M) mq_gf_eq)
theorem s154_4 {d : Nat} {ls : mj_L} {st : List Value} {M : mj_H} : mj_Rn d mj_m154 4 ls st M = mq_k2 d mj_m154 ls M (mj_br (.ifCond .eq 6) 4 st) := mj_R2 (r := (.ifCond .eq 6, 3, 0, 0, 0)) rfl rfl
theorem s154_7 {d : Nat} {ls : mj_L} {st : List Value} {M : mj_H} : mj_Rn d mj_m154 7 ls st M = mj_Rn d mj_m154 9 ls (.int 48 :: st) M := mj_R0 (r := (.bipush 48, 2, 0, 0, 0)) rfl rfl
theorem s154_9 {d : Nat} {ls : mj_L} {st : List Value} {M : mj_H} : mj_Rn d mj_m154 9 ls st M = mq_k6 M (mj_re (some .int) (.ireturn) st) := mj_R6 (r := (.ireturn, 1, 0, 0, 0)) rfl rfl
theorem s154_10 {d : Nat} {ls : mj_L} {st : List Value} {M : mj_H} : mj_Rn d mj_m154 10 ls st M = mq_k0 d mj_m154 11 ls M (mj_lda (mj_lk ls 0) st) := mj_R0 (r := (.aload_n 0, 1, 0, 0, 0)) rfl rfl
theorem s154_11 {d : Nat} {ls : mj_L} {st : List Value} {M : mj_H} : mj_Rn (d + 1) mj_m154 11 ls st M = mq_k5a (d + 1) mj_m154 14 ls M 118 (mq_cb 0 0 5 st M) := mj_R5e (r := (.invokevirtual 190, 3, 0, 118, 16484)) (z := mj_m118) rfl rfl (by decide) (by decide) rfl
theorem s154_14 {d : Nat} {ls : mj_L} {st : List Value} {M : mj_H} : mj_Rn d mj_m154 14 ls st M = mq_k2 d mj_m154 ls M (mj_br (.ifCond .ne 6) 14 st) := mj_R2 (r := (.ifCond .ne 6, 3, 0, 0, 0)) rfl rfl
theorem s154_17 {d : Nat} {ls : mj_L} {st : List Value} {M : mj_H} : mj_Rn d mj_m154 17 ls st M = mj_Rn d mj_m154 19 ls (.int 39 :: st) M := mj_R0 (r := (.bipush 39, 2, 0, 0, 0)) rfl rfl
theorem s154_19 {d : Nat} {ls : mj_L} {st : List Value} {M : mj_H} : mj_Rn d mj_m154 19 ls st M = mq_k6 M (mj_re (some .int) (.ireturn) st) := mj_R6 (r := (.ireturn, 1, 0, 0, 0)) rfl rfl
theorem s154_20 {d : Nat} {ls : mj_L} {st : List Value} {M : mj_H} : mj_Rn d mj_m154 20 ls st M = mq_k0 d mj_m154 21 ls M (mj_lda (mj_lk ls 0) st) := mj_R0 (r := (.aload_n 0, 1, 0, 0, 0)) rfl rfl
theorem s154_21 {d : Nat} {ls : mj_L} {st : List Value} {M : mj_H} : mj_Rn d mj_m154 21 ls st M = mq_k0 d mj_m154 24 ls M (mq_gf 5 2 st M) := (mj_R3 (r := (.getfield 22, 3, 5, 2, 16600)) rfl rfl).trans (congrArg (mq_k0 d mj_m154 24 ls M) mq_gf_eq)
theorem s154_24 {d : Nat} {ls : mj_L} {st : List Value} {M : mj_H} : mj_Rn d mj_m154 24 ls st M = mq_k0 d mj_m154 25 ls M (mj_lda (mj_lk ls 0) st) := mj_R0 (r := (.aload_n 0, 1, 0, 0, 0)) rfl rfl
theorem s154_25 {d : Nat} {ls : mj_L} {st : List Value} {M : mj_H} : mj_Rn d mj_m154 25 ls st M = mq_k0 d mj_m154 28 ls M (mq_gf 5 0 st M) := (mj_R3 (r := (.getfield 9, 3, 5, 0, 16596)) rfl rfl).trans (congrArg (mq_k0 d mj_m154 28 ls M) mq_gf_eq)
theorem s154_28 {d : Nat} {ls : mj_L} {st : List Value} {M : mj_H} : mj_Rn (d + 1) mj_m154 28 ls st M = mq_k5a (d + 1) mj_m154 31 ls M 27 (mq_cb 0 0 9 st M) := mj_R5e (r := (.invokevirtual 38, 3, 0, 27, 8353)) (z := mj_m27) rfl rfl (by decide) (by decide) rfl
theorem s154_31 {d : Nat} {ls : mj_L} {st : List Value} {M : mj_H} : mj_Rn (d + 1) mj_m154 31 ls st M = mq_k5a (d + 1) mj_m154 34 ls M 155 (mq_cb 0 1 8 st M) := mj_R5e (r := (.invokevirtual 377, 3, 0, 155, 20509)) (z := mj_m155) rfl rfl (by decide) (by decide) rfl
theorem s154_34 {d : Nat} {ls : mj_L} {st : List Value} {M : mj_H} : mj_Rn d mj_m154 34 ls st M = mq_k2 d mj_m154 ls M (mj_br (.ifCond .eq 7) 34 st) := mj_R2 (r := (.ifCond .eq 7, 3, 0, 0, 0)) rfl rfl
theorem s154_37 {d : Nat} {ls : mj_L} {st : List Value} {M : mj_H} : mj_Rn d mj_m154 37 ls st M = mq_k0 d mj_m154 38 ls M (mj_lda (mj_lk ls 0) st) := mj_R0 (r := (.aload_n 0, 1, 0, 0, 0)) rfl rfl
theorem s154_38 {d : Nat} {ls : mj_L} {st : List Value} {M : mj_H} : mj_Rn (d + 1) mj_m154 38 ls st M = mq_k5a (d + 1) mj_m154 41 ls M 65 (mq_cb 0 0 5 st M) := mj_R5e (r := (.invokevirtual 55, 3, 0, 65, 12381)) (z := mj_m65) rfl rfl (by decide) (by decide) rfl
theorem s154_41 {d : Nat} {ls : mj_L} {st : List Value} {M : mj_H} : mj_Rn d mj_m154 41 ls st M = mj_Rn d mj_m154 42 ls (.int 0 :: st) M := mj_R0 (r := (.iconst 0, 1, 0, 0, 0)) rfl rfl
theorem s154_42 {d : Nat} {ls : mj_L} {st : List Value} {M : mj_H} : mj_Rn d mj_m154 42 ls st M = mq_k6 M (mj_re (some .int) (.ireturn) st) := mj_R6 (r := (.ireturn, 1, 0, 0, 0)) rfl rfl
theorem c141 {d : Nat} {a0 : Nat} {M : mj_H} : mj_V (d + 1) 141 [.ref a0] M = mj_Rn d mj_m141 0 [(0, .ref a0)] [] M := mj_V_go rfl (Nat.le_of_ble_eq_true rfl)
theorem c154 {d : Nat} {a0 : Nat} {M : mj_H} : mj_V (d + 1) 154 [.ref a0] M = mj_Rn d mj_m154 0 [(0, .ref a0)] [] M := mj_V_go rfl (Nat.le_of_ble_eq_true rfl)
theorem fs_last_some {cr : List Cr} {p : Int32} : ∀ {k j : Nat}, fs_last cr p k = some j → ∃ c, cr[j]? = some c ∧ c.2.1 = p ∧ j < k := by
  intro k
  induction k with
  | zero => intro j h; cases h
  | succ k ih =>
    intro j h
    unfold fs_last at h
    split at h
    · next hc =>
      cases h
      cases hq : cr[k]? with
      | none => rw [hq] at hc; cases hc
      | some c =>
        rw [hq] at hc
        exact ⟨c, rfl, by simpa using hc, Nat.lt_succ_self _⟩
    · obtain ⟨c, h1, h2, h3⟩ := ih h
      exact ⟨c, h1, h2, by omega⟩
def ky_next (k : Ky) (T : Tm) : Int32 × Ky × Tm := match fs_last k.1.1.1.1.2.2.2.2.2.2.2.2.2.2.2 k.2.2.1.1 k.2.1.2.2 with
  | none => (48, k, T)
  | some j => (0, sw (((((k.1.1.1.1, k.1.1.1.2), (k.1.1.2.1, k.1.1.2.2)), ((k.1.2.1.1, k.1.2.1.2), (k.1.2.2.1, k.1.2.2.2))), (((k.2.1.1.1, k.2.1.1.2), (k.2.1.2.1, j)), ((k.2.2.1.1, k.2.2.1.2), k.2.2.2))) : Ky) T (k.1.1.1.1.2.2.2.2.2.2.2.2.2.2.2[j]?) 0 k.2.2.1.1 k.2.2.1.2 k.2.2.2 1)
/-- INFO -/
def rpInfo (pin : Bool) : List Int32 := [165, 1, 129, 104, 70, 73, 68, 79, 95, 50, 95, 48, 3, 66, 0, 0, 4, 163, 98, 114, 107, 245, 98, 117, 112, 245, 105, 99, 108, 105, 101, 110, 116, 80, 105, 110, if pin then 245 else 244, 5, 25, 1, 144, 6, 129, 1]
def ky_reset (k : Ky) (T : Tm) : Int32 × Ky × Tm :=
  if k.2.1.2.1 then (48, k, T) else if k.1.2.1.1 = 0 then (39, k, T)
  else if (fs_move ((k.1.1.1.1.1, (k.1.1.1.1.2.1, (k.1.1.1.1.2.2.1, (k.1.1.1.1.2.2.2.1, (k.1.1.1.1.2.2.2.2.1, (k.1.1.1.1.2.2.2.2.2.1, (k.1.1.1.1.2.2.2.2.2.2.1, ((nI (tm_no T [1, nI T.2.1]), (St.none.2.1, (St.none.2.2.1, (St.none.2.2.2.1, St.none.2.2.2.2)))) : St)))))))) : Fl)).2 then (0, ky_renew ((((((fs_move ((k.1.1.1.1.1, (k.1.1.1.1.2.1, (k.1.1.1.1.2.2.1, (k.1.1.1.1.2.2.2.1, (k.1.1.1.1.2.2.2.2.1, (k.1.1.1.1.2.2.2.2.2.1, (k.1.1.1.1.2.2.2.2.2.2.1, ((nI (tm_no T [1, nI T.2.1]), (St.none.2.1, (St.none.2.2.1, (St.none.2.2.2.1, St.none.2.2.2.2)))) : St)))))))) : Fl)).1, (ky_took k).1.1.1.2), ((ky_took k).1.1.2.1, (ky_took k).1.1.2.2)), (((ky_took k).1.2.1.1, (ky_took k).1.2.1.2), ((ky_took k).1.2.2.1, (ky_took k).1.2.2.2))), ((((ky_took k).2.1.1.1, (ky_took k).2.1.1.2), ((ky_took k).2.1.2.1, (ky_took k).2.1.2.2)), (((ky_took k).2.2.1.1, (ky_took k).2.2.1.2), (ky_took k).2.2.2))) : Ky) (tm_fresh T), tm_two (tm_fresh T))
  else (0, ((((((fs_move ((k.1.1.1.1.1, (k.1.1.1.1.2.1, (k.1.1.1.1.2.2.1, (k.1.1.1.1.2.2.2.1, (k.1.1.1.1.2.2.2.2.1, (k.1.1.1.1.2.2.2.2.2.1, (k.1.1.1.1.2.2.2.2.2.2.1, ((nI (tm_no T [1, nI T.2.1]), (St.none.2.1, (St.none.2.2.1, (St.none.2.2.2.1, St.none.2.2.2.2)))) : St)))))))) : Fl)).1, (ky_took k).1.1.1.2), ((ky_took k).1.1.2.1, (ky_took k).1.1.2.2)), (((ky_took k).1.2.1.1, (ky_took k).1.2.1.2), ((ky_took k).1.2.2.1, (ky_took k).1.2.2.2))), ((((ky_took k).2.1.1.1, (ky_took k).2.1.1.2), ((ky_took k).2.1.2.1, (ky_took k).2.1.2.2)), (((ky_took k).2.2.1.1, (ky_took k).2.2.1.2), (ky_took k).2.2.2))) : Ky), tm_fresh T)
theorem low00 : bt_low 0 2 = [0, 0] := by decide
section KZ
variable {A : Nat → Prop} {κ : Nat} {M M' : mj_H} {k : Ky} {T T' : Tm} {row row' : List Int32} {d : Nat}
theorem ky_nxt (z : kz A κ M k T row) (hw : fw k.1.1.1.1) (hon : k.1.1.1.1.2.1 = true) (hf : T.1.length < 1000) (hr : k.1.1.1.2.length ≤ 1) (hlp : k.2.1.2.2 ≤ 8) : ∃ M' row', mj_V (d + 7) 156 [.ref κ] M = some (some (.int (ky_next k T).1), M') ∧ kz A κ M' (ky_next k T).2.1 (ky_next k T).2.2 row' ∧ fx (kS A κ) M M' := by
  obtain ⟨u0, x0⟩ := z.fa
  obtain ⟨r0, hr0⟩ := z.st
  have hlo := z.lo
  have hh : ¬ κ < 25 := by omega
  have v0 := st_last (d := d + 4) (party := k.2.2.1.1) hr0 (k := k.2.1.2.2) (by omega)
  unfold ky_next
  cases hq : fs_last k.1.1.1.1.2.2.2.2.2.2.2.2.2.2.2 k.2.2.1.1 k.2.1.2.2 with
  | none =>
    rw [hq, oI] at v0
    refine ⟨M, row, ?_, z, fx.rf⟩
    simp (disch := (first | omega | decide)) [c156, s156_0, s156_1, s156_4, s156_5, s156_8, s156_9, s156_12, s156_15, s156_16, s156_17, s156_18, s156_21, s156_23, s156_24, s156_25, s156_26, s156_29, s156_30, s156_31, s156_32, s156_33, s156_36, s156_37, s156_40, s156_41, s156_44, s156_45, s156_48, s156_49, mq_k0s, mq_k1s, mq_k2s, mq_k4s, mq_k5s, mq_k5n, mq_k5as, mq_k6s, mj_pu, mj_lo, mj_br, mj_hr, mj_hw, mq_gf, mq_len, mq_al, mq_pf, mq_ok, mj_re, mq_lkm, mq_lkn, mj_ldi, mj_ldl, mj_lda, mj_ii, mj_ll, mj_li, mj_i1, ms_1, ms_2, f1_n, f1_i, f1_r, f1_u, f1_l, f2_n, f2_i, f2_r, f2_u, f2_l, mj_tg, mj_c1, mj_c2, mj_ar, mj_aw, mq_cb, mq_oi, mj_rm, Value.category, -getElem?_pos, List.getElem?_cons_zero, decide_eq_true, decide_eq_false, nl_lt, nl_le, ln_lt, ln_le, nl_eq, ln_eq, nl_add, ln_add, nl_sub, ln_mul, nI_sub, nI_mul, nI_add, nI_lt_iff, nI_le_iff, nI_inj, nI_num, mq_ix, nI_1, nl_mul, nl_div, x0, v0, narrow]
  | some j =>
    rw [hq, oI] at v0
    obtain ⟨c, hc, -, hjl⟩ := fs_last_some hq
    obtain ⟨z1, f1⟩ := z.mk_o (((((k.1.1.1.1, k.1.1.1.2), (k.1.1.2.1, k.1.1.2.2)), ((k.1.2.1.1, k.1.2.1.2), (k.1.2.2.1, k.1.2.2.2))), (((k.2.1.1.1, k.2.1.1.2), (k.2.1.2.1, j)), ((k.2.2.1.1, k.2.2.1.2), k.2.2.2))) : Ky) rfl rfl rfl rfl
    obtain ⟨u1, x1⟩ := z1.fa
    have l0 := mq_lt z.ob
    obtain ⟨M2, row2, p2, z2, f2⟩ := ky_sw1 (d := d) z1 (j := j) (c := c) hc 0 k.2.2.1.1 k.2.2.1.2 k.2.2.2 1 (by decide) hw hon hf hr
    dsimp only
    rw [hc]
    refine ⟨M2, row2, ?_, z2, f1.trs f2⟩
    unfold ko at x1 p2
    dsimp only at x1 p2
    rw [show nI 1 = 1 from rfl] at p2
    simp (disch := (first | omega | decide)) [c156, s156_0, s156_1, s156_4, s156_5, s156_8, s156_9, s156_12, s156_15, s156_16, s156_17, s156_18, s156_21, s156_23, s156_24, s156_25, s156_26, s156_29, s156_30, s156_31, s156_32, s156_33, s156_36, s156_37, s156_40, s156_41, s156_44, s156_45, s156_48, s156_49, mq_k0s, mq_k1s, mq_k2s, mq_k4s, mq_k5s, mq_k5n, mq_k5as, mq_k6s, mj_pu, mj_lo, mj_br, mj_hr, mj_hw, mq_gf, mq_len, mq_al, mq_pf, mq_ok, mj_re, mq_lkm, mq_lkn, mj_ldi, mj_ldl, mj_lda, mj_ii, mj_ll, mj_li, mj_i1, ms_1, ms_2, f1_n, f1_i, f1_r, f1_u, f1_l, f2_n, f2_i, f2_r, f2_u, f2_l, mj_tg, mj_c1, mj_c2, mj_ar, mj_aw, mq_cb, mq_oi, mj_rm, Value.category, -getElem?_pos, List.getElem?_cons_zero, decide_eq_true, decide_eq_false, nl_lt, nl_le, ln_lt, ln_le, nl_eq, ln_eq, nl_add, ln_add, nl_sub, ln_mul, nI_sub, nI_mul, nI_add, nI_lt_iff, nI_le_iff, nI_inj, nI_num, mq_ix, nI_1, nl_mul, nl_div, x0, v0, nI_m1, narrow, mj_E, hh, l0, x1, p2, ko]
theorem ky_inf (z : kz A κ M k T row) (hr : k.1.1.1.2.length ≤ 1) : ∃ M', mj_V (d + 6) 141 [.ref κ] M = some (none, M') ∧ kz A κ M' (((((k.1.1.1.1, k.1.1.1.2 ++ rpInfo (!decide (k.1.1.1.1.2.2.2.2.2.2.2.2.1 = 0))), (k.1.1.2.1, k.1.1.2.2)), ((k.1.2.1.1, k.1.2.1.2), (k.1.2.2.1, k.1.2.2.2))), (((k.2.1.1.1, k.2.1.1.2), (k.2.1.2.1, k.2.1.2.2)), ((k.2.2.1.1, k.2.2.1.2), k.2.2.2))) : Ky) T row ∧ fx (kS A κ) M M' := by
  obtain ⟨u0, x0⟩ := z.fa
  have z0 := z
  have hdl : True := trivial
  obtain ⟨M1, p1, z1, f1⟩ := kz_headX (d := d + 3) z0 5 5 (k.1.1.1.2 ++ [165]) (by simp only [List.append_assoc, List.cons_append, List.nil_append, List.append_nil, h_53, h_54, h_55, h_52, h_51, h_41, h_217, h_29, h_22, h_16, h_721, h_720, h_0400, aa_1, aa_2, aa_3, aa_4, aa_5, aa_6, tx_0, tx_1, tx_2, tx_3, tx_5, tx_6, tx_7, tx_8, tx_9, tx_10]) (by simp [b4_len, hdl]; omega)
  (try dsimp only at z1)
  obtain ⟨u1, x1⟩ := z1.fa
  obtain ⟨M2, p2, z2, f2⟩ := kz_pushX (d := d + 4) z1 1 ((k.1.1.1.2 ++ [165]) ++ [1]) (by simp only [List.append_assoc, List.cons_append, List.nil_append, List.append_nil, h_53, h_54, h_55, h_52, h_51, h_41, h_217, h_29, h_22, h_16, h_721, h_720, h_0400, aa_1, aa_2, aa_3, aa_4, aa_5, aa_6, tx_0, tx_1, tx_2, tx_3, tx_5, tx_6, tx_7, tx_8, tx_9, tx_10]) (by simp [b4_len, hdl]; omega)
  (try dsimp only at z2)
  obtain ⟨u2, x2⟩ := z2.fa
  obtain ⟨M3, p3, z3, f3⟩ := kz_headX (d := d + 3) z2 4 1 (((k.1.1.1.2 ++ [165]) ++ [1]) ++ [129]) (by simp only [List.append_assoc, List.cons_append, List.nil_append, List.append_nil, h_53, h_54, h_55, h_52, h_51, h_41, h_217, h_29, h_22, h_16, h_721, h_720, h_0400, aa_1, aa_2, aa_3, aa_4, aa_5, aa_6, tx_0, tx_1, tx_2, tx_3, tx_5, tx_6, tx_7, tx_8, tx_9, tx_10]) (by simp [b4_len, hdl]; omega)
  (try dsimp only at z3)
  obtain ⟨u3, x3⟩ := z3.fa
  obtain ⟨M4, p4, z4, f4⟩ := kz_textX (d := d) (j := 9) (a := 21) z3 (by omega) ((((k.1.1.1.2 ++ [165]) ++ [1]) ++ [129]) ++ [104,  70,  73,  68,  79,  95,  50,  95,  48]) rfl (by simp only [List.append_assoc, List.cons_append, List.nil_append, List.append_nil, h_53, h_54, h_55, h_52, h_51, h_41, h_217, h_29, h_22, h_16, h_721, h_720, h_0400, aa_1, aa_2, aa_3, aa_4, aa_5, aa_6, tx_0, tx_1, tx_2, tx_3, tx_5, tx_6, tx_7, tx_8, tx_9, tx_10]) (by simp [b4_len, hdl]; omega)
  (try dsimp only at z4)
  obtain ⟨u4, x4⟩ := z4.fa
  obtain ⟨M5, p5, z5, f5⟩ := kz_pushX (d := d + 4) z4 3 (((((k.1.1.1.2 ++ [165]) ++ [1]) ++ [129]) ++ [104,  70,  73,  68,  79,  95,  50,  95,  48]) ++ [3]) (by simp only [List.append_assoc, List.cons_append, List.nil_append, List.append_nil, h_53, h_54, h_55, h_52, h_51, h_41, h_217, h_29, h_22, h_16, h_721, h_720, h_0400, aa_1, aa_2, aa_3, aa_4, aa_5, aa_6, tx_0, tx_1, tx_2, tx_3, tx_5, tx_6, tx_7, tx_8, tx_9, tx_10]) (by simp [b4_len, hdl]; omega)
  (try dsimp only at z5)
  obtain ⟨u5, x5⟩ := z5.fa
  obtain ⟨M6, p6, z6, f6⟩ := kz_headX (d := d + 3) z5 2 2 ((((((k.1.1.1.2 ++ [165]) ++ [1]) ++ [129]) ++ [104,  70,  73,  68,  79,  95,  50,  95,  48]) ++ [3]) ++ [66]) (by simp only [List.append_assoc, List.cons_append, List.nil_append, List.append_nil, h_53, h_54, h_55, h_52, h_51, h_41, h_217, h_29, h_22, h_16, h_721, h_720, h_0400, aa_1, aa_2, aa_3, aa_4, aa_5, aa_6, tx_0, tx_1, tx_2, tx_3, tx_5, tx_6, tx_7, tx_8, tx_9, tx_10]) (by simp [b4_len, hdl]; omega)
  (try dsimp only at z6)
  obtain ⟨u6, x6⟩ := z6.fa
  obtain ⟨M7, p7, z7, f7⟩ := kz_lowX (d := d + 4) (m := 2) z6 0 (k.1.1.1.2 ++ [165] ++ [1] ++ [129] ++ [104, 70, 73, 68, 79, 95, 50, 95, 48] ++ [3] ++ [66] ++ [0, 0]) (by rw [low00]) (by simp; omega)
  (try dsimp only at z7)
  obtain ⟨u7, x7⟩ := z7.fa
  obtain ⟨M8, p8, z8, f8⟩ := kz_pushX (d := d + 4) z7 4 ((k.1.1.1.2 ++ [165] ++ [1] ++ [129] ++ [104, 70, 73, 68, 79, 95, 50, 95, 48] ++ [3] ++ [66] ++ [0, 0]) ++ [4]) (by simp only [List.append_assoc, List.cons_append, List.nil_append, List.append_nil, h_53, h_54, h_55, h_52, h_51, h_41, h_217, h_29, h_22, h_16, h_721, h_720, h_0400, aa_1, aa_2, aa_3, aa_4, aa_5, aa_6, tx_0, tx_1, tx_2, tx_3, tx_5, tx_6, tx_7, tx_8, tx_9, tx_10]) (by simp [b4_len, hdl]; omega)
  (try dsimp only at z8)
  obtain ⟨u8, x8⟩ := z8.fa
  obtain ⟨M9, p9, z9, f9⟩ := kz_headX (d := d + 3) z8 5 3 (((k.1.1.1.2 ++ [165] ++ [1] ++ [129] ++ [104, 70, 73, 68, 79, 95, 50, 95, 48] ++ [3] ++ [66] ++ [0, 0]) ++ [4]) ++ [163]) (by simp only [List.append_assoc, List.cons_append, List.nil_append, List.append_nil, h_53, h_54, h_55, h_52, h_51, h_41, h_217, h_29, h_22, h_16, h_721, h_720, h_0400, aa_1, aa_2, aa_3, aa_4, aa_5, aa_6, tx_0, tx_1, tx_2, tx_3, tx_5, tx_6, tx_7, tx_8, tx_9, tx_10]) (by simp [b4_len, hdl]; omega)
  (try dsimp only at z9)
  obtain ⟨u9, x9⟩ := z9.fa
  obtain ⟨M10, p10, z10, f10⟩ := kz_textX (d := d) (j := 3) (a := 9) z9 (by omega) ((((k.1.1.1.2 ++ [165] ++ [1] ++ [129] ++ [104, 70, 73, 68, 79, 95, 50, 95, 48] ++ [3] ++ [66] ++ [0, 0]) ++ [4]) ++ [163]) ++ [98,  114,  107]) rfl (by simp only [List.append_assoc, List.cons_append, List.nil_append, List.append_nil, h_53, h_54, h_55, h_52, h_51, h_41, h_217, h_29, h_22, h_16, h_721, h_720, h_0400, aa_1, aa_2, aa_3, aa_4, aa_5, aa_6, tx_0, tx_1, tx_2, tx_3, tx_5, tx_6, tx_7, tx_8, tx_9, tx_10]) (by simp [b4_len, hdl]; omega)
  (try dsimp only at z10)
  obtain ⟨u10, x10⟩ := z10.fa
  obtain ⟨M11, p11, z11, f11⟩ := kz_headX (d := d + 3) z10 7 21 (((((k.1.1.1.2 ++ [165] ++ [1] ++ [129] ++ [104, 70, 73, 68, 79, 95, 50, 95, 48] ++ [3] ++ [66] ++ [0, 0]) ++ [4]) ++ [163]) ++ [98,  114,  107]) ++ [245]) (by simp only [List.append_assoc, List.cons_append, List.nil_append, List.append_nil, h_53, h_54, h_55, h_52, h_51, h_41, h_217, h_29, h_22, h_16, h_721, h_720, h_0400, aa_1, aa_2, aa_3, aa_4, aa_5, aa_6, tx_0, tx_1, tx_2, tx_3, tx_5, tx_6, tx_7, tx_8, tx_9, tx_10]) (by simp [b4_len, hdl]; omega)
  (try dsimp only at z11)
  obtain ⟨u11, x11⟩ := z11.fa
  obtain ⟨M12, p12, z12, f12⟩ := kz_textX (d := d) (j := 8) (a := 19) z11 (by omega) ((((((k.1.1.1.2 ++ [165] ++ [1] ++ [129] ++ [104, 70, 73, 68, 79, 95, 50, 95, 48] ++ [3] ++ [66] ++ [0, 0]) ++ [4]) ++ [163]) ++ [98,  114,  107]) ++ [245]) ++ [98,  117,  112]) rfl (by simp only [List.append_assoc, List.cons_append, List.nil_append, List.append_nil, h_53, h_54, h_55, h_52, h_51, h_41, h_217, h_29, h_22, h_16, h_721, h_720, h_0400, aa_1, aa_2, aa_3, aa_4, aa_5, aa_6, tx_0, tx_1, tx_2, tx_3, tx_5, tx_6, tx_7, tx_8, tx_9, tx_10]) (by simp [b4_len, hdl]; omega)
  (try dsimp only at z12)
  obtain ⟨u12, x12⟩ := z12.fa
  obtain ⟨M13, p13, z13, f13⟩ := kz_headX (d := d + 3) z12 7 21 (((((((k.1.1.1.2 ++ [165] ++ [1] ++ [129] ++ [104, 70, 73, 68, 79, 95, 50, 95, 48] ++ [3] ++ [66] ++ [0, 0]) ++ [4]) ++ [163]) ++ [98,  114,  107]) ++ [245]) ++ [98,  117,  112]) ++ [245]) (by simp only [List.append_assoc, List.cons_append, List.nil_append, List.append_nil, h_53, h_54, h_55, h_52, h_51, h_41, h_217, h_29, h_22, h_16, h_721, h_720, h_0400, aa_1, aa_2, aa_3, aa_4, aa_5, aa_6, tx_0, tx_1, tx_2, tx_3, tx_5, tx_6, tx_7, tx_8, tx_9, tx_10]) (by simp [b4_len, hdl]; omega)
  (try dsimp only at z13)
  obtain ⟨u13, x13⟩ := z13.fa
  obtain ⟨M14, p14, z14, f14⟩ := kz_textX (d := d) (j := 10) (a := 23) z13 (by omega) ((((((((k.1.1.1.2 ++ [165] ++ [1] ++ [129] ++ [104, 70, 73, 68, 79, 95, 50, 95, 48] ++ [3] ++ [66] ++ [0, 0]) ++ [4]) ++ [163]) ++ [98,  114,  107]) ++ [245]) ++ [98,  117,  112]) ++ [245]) ++ [105,  99,  108,  105,  101,  110,  116,  80,  105,  110]) rfl (by simp only [List.append_assoc, List.cons_append, List.nil_append, List.append_nil, h_53, h_54, h_55, h_52, h_51, h_41, h_217, h_29, h_22, h_16, h_721, h_720, h_0400, aa_1, aa_2, aa_3, aa_4, aa_5, aa_6, tx_0, tx_1, tx_2, tx_3, tx_5, tx_6, tx_7, tx_8, tx_9, tx_10]) (by simp [b4_len, hdl]; omega)
  (try dsimp only at z14)
  obtain ⟨u14, x14⟩ := z14.fa
  have e2 : nI 2 = 2 := rfl
  rw [e2] at p7
  by_cases hp : k.1.1.1.1.2.2.2.2.2.2.2.2.1 = 0
  · obtain ⟨M15, p15, z15, f15⟩ := kz_headX (d := d + 3) z14 7 20 ((k.1.1.1.2 ++ [165] ++ [1] ++ [129] ++ [104, 70, 73, 68, 79, 95, 50, 95, 48] ++ [3] ++ [66] ++ [0, 0] ++ [4] ++ [163] ++ [98, 114, 107] ++ [245] ++ [98, 117, 112] ++ [245] ++ [105, 99, 108, 105, 101, 110, 116, 80, 105, 110]) ++ [244]) (by simp only [List.append_assoc, List.cons_append, List.nil_append, List.append_nil, h_53, h_54, h_55, h_52, h_51, h_41, h_217, h_29, h_22, h_16, h_721, h_720, h_0400, aa_1, aa_2, aa_3, aa_4, aa_5, aa_6, tx_0, tx_1, tx_2, tx_3, tx_5, tx_6, tx_7, tx_8, tx_9, tx_10]) (by simp [b4_len, hdl]; omega)
    (try dsimp only at z15)
    obtain ⟨u15, x15⟩ := z15.fa
    obtain ⟨M16, p16, z16, f16⟩ := kz_pushX (d := d + 4) z15 5 (((k.1.1.1.2 ++ [165] ++ [1] ++ [129] ++ [104, 70, 73, 68, 79, 95, 50, 95, 48] ++ [3] ++ [66] ++ [0, 0] ++ [4] ++ [163] ++ [98, 114, 107] ++ [245] ++ [98, 117, 112] ++ [245] ++ [105, 99, 108, 105, 101, 110, 116, 80, 105, 110]) ++ [244]) ++ [5]) (by simp only [List.append_assoc, List.cons_append, List.nil_append, List.append_nil, h_53, h_54, h_55, h_52, h_51, h_41, h_217, h_29, h_22, h_16, h_721, h_720, h_0400, aa_1, aa_2, aa_3, aa_4, aa_5, aa_6, tx_0, tx_1, tx_2, tx_3, tx_5, tx_6, tx_7, tx_8, tx_9, tx_10]) (by simp [b4_len, hdl]; omega)
    (try dsimp only at z16)
    obtain ⟨u16, x16⟩ := z16.fa
    obtain ⟨M17, p17, z17, f17⟩ := kz_headX (d := d + 3) z16 0 400 ((((k.1.1.1.2 ++ [165] ++ [1] ++ [129] ++ [104, 70, 73, 68, 79, 95, 50, 95, 48] ++ [3] ++ [66] ++ [0, 0] ++ [4] ++ [163] ++ [98, 114, 107] ++ [245] ++ [98, 117, 112] ++ [245] ++ [105, 99, 108, 105, 101, 110, 116, 80, 105, 110]) ++ [244]) ++ [5]) ++ [25,  1,  144]) (by simp only [List.append_assoc, List.cons_append, List.nil_append, List.append_nil, h_53, h_54, h_55, h_52, h_51, h_41, h_217, h_29, h_22, h_16, h_721, h_720, h_0400, aa_1, aa_2, aa_3, aa_4, aa_5, aa_6, tx_0, tx_1, tx_2, tx_3, tx_5, tx_6, tx_7, tx_8, tx_9, tx_10]) (by simp [b4_len, hdl]; omega)
    (try dsimp only at z17)
    obtain ⟨u17, x17⟩ := z17.fa
    obtain ⟨M18, p18, z18, f18⟩ := kz_pushX (d := d + 4) z17 6 (((((k.1.1.1.2 ++ [165] ++ [1] ++ [129] ++ [104, 70, 73, 68, 79, 95, 50, 95, 48] ++ [3] ++ [66] ++ [0, 0] ++ [4] ++ [163] ++ [98, 114, 107] ++ [245] ++ [98, 117, 112] ++ [245] ++ [105, 99, 108, 105, 101, 110, 116, 80, 105, 110]) ++ [244]) ++ [5]) ++ [25,  1,  144]) ++ [6]) (by simp only [List.append_assoc, List.cons_append, List.nil_append, List.append_nil, h_53, h_54, h_55, h_52, h_51, h_41, h_217, h_29, h_22, h_16, h_721, h_720, h_0400, aa_1, aa_2, aa_3, aa_4, aa_5, aa_6, tx_0, tx_1, tx_2, tx_3, tx_5, tx_6, tx_7, tx_8, tx_9, tx_10]) (by simp [b4_len, hdl]; omega)
    (try dsimp only at z18)
    obtain ⟨u18, x18⟩ := z18.fa
    obtain ⟨M19, p19, z19, f19⟩ := kz_headX (d := d + 3) z18 4 1 ((((((k.1.1.1.2 ++ [165] ++ [1] ++ [129] ++ [104, 70, 73, 68, 79, 95, 50, 95, 48] ++ [3] ++ [66] ++ [0, 0] ++ [4] ++ [163] ++ [98, 114, 107] ++ [245] ++ [98, 117, 112] ++ [245] ++ [105, 99, 108, 105, 101, 110, 116, 80, 105, 110]) ++ [244]) ++ [5]) ++ [25,  1,  144]) ++ [6]) ++ [129]) (by simp only [List.append_assoc, List.cons_append, List.nil_append, List.append_nil, h_53, h_54, h_55, h_52, h_51, h_41, h_217, h_29, h_22, h_16, h_721, h_720, h_0400, aa_1, aa_2, aa_3, aa_4, aa_5, aa_6, tx_0, tx_1, tx_2, tx_3, tx_5, tx_6, tx_7, tx_8, tx_9, tx_10]) (by simp [b4_len, hdl]; omega)
    (try dsimp only at z19)
    obtain ⟨u19, x19⟩ := z19.fa
    obtain ⟨M20, p20, z20, f20⟩ := kz_pushX (d := d + 4) z19 1 (((((((k.1.1.1.2 ++ [165] ++ [1] ++ [129] ++ [104, 70, 73, 68, 79, 95, 50, 95, 48] ++ [3] ++ [66] ++ [0, 0] ++ [4] ++ [163] ++ [98, 114, 107] ++ [245] ++ [98, 117, 112] ++ [245] ++ [105, 99, 108, 105, 101, 110, 116, 80, 105, 110]) ++ [244]) ++ [5]) ++ [25,  1,  144]) ++ [6]) ++ [129]) ++ [1]) (by simp only [List.append_assoc, List.cons_append, List.nil_append, List.append_nil, h_53, h_54, h_55, h_52, h_51, h_41, h_217, h_29, h_22, h_16, h_721, h_720, h_0400, aa_1, aa_2, aa_3, aa_4, aa_5, aa_6, tx_0, tx_1, tx_2, tx_3, tx_5, tx_6, tx_7, tx_8, tx_9, tx_10]) (by simp [b4_len, hdl]; omega)
    (try dsimp only at z20)
    obtain ⟨u20, x20⟩ := z20.fa
    refine ⟨M20, ?_, ?_, ((((((((((((((((((((f1).trs f2).trs f3).trs f4).trs f5).trs f6).trs f7).trs f8).trs f9).trs f10).trs f11).trs f12).trs f13).trs f14).trs f15).trs f16).trs f17).trs f18).trs f19).trs f20)⟩
    · simp (disch := (first | omega | decide)) [c141, s141_0, s141_1, s141_4, s141_5, s141_6, s141_9, s141_10, s141_13, s141_14, s141_17, s141_18, s141_21, s141_22, s141_23, s141_26, s141_27, s141_30, s141_33, s141_36, s141_37, s141_40, s141_41, s141_44, s141_45, s141_48, s141_49, s141_50, s141_53, s141_54, s141_57, s141_58, s141_59, s141_62, s141_63, s141_66, s141_67, s141_70, s141_71, s141_74, s141_75, s141_76, s141_79, s141_80, s141_83, s141_85, s141_88, s141_89, s141_92, s141_94, s141_96, s141_99, s141_100, s141_103, s141_106, s141_109, s141_110, s141_113, s141_115, s141_117, s141_120, s141_121, s141_124, s141_127, s141_130, s141_131, s141_134, s141_136, s141_137, s141_140, s141_143, s141_146, s141_148, s141_151, s141_153, s141_156, s141_157, s141_160, s141_161, s141_164, s141_165, s141_168, s141_169, s141_172, s141_175, s141_176, s141_179, s141_181, s141_184, s141_185, s141_188, s141_189, s141_190, s141_193, s141_194, s141_197, s141_198, s141_201, mq_k0s, mq_k1s, mq_k2s, mq_k4s, mq_k5s, mq_k5n, mq_k5as, mq_k6s, mj_pu, mj_lo, mj_br, mj_hr, mj_hw, mq_gf, mq_len, mq_al, mq_pf, mq_ok, mj_re, mq_lkm, mq_lkn, mj_ldi, mj_ldl, mj_lda, mj_ii, mj_ll, mj_li, mj_i1, ms_1, ms_2, f1_n, f1_i, f1_r, f1_u, f1_l, f2_n, f2_i, f2_r, f2_u, f2_l, mj_tg, mj_c1, mj_c2, mj_ar, mj_aw, mq_cb, mq_oi, mj_rm, Value.category, -getElem?_pos, List.getElem?_cons_zero, decide_eq_true, decide_eq_false, nl_lt, nl_le, ln_lt, ln_le, nl_eq, ln_eq, nl_add, ln_add, nl_sub, ln_mul, nI_sub, nI_mul, nI_add, nI_lt_iff, nI_le_iff, nI_inj, nI_num, mq_ix, nI_1, nl_mul, nl_div, x0, p1, x1, p2, x2, p3, x3, p4, x4, p5, x5, p6, x6, p7, x7, p8, x8, p9, x9, p10, x10, p11, x11, p12, x12, p13, x13, p14, x14, hp, p15, x15, p16, x16, p17, x17, p18, x18, p19, x19, p20]
    · have e : k.1.1.1.2 ++ rpInfo (!decide (k.1.1.1.1.2.2.2.2.2.2.2.2.1 = 0)) = k.1.1.1.2 ++ [165] ++ [1] ++ [129] ++ [104, 70, 73, 68, 79, 95, 50, 95, 48] ++ [3] ++ [66] ++ [0, 0] ++ [4] ++ [163] ++ [98, 114, 107] ++ [245] ++ [98, 117, 112] ++ [245] ++ [105, 99, 108, 105, 101, 110, 116, 80, 105, 110] ++ [244] ++ [5] ++ [25, 1, 144] ++ [6] ++ [129] ++ [1] := by simp [rpInfo, hp]
      rw [e]; exact z20
  · obtain ⟨M15, p15, z15, f15⟩ := kz_headX (d := d + 3) z14 7 21 ((k.1.1.1.2 ++ [165] ++ [1] ++ [129] ++ [104, 70, 73, 68, 79, 95, 50, 95, 48] ++ [3] ++ [66] ++ [0, 0] ++ [4] ++ [163] ++ [98, 114, 107] ++ [245] ++ [98, 117, 112] ++ [245] ++ [105, 99, 108, 105, 101, 110, 116, 80, 105, 110]) ++ [245]) (by simp only [List.append_assoc, List.cons_append, List.nil_append, List.append_nil, h_53, h_54, h_55, h_52, h_51, h_41, h_217, h_29, h_22, h_16, h_721, h_720, h_0400, aa_1, aa_2, aa_3, aa_4, aa_5, aa_6, tx_0, tx_1, tx_2, tx_3, tx_5, tx_6, tx_7, tx_8, tx_9, tx_10]) (by simp [b4_len, hdl]; omega)
    (try dsimp only at z15)
    obtain ⟨u15, x15⟩ := z15.fa
    obtain ⟨M16, p16, z16, f16⟩ := kz_pushX (d := d + 4) z15 5 (((k.1.1.1.2 ++ [165] ++ [1] ++ [129] ++ [104, 70, 73, 68, 79, 95, 50, 95, 48] ++ [3] ++ [66] ++ [0, 0] ++ [4] ++ [163] ++ [98, 114, 107] ++ [245] ++ [98, 117, 112] ++ [245] ++ [105, 99, 108, 105, 101, 110, 116, 80, 105, 110]) ++ [245]) ++ [5]) (by simp only [List.append_assoc, List.cons_append, List.nil_append, List.append_nil, h_53, h_54, h_55, h_52, h_51, h_41, h_217, h_29, h_22, h_16, h_721, h_720, h_0400, aa_1, aa_2, aa_3, aa_4, aa_5, aa_6, tx_0, tx_1, tx_2, tx_3, tx_5, tx_6, tx_7, tx_8, tx_9, tx_10]) (by simp [b4_len, hdl]; omega)
    (try dsimp only at z16)
    obtain ⟨u16, x16⟩ := z16.fa
    obtain ⟨M17, p17, z17, f17⟩ := kz_headX (d := d + 3) z16 0 400 ((((k.1.1.1.2 ++ [165] ++ [1] ++ [129] ++ [104, 70, 73, 68, 79, 95, 50, 95, 48] ++ [3] ++ [66] ++ [0, 0] ++ [4] ++ [163] ++ [98, 114, 107] ++ [245] ++ [98, 117, 112] ++ [245] ++ [105, 99, 108, 105, 101, 110, 116, 80, 105, 110]) ++ [245]) ++ [5]) ++ [25,  1,  144]) (by simp only [List.append_assoc, List.cons_append, List.nil_append, List.append_nil, h_53, h_54, h_55, h_52, h_51, h_41, h_217, h_29, h_22, h_16, h_721, h_720, h_0400, aa_1, aa_2, aa_3, aa_4, aa_5, aa_6, tx_0, tx_1, tx_2, tx_3, tx_5, tx_6, tx_7, tx_8, tx_9, tx_10]) (by simp [b4_len, hdl]; omega)
    (try dsimp only at z17)
    obtain ⟨u17, x17⟩ := z17.fa
    obtain ⟨M18, p18, z18, f18⟩ := kz_pushX (d := d + 4) z17 6 (((((k.1.1.1.2 ++ [165] ++ [1] ++ [129] ++ [104, 70, 73, 68, 79, 95, 50, 95, 48] ++ [3] ++ [66] ++ [0, 0] ++ [4] ++ [163] ++ [98, 114, 107] ++ [245] ++ [98, 117, 112] ++ [245] ++ [105, 99, 108, 105, 101, 110, 116, 80, 105, 110]) ++ [245]) ++ [5]) ++ [25,  1,  144]) ++ [6]) (by simp only [List.append_assoc, List.cons_append, List.nil_append, List.append_nil, h_53, h_54, h_55, h_52, h_51, h_41, h_217, h_29, h_22, h_16, h_721, h_720, h_0400, aa_1, aa_2, aa_3, aa_4, aa_5, aa_6, tx_0, tx_1, tx_2, tx_3, tx_5, tx_6, tx_7, tx_8, tx_9, tx_10]) (by simp [b4_len, hdl]; omega)
    (try dsimp only at z18)
    obtain ⟨u18, x18⟩ := z18.fa
    obtain ⟨M19, p19, z19, f19⟩ := kz_headX (d := d + 3) z18 4 1 ((((((k.1.1.1.2 ++ [165] ++ [1] ++ [129] ++ [104, 70, 73, 68, 79, 95, 50, 95, 48] ++ [3] ++ [66] ++ [0, 0] ++ [4] ++ [163] ++ [98, 114, 107] ++ [245] ++ [98, 117, 112] ++ [245] ++ [105, 99, 108, 105, 101, 110, 116, 80, 105, 110]) ++ [245]) ++ [5]) ++ [25,  1,  144]) ++ [6]) ++ [129]) (by simp only [List.append_assoc, List.cons_append, List.nil_append, List.append_nil, h_53, h_54, h_55, h_52, h_51, h_41, h_217, h_29, h_22, h_16, h_721, h_720, h_0400, aa_1, aa_2, aa_3, aa_4, aa_5, aa_6, tx_0, tx_1, tx_2, tx_3, tx_5, tx_6, tx_7, tx_8, tx_9, tx_10]) (by simp [b4_len, hdl]; omega)
    (try dsimp only at z19)
    obtain ⟨u19, x19⟩ := z19.fa
    obtain ⟨M20, p20, z20, f20⟩ := kz_pushX (d := d + 4) z19 1 (((((((k.1.1.1.2 ++ [165] ++ [1] ++ [129] ++ [104, 70, 73, 68, 79, 95, 50, 95, 48] ++ [3] ++ [66] ++ [0, 0] ++ [4] ++ [163] ++ [98, 114, 107] ++ [245] ++ [98, 117, 112] ++ [245] ++ [105, 99, 108, 105, 101, 110, 116, 80, 105, 110]) ++ [245]) ++ [5]) ++ [25,  1,  144]) ++ [6]) ++ [129]) ++ [1]) (by simp only [List.append_assoc, List.cons_append, List.nil_append, List.append_nil, h_53, h_54, h_55, h_52, h_51, h_41, h_217, h_29, h_22, h_16, h_721, h_720, h_0400, aa_1, aa_2, aa_3, aa_4, aa_5, aa_6, tx_0, tx_1, tx_2, tx_3, tx_5, tx_6, tx_7, tx_8, tx_9, tx_10]) (by simp [b4_len, hdl]; omega)
    (try dsimp only at z20)
    obtain ⟨u20, x20⟩ := z20.fa
    refine ⟨M20, ?_, ?_, ((((((((((((((((((((f1).trs f2).trs f3).trs f4).trs f5).trs f6).trs f7).trs f8).trs f9).trs f10).trs f11).trs f12).trs f13).trs f14).trs f15).trs f16).trs f17).trs f18).trs f19).trs f20)⟩
    · simp (disch := (first | omega | decide)) [c141, s141_0, s141_1, s141_4, s141_5, s141_6, s141_9, s141_10, s141_13, s141_14, s141_17, s141_18, s141_21, s141_22, s141_23, s141_26, s141_27, s141_30, s141_33, s141_36, s141_37, s141_40, s141_41, s141_44, s141_45, s141_48, s141_49, s141_50, s141_53, s141_54, s141_57, s141_58, s141_59, s141_62, s141_63, s141_66, s141_67, s141_70, s141_71, s141_74, s141_75, s141_76, s141_79, s141_80, s141_83, s141_85, s141_88, s141_89, s141_92, s141_94, s141_96, s141_99, s141_100, s141_103, s141_106, s141_109, s141_110, s141_113, s141_115, s141_117, s141_120, s141_121, s141_124, s141_127, s141_130, s141_131, s141_134, s141_136, s141_137, s141_140, s141_143, s141_146, s141_148, s141_151, s141_153, s141_156, s141_157, s141_160, s141_161, s141_164, s141_165, s141_168, s141_169, s141_172, s141_175, s141_176, s141_179, s141_181, s141_184, s141_185, s141_188, s141_189, s141_190, s141_193, s141_194, s141_197, s141_198, s141_201, mq_k0s, mq_k1s, mq_k2s, mq_k4s, mq_k5s, mq_k5n, mq_k5as, mq_k6s, mj_pu, mj_lo, mj_br, mj_hr, mj_hw, mq_gf, mq_len, mq_al, mq_pf, mq_ok, mj_re, mq_lkm, mq_lkn, mj_ldi, mj_ldl, mj_lda, mj_ii, mj_ll, mj_li, mj_i1, ms_1, ms_2, f1_n, f1_i, f1_r, f1_u, f1_l, f2_n, f2_i, f2_r, f2_u, f2_l, mj_tg, mj_c1, mj_c2, mj_ar, mj_aw, mq_cb, mq_oi, mj_rm, Value.category, -getElem?_pos, List.getElem?_cons_zero, decide_eq_true, decide_eq_false, nl_lt, nl_le, ln_lt, ln_le, nl_eq, ln_eq, nl_add, ln_add, nl_sub, ln_mul, nI_sub, nI_mul, nI_add, nI_lt_iff, nI_le_iff, nI_inj, nI_num, mq_ix, nI_1, nl_mul, nl_div, x0, p1, x1, p2, x2, p3, x3, p4, x4, p5, x5, p6, x6, p7, x7, p8, x8, p9, x9, p10, x10, p11, x11, p12, x12, p13, x13, p14, x14, hp, p15, x15, p16, x16, p17, x17, p18, x18, p19, x19, p20]
    · have e : k.1.1.1.2 ++ rpInfo (!decide (k.1.1.1.1.2.2.2.2.2.2.2.2.1 = 0)) = k.1.1.1.2 ++ [165] ++ [1] ++ [129] ++ [104, 70, 73, 68, 79, 95, 50, 95, 48] ++ [3] ++ [66] ++ [0, 0] ++ [4] ++ [163] ++ [98, 114, 107] ++ [245] ++ [98, 117, 112] ++ [245] ++ [105, 99, 108, 105, 101, 110, 116, 80, 105, 110] ++ [245] ++ [5] ++ [25, 1, 144] ++ [6] ++ [129] ++ [1] := by simp [rpInfo, hp]
      rw [e]; exact z20
theorem ky_rst (z : kz A κ M k T row) (hw : fw k.1.1.1.1) (hon : k.1.1.1.1.2.1 = true) (hwt : k.1.2.1.1 ≤ 9) (hf : T.1.length < 1000) : ∃ M' row', mj_V (d + 6) 154 [.ref κ] M = some (some (.int (ky_reset k T).1), M') ∧ kz A κ M' (ky_reset k T).2.1 (ky_reset k T).2.2 row' ∧ fx (kS A κ) M M' := by
  obtain ⟨u0, x0⟩ := z.fa
  unfold ky_reset
  cases hh : k.2.1.2.1 with
  | true =>
    refine ⟨M, row, ?_, z, fx.rf⟩
    rw [hh] at x0
    simp (disch := (first | omega | decide)) [c154, s154_0, s154_1, s154_4, s154_7, s154_9, s154_10, s154_11, s154_14, s154_17, s154_19, s154_20, s154_21, s154_24, s154_25, s154_28, s154_31, s154_34, s154_37, s154_38, s154_41, s154_42, mq_k0s, mq_k1s, mq_k2s, mq_k4s, mq_k5s, mq_k5n, mq_k5as, mq_k6s, mj_pu, mj_lo, mj_br, mj_hr, mj_hw, mq_gf, mq_len, mq_al, mq_pf, mq_ok, mj_re, mq_lkm, mq_lkn, mj_ldi, mj_ldl, mj_lda, mj_ii, mj_ll, mj_li, mj_i1, ms_1, ms_2, f1_n, f1_i, f1_r, f1_u, f1_l, f2_n, f2_i, f2_r, f2_u, f2_l, mj_tg, mj_c1, mj_c2, mj_ar, mj_aw, mq_cb, mq_oi, mj_rm, Value.category, -getElem?_pos, List.getElem?_cons_zero, decide_eq_true, decide_eq_false, nl_lt, nl_le, ln_lt, ln_le, nl_eq, ln_eq, nl_add, ln_add, nl_sub, ln_mul, nI_sub, nI_mul, nI_add, nI_lt_iff, nI_le_iff, nI_inj, nI_num, mq_ix, nI_1, nl_mul, nl_div, x0, narrow]
  | false =>
  rw [hh] at x0
  rw [if_neg (by simp)]
  obtain ⟨M1, p1, z1, f1⟩ := ky_take (d := d + 4) z hwt
  obtain ⟨t1, t2, t3⟩ := tookd k
  by_cases hk : k.1.2.1.1 = 0
  · rw [if_pos hk]
    have e : ky_took k = k := by simp [ky_took, hk]
    rw [e] at z1
    refine ⟨M1, _, ?_, z1, f1⟩
    simp (disch := (first | omega | decide)) [c154, s154_0, s154_1, s154_4, s154_7, s154_9, s154_10, s154_11, s154_14, s154_17, s154_19, s154_20, s154_21, s154_24, s154_25, s154_28, s154_31, s154_34, s154_37, s154_38, s154_41, s154_42, mq_k0s, mq_k1s, mq_k2s, mq_k4s, mq_k5s, mq_k5n, mq_k5as, mq_k6s, mj_pu, mj_lo, mj_br, mj_hr, mj_hw, mq_gf, mq_len, mq_al, mq_pf, mq_ok, mj_re, mq_lkm, mq_lkn, mj_ldi, mj_ldl, mj_lda, mj_ii, mj_ll, mj_li, mj_i1, ms_1, ms_2, f1_n, f1_i, f1_r, f1_u, f1_l, f2_n, f2_i, f2_r, f2_u, f2_l, mj_tg, mj_c1, mj_c2, mj_ar, mj_aw, mq_cb, mq_oi, mj_rm, Value.category, -getElem?_pos, List.getElem?_cons_zero, decide_eq_true, decide_eq_false, nl_lt, nl_le, ln_lt, ln_le, nl_eq, ln_eq, nl_add, ln_add, nl_sub, ln_mul, nI_sub, nI_mul, nI_add, nI_lt_iff, nI_le_iff, nI_inj, nI_num, mq_ix, nI_1, nl_mul, nl_div, x0, p1, hk, on1, narrow]
  rw [if_neg hk]
  obtain ⟨u1, x1⟩ := z1.fa
  obtain ⟨M2, p2, z2, f2⟩ := kz_fresh (d := d) z1 hf
  obtain ⟨r2, hr2⟩ := z2.st
  rw [t1] at hr2
  obtain ⟨M3, r3, p3, k3, g3⟩ := st_reset (d := d) (m := nI (tm_no T [1, nI T.2.1])) hr2 hon hw.l hw.a (by have := hw.g; omega)
  obtain ⟨z3, f3⟩ := z2.mk_s k3 g3 (mj_V_gr p3)
  obtain ⟨u2, x2⟩ := z2.fa
  cases hmv : (fs_move ((k.1.1.1.1.1, (k.1.1.1.1.2.1, (k.1.1.1.1.2.2.1, (k.1.1.1.1.2.2.2.1, (k.1.1.1.1.2.2.2.2.1, (k.1.1.1.1.2.2.2.2.2.1, (k.1.1.1.1.2.2.2.2.2.2.1, ((nI (tm_no T [1, nI T.2.1]), (St.none.2.1, (St.none.2.2.1, (St.none.2.2.2.1, St.none.2.2.2.2)))) : St)))))))) : Fl)).2 with
  | false =>
    rw [hmv] at p3
    refine ⟨M3, _, ?_, by simpa using z3, (f1.trs f2).trs f3⟩
    simp (disch := (first | omega | decide)) [c154, s154_0, s154_1, s154_4, s154_7, s154_9, s154_10, s154_11, s154_14, s154_17, s154_19, s154_20, s154_21, s154_24, s154_25, s154_28, s154_31, s154_34, s154_37, s154_38, s154_41, s154_42, mq_k0s, mq_k1s, mq_k2s, mq_k4s, mq_k5s, mq_k5n, mq_k5as, mq_k6s, mj_pu, mj_lo, mj_br, mj_hr, mj_hw, mq_gf, mq_len, mq_al, mq_pf, mq_ok, mj_re, mq_lkm, mq_lkn, mj_ldi, mj_ldl, mj_lda, mj_ii, mj_ll, mj_li, mj_i1, ms_1, ms_2, f1_n, f1_i, f1_r, f1_u, f1_l, f2_n, f2_i, f2_r, f2_u, f2_l, mj_tg, mj_c1, mj_c2, mj_ar, mj_aw, mq_cb, mq_oi, mj_rm, Value.category, -getElem?_pos, List.getElem?_cons_zero, decide_eq_true, decide_eq_false, nl_lt, nl_le, ln_lt, ln_le, nl_eq, ln_eq, nl_add, ln_add, nl_sub, ln_mul, nI_sub, nI_mul, nI_add, nI_lt_iff, nI_le_iff, nI_inj, nI_num, mq_ix, nI_1, nl_mul, nl_div, x0, p1, hk, on1, x1, p2, x2, p3, narrow]
  | true =>
    rw [hmv] at p3
    obtain ⟨M4, p4, z4, f4⟩ := ky_ren (d := d + 3) z3
    obtain ⟨u3, x3⟩ := z3.fa
    refine ⟨M4, _, ?_, by simpa using z4, ((f1.trs f2).trs f3).trs f4⟩
    simp (disch := (first | omega | decide)) [c154, s154_0, s154_1, s154_4, s154_7, s154_9, s154_10, s154_11, s154_14, s154_17, s154_19, s154_20, s154_21, s154_24, s154_25, s154_28, s154_31, s154_34, s154_37, s154_38, s154_41, s154_42, mq_k0s, mq_k1s, mq_k2s, mq_k4s, mq_k5s, mq_k5n, mq_k5as, mq_k6s, mj_pu, mj_lo, mj_br, mj_hr, mj_hw, mq_gf, mq_len, mq_al, mq_pf, mq_ok, mj_re, mq_lkm, mq_lkn, mj_ldi, mj_ldl, mj_lda, mj_ii, mj_ll, mj_li, mj_i1, ms_1, ms_2, f1_n, f1_i, f1_r, f1_u, f1_l, f2_n, f2_i, f2_r, f2_u, f2_l, mj_tg, mj_c1, mj_c2, mj_ar, mj_aw, mq_cb, mq_oi, mj_rm, Value.category, -getElem?_pos, List.getElem?_cons_zero, decide_eq_true, decide_eq_false, nl_lt, nl_le, ln_lt, ln_le, nl_eq, ln_eq, nl_add, ln_add, nl_sub, ln_mul, nI_sub, nI_mul, nI_add, nI_lt_iff, nI_le_iff, nI_inj, nI_num, mq_ix, nI_1, nl_mul, nl_div, x0, p1, hk, on1, x1, p2, x2, p3, x3, p4, narrow]
end KZ
end
/- 90.key10 -/
section
set_option maxRecDepth 512
/-! Class: Key: SIGN. -/
/- 135 PasskeyHouse$Key.sign()I -/
theorem s135_0 {d : Nat} {ls : mj_L} {st : List Value} {M : mj_H} : mj_Rn d mj_m135 0 ls st M = mq_k0 d mj_m135 1 ls M (mj_lda (mj_lk ls 0) st) := mj_R0 (r := (.aload_n 0, 1, 0, 0, 0)) rfl rfl
theorem s135_1 {d : Nat} {ls : mj_L} {st : List Value} {M : mj_H} : mj_Rn (d + 1) mj_m135 1 ls st M = mq_k5a (d + 1) mj_m135 4 ls M 136 (mq_cb 0 0 5 st M) := mj_R5e (r := (.invokevirtual 334, 3, 0, 136, 16567)) (z := mj_m136) rfl rfl (by decide) (by decide) rfl
theorem s135_4 {d : Nat} {ls : mj_L} {st : List Value} {M : mj_H} : mj_Rn d mj_m135 4 ls st M = mq_k1 d mj_m135 5 M (mj_lo 11 (.istore 1) ls st) := (mj_R1 (r := (.istore_n 1, 1, 0, 0, 0)) rfl rfl).trans (congrArg (mq_k1 d mj_m135 5 M) (mq_sti (k := 1)))
theorem s135_5 {d : Nat} {ls : mj_L} {st : List Value} {M : mj_H} : mj_Rn d mj_m135 5 ls st M = mq_k0 d mj_m135 6 ls M (mj_ldi (mj_lk ls 1) st) := mj_R0 (r := (.iload_n 1, 1, 0, 0, 0)) rfl rfl
theorem s135_6 {d : Nat} {ls : mj_L} {st : List Value} {M : mj_H} : mj_Rn d mj_m135 6 ls st M = mq_k2 d mj_m135 ls M (mj_br (.ifCond .eq 5) 6 st) := mj_R2 (r := (.ifCond .eq 5, 3, 0, 0, 0)) rfl rfl
theorem s135_9 {d : Nat} {ls : mj_L} {st : List Value} {M : mj_H} : mj_Rn d mj_m135 9 ls st M = mq_k0 d mj_m135 10 ls M (mj_ldi (mj_lk ls 1) st) := mj_R0 (r := (.iload_n 1, 1, 0, 0, 0)) rfl rfl
theorem s135_10 {d : Nat} {ls : mj_L} {st : List Value} {M : mj_H} : mj_Rn d mj_m135 10 ls st M = mq_k6 M (mj_re (some .int) (.ireturn) st) := mj_R6 (r := (.ireturn, 1, 0, 0, 0)) rfl rfl
theorem s135_11 {d : Nat} {ls : mj_L} {st : List Value} {M : mj_H} : mj_Rn d mj_m135 11 ls st M = mq_k0 d mj_m135 12 ls M (mj_lda (mj_lk ls 0) st) := mj_R0 (r := (.aload_n 0, 1, 0, 0, 0)) rfl rfl
theorem s135_12 {d : Nat} {ls : mj_L} {st : List Value} {M : mj_H} : mj_Rn d mj_m135 12 ls st M = mq_k0 d mj_m135 15 ls M (mq_gf 5 1 st M) := (mj_R3 (r := (.getfield 15, 3, 5, 1, 16598)) rfl rfl).trans (congrArg (mq_k0 d mj_m135 15 ls M) mq_gf_eq)
theorem s135_15 {d : Nat} {ls : mj_L} {st : List Value} {M : mj_H} : mj_Rn d mj_m135 15 ls st M = mq_k0 d mj_m135 16 ls M (mj_lda (mj_lk ls 0) st) := mj_R0 (r := (.aload_n 0, 1, 0, 0, 0)) rfl rfl
theorem s135_16 {d : Nat} {ls : mj_L} {st : List Value} {M : mj_H} : mj_Rn d mj_m135 16 ls st M = mq_k0 d mj_m135 19 ls M (mq_gf 5 1 st M) := (mj_R3 (r := (.getfield 15, 3, 5, 1, 16598)) rfl rfl).trans (congrArg (mq_k0 d mj_m135 19 ls M) mq_gf_eq)
theorem s135_19 {d : Nat} {ls : mj_L} {st : List Value} {M : mj_H} : mj_Rn d mj_m135 19 ls st M = mj_Rn d mj_m135 20 ls (.int 0 :: st) M := mj_R0 (r := (.iconst 0, 1, 0, 0, 0)) rfl rfl
theorem s135_20 {d : Nat} {ls : mj_L} {st : List Value} {M : mj_H} : mj_Rn d mj_m135 20 ls st M = mj_Rn d mj_m135 21 ls (.int 2 :: st) M := mj_R0 (r := (.iconst 2, 1, 0, 0, 0)) rfl rfl
theorem s135_21 {d : Nat} {ls : mj_L} {st : List Value} {M : mj_H} : mj_Rn (d + 1) mj_m135 21 ls st M = mq_k5a (d + 1) mj_m135 24 ls M 87 (mq_cb 0 2 4 st M) := mj_R5e (r := (.invokevirtual 209, 3, 0, 87, 12485)) (z := mj_m87) rfl rfl (by decide) (by decide) rfl
theorem s135_24 {d : Nat} {ls : mj_L} {st : List Value} {M : mj_H} : mj_Rn (d + 1) mj_m135 24 ls st M = mq_k5a (d + 1) mj_m135 27 ls M 109 (mq_cb 0 1 4 st M) := mj_R5e (r := (.invokevirtual 177, 3, 0, 109, 16440)) (z := mj_m109) rfl rfl (by decide) (by decide) rfl
theorem s135_27 {d : Nat} {ls : mj_L} {st : List Value} {M : mj_H} : mj_Rn d mj_m135 27 ls st M = mq_k1 d mj_m135 28 M (mj_lo 11 (.istore 2) ls st) := (mj_R1 (r := (.istore_n 2, 1, 0, 0, 0)) rfl rfl).trans (congrArg (mq_k1 d mj_m135 28 M) (mq_sti (k := 2)))
theorem s135_28 {d : Nat} {ls : mj_L} {st : List Value} {M : mj_H} : mj_Rn d mj_m135 28 ls st M = mq_k0 d mj_m135 29 ls M (mj_lda (mj_lk ls 0) st) := mj_R0 (r := (.aload_n 0, 1, 0, 0, 0)) rfl rfl
theorem s135_29 {d : Nat} {ls : mj_L} {st : List Value} {M : mj_H} : mj_Rn d mj_m135 29 ls st M = mq_k0 d mj_m135 32 ls M (mq_gf 5 1 st M) := (mj_R3 (r := (.getfield 15, 3, 5, 1, 16598)) rfl rfl).trans (congrArg (mq_k0 d mj_m135 32 ls M) mq_gf_eq)
theorem s135_32 {d : Nat} {ls : mj_L} {st : List Value} {M : mj_H} : mj_Rn d mj_m135 32 ls st M = mj_Rn d mj_m135 33 ls (.int 0 :: st) M := mj_R0 (r := (.iconst 0, 1, 0, 0, 0)) rfl rfl
theorem s135_33 {d : Nat} {ls : mj_L} {st : List Value} {M : mj_H} : mj_Rn d mj_m135 33 ls st M = mj_Rn d mj_m135 34 ls (.int 5 :: st) M := mj_R0 (r := (.iconst 5, 1, 0, 0, 0)) rfl rfl
theorem s135_34 {d : Nat} {ls : mj_L} {st : List Value} {M : mj_H} : mj_Rn (d + 1) mj_m135 34 ls st M = mq_k5a (d + 1) mj_m135 37 ls M 87 (mq_cb 0 2 4 st M) := mj_R5e (r := (.invokevirtual 209, 3, 0, 87, 12485)) (z := mj_m87) rfl rfl (by decide) (by decide) rfl
theorem s135_37 {d : Nat} {ls : mj_L} {st : List Value} {M : mj_H} : mj_Rn d mj_m135 37 ls st M = mq_k1 d mj_m135 38 M (mj_lo 11 (.istore 3) ls st) := (mj_R1 (r := (.istore_n 3, 1, 0, 0, 0)) rfl rfl).trans (congrArg (mq_k1 d mj_m135 38 M) (mq_sti (k := 3)))
theorem s135_38 {d : Nat} {ls : mj_L} {st : List Value} {M : mj_H} : mj_Rn d mj_m135 38 ls st M = mq_k0 d mj_m135 39 ls M (mj_lda (mj_lk ls 0) st) := mj_R0 (r := (.aload_n 0, 1, 0, 0, 0)) rfl rfl
theorem s135_39 {d : Nat} {ls : mj_L} {st : List Value} {M : mj_H} : mj_Rn d mj_m135 39 ls st M = mq_k0 d mj_m135 42 ls M (mq_gf 5 1 st M) := (mj_R3 (r := (.getfield 15, 3, 5, 1, 16598)) rfl rfl).trans (congrArg (mq_k0 d mj_m135 42 ls M) mq_gf_eq)
theorem s135_42 {d : Nat} {ls : mj_L} {st : List Value} {M : mj_H} : mj_Rn d mj_m135 42 ls st M = mj_Rn d mj_m135 43 ls (.int 0 :: st) M := mj_R0 (r := (.iconst 0, 1, 0, 0, 0)) rfl rfl
theorem s135_43 {d : Nat} {ls : mj_L} {st : List Value} {M : mj_H} : mj_Rn d mj_m135 43 ls st M = mj_Rn d mj_m135 45 ls (.int 6 :: st) M := mj_R0 (r := (.bipush 6, 2, 0, 0, 0)) rfl rfl
theorem s135_45 {d : Nat} {ls : mj_L} {st : List Value} {M : mj_H} : mj_Rn (d + 1) mj_m135 45 ls st M = mq_k5a (d + 1) mj_m135 48 ls M 87 (mq_cb 0 2 4 st M) := mj_R5e (r := (.invokevirtual 209, 3, 0, 87, 12485)) (z := mj_m87) rfl rfl (by decide) (by decide) rfl
theorem s135_48 {d : Nat} {ls : mj_L} {st : List Value} {M : mj_H} : mj_Rn d mj_m135 48 ls st M = mq_k1 d mj_m135 50 M (mj_lo 11 (.istore 4) ls st) := mj_R1 (r := (.istore 4, 2, 0, 0, 0)) rfl rfl
theorem s135_50 {d : Nat} {ls : mj_L} {st : List Value} {M : mj_H} : mj_Rn d mj_m135 50 ls st M = mj_Rn d mj_m135 51 ls (.int 0 :: st) M := mj_R0 (r := (.iconst 0, 1, 0, 0, 0)) rfl rfl
theorem s135_51 {d : Nat} {ls : mj_L} {st : List Value} {M : mj_H} : mj_Rn d mj_m135 51 ls st M = mq_k1 d mj_m135 53 M (mj_lo 11 (.istore 5) ls st) := mj_R1 (r := (.istore 5, 2, 0, 0, 0)) rfl rfl
theorem s135_53 {d : Nat} {ls : mj_L} {st : List Value} {M : mj_H} : mj_Rn d mj_m135 53 ls st M = mq_k0 d mj_m135 54 ls M (mj_lda (mj_lk ls 0) st) := mj_R0 (r := (.aload_n 0, 1, 0, 0, 0)) rfl rfl
theorem s135_54 {d : Nat} {ls : mj_L} {st : List Value} {M : mj_H} : mj_Rn d mj_m135 54 ls st M = mq_k0 d mj_m135 57 ls M (mq_gf 5 1 st M) := (mj_R3 (r := (.getfield 15, 3, 5, 1, 16598)) rfl rfl).trans (congrArg (mq_k0 d mj_m135 57 ls M) mq_gf_eq)
theorem s135_57 {d : Nat} {ls : mj_L} {st : List Value} {M : mj_H} : mj_Rn d mj_m135 57 ls st M = mq_k0 d mj_m135 58 ls M (mj_lda (mj_lk ls 0) st) := mj_R0 (r := (.aload_n 0, 1, 0, 0, 0)) rfl rfl
theorem s135_58 {d : Nat} {ls : mj_L} {st : List Value} {M : mj_H} : mj_Rn d mj_m135 58 ls st M = mq_k0 d mj_m135 61 ls M (mq_gf 5 1 st M) := (mj_R3 (r := (.getfield 15, 3, 5, 1, 16598)) rfl rfl).trans (congrArg (mq_k0 d mj_m135 61 ls M) mq_gf_eq)
theorem s135_61 {d : Nat} {ls : mj_L} {st : List Value} {M : mj_H} : mj_Rn d mj_m135 61 ls st M = mq_k0 d mj_m135 62 ls M (mj_ldi (mj_lk ls 3) st) := mj_R0 (r := (.iload_n 3, 1, 0, 0, 0)) rfl rfl
theorem s135_62 {d : Nat} {ls : mj_L} {st : List Value} {M : mj_H} : mj_Rn d mj_m135 62 ls st M = mj_Rn d mj_m135 64 ls (.ref 11 :: st) M := mj_R3 (r := (.ldc 221, 2, 2, 9, 16431)) rfl rfl
theorem s135_64 {d : Nat} {ls : mj_L} {st : List Value} {M : mj_H} : mj_Rn (d + 1) mj_m135 64 ls st M = mq_k5a (d + 1) mj_m135 67 ls M 90 (mq_cb 0 2 4 st M) := mj_R5e (r := (.invokevirtual 173, 3, 0, 90, 12498)) (z := mj_m90) rfl rfl (by decide) (by decide) rfl
theorem s135_67 {d : Nat} {ls : mj_L} {st : List Value} {M : mj_H} : mj_Rn (d + 1) mj_m135 67 ls st M = mq_k5a (d + 1) mj_m135 70 ls M 120 (mq_cb 0 1 4 st M) := mj_R5e (r := (.invokevirtual 223, 3, 0, 120, 16492)) (z := mj_m120) rfl rfl (by decide) (by decide) rfl
theorem s135_70 {d : Nat} {ls : mj_L} {st : List Value} {M : mj_H} : mj_Rn d mj_m135 70 ls st M = mq_k2 d mj_m135 ls M (mj_br (.ifCond .eq 6) 70 st) := mj_R2 (r := (.ifCond .eq 6, 3, 0, 0, 0)) rfl rfl
theorem s135_73 {d : Nat} {ls : mj_L} {st : List Value} {M : mj_H} : mj_Rn d mj_m135 73 ls st M = mj_Rn d mj_m135 75 ls (.int 43 :: st) M := mj_R0 (r := (.bipush 43, 2, 0, 0, 0)) rfl rfl
theorem s135_75 {d : Nat} {ls : mj_L} {st : List Value} {M : mj_H} : mj_Rn d mj_m135 75 ls st M = mq_k6 M (mj_re (some .int) (.ireturn) st) := mj_R6 (r := (.ireturn, 1, 0, 0, 0)) rfl rfl
theorem s135_76 {d : Nat} {ls : mj_L} {st : List Value} {M : mj_H} : mj_Rn d mj_m135 76 ls st M = mq_k0 d mj_m135 78 ls M (mj_ldi (mj_lk ls 4) st) := mj_R0 (r := (.iload 4, 2, 0, 0, 0)) rfl rfl
theorem s135_78 {d : Nat} {ls : mj_L} {st : List Value} {M : mj_H} : mj_Rn d mj_m135 78 ls st M = mj_Rn d mj_m135 79 ls (.int (-1) :: st) M := mj_R0 (r := (.iconst (-1), 1, 0, 0, 0)) rfl rfl
theorem s135_79 {d : Nat} {ls : mj_L} {st : List Value} {M : mj_H} : mj_Rn d mj_m135 79 ls st M = mq_k2 d mj_m135 ls M (mj_br (.if_icmp .eq 36) 79 st) := mj_R2 (r := (.if_icmp .eq 36, 3, 0, 0, 0)) rfl rfl
theorem s135_82 {d : Nat} {ls : mj_L} {st : List Value} {M : mj_H} : mj_Rn d mj_m135 82 ls st M = mq_k0 d mj_m135 83 ls M (mj_lda (mj_lk ls 0) st) := mj_R0 (r := (.aload_n 0, 1, 0, 0, 0)) rfl rfl
theorem s135_83 {d : Nat} {ls : mj_L} {st : List Value} {M : mj_H} : mj_Rn d mj_m135 83 ls st M = mq_k0 d mj_m135 85 ls M (mj_ldi (mj_lk ls 4) st) := mj_R0 (r := (.iload 4, 2, 0, 0, 0)) rfl rfl
theorem s135_85 {d : Nat} {ls : mj_L} {st : List Value} {M : mj_H} : mj_Rn d mj_m135 85 ls st M = mq_k0 d mj_m135 86 ls M (mj_lda (mj_lk ls 0) st) := mj_R0 (r := (.aload_n 0, 1, 0, 0, 0)) rfl rfl
theorem s135_86 {d : Nat} {ls : mj_L} {st : List Value} {M : mj_H} : mj_Rn d mj_m135 86 ls st M = mq_k0 d mj_m135 89 ls M (mq_gf 5 1 st M) := (mj_R3 (r := (.getfield 15, 3, 5, 1, 16598)) rfl rfl).trans (congrArg (mq_k0 d mj_m135 89 ls M) mq_gf_eq)
theorem s135_89 {d : Nat} {ls : mj_L} {st : List Value} {M : mj_H} : mj_Rn d mj_m135 89 ls st M = mj_Rn d mj_m135 90 ls (.int 0 :: st) M := mj_R0 (r := (.iconst 0, 1, 0, 0, 0)) rfl rfl
theorem s135_90 {d : Nat} {ls : mj_L} {st : List Value} {M : mj_H} : mj_Rn d mj_m135 90 ls st M = mj_Rn d mj_m135 92 ls (.int 7 :: st) M := mj_R0 (r := (.bipush 7, 2, 0, 0, 0)) rfl rfl
theorem s135_92 {d : Nat} {ls : mj_L} {st : List Value} {M : mj_H} : mj_Rn (d + 1) mj_m135 92 ls st M = mq_k5a (d + 1) mj_m135 95 ls M 87 (mq_cb 0 2 4 st M) := mj_R5e (r := (.invokevirtual 209, 3, 0, 87, 12485)) (z := mj_m87) rfl rfl (by decide) (by decide) rfl
theorem s135_95 {d : Nat} {ls : mj_L} {st : List Value} {M : mj_H} : mj_Rn d mj_m135 95 ls st M = mq_k0 d mj_m135 96 ls M (mj_ldi (mj_lk ls 2) st) := mj_R0 (r := (.iload_n 2, 1, 0, 0, 0)) rfl rfl
theorem s135_96 {d : Nat} {ls : mj_L} {st : List Value} {M : mj_H} : mj_Rn (d + 1) mj_m135 96 ls st M = mq_k5a (d + 1) mj_m135 99 ls M 121 (mq_cb 0 3 5 st M) := mj_R5e (r := (.invokevirtual 226, 3, 0, 121, 16496)) (z := mj_m121) rfl rfl (by decide) (by decide) rfl
theorem s135_99 {d : Nat} {ls : mj_L} {st : List Value} {M : mj_H} : mj_Rn d mj_m135 99 ls st M = mq_k1 d mj_m135 101 M (mj_lo 11 (.istore 6) ls st) := mj_R1 (r := (.istore 6, 2, 0, 0, 0)) rfl rfl
theorem s135_101 {d : Nat} {ls : mj_L} {st : List Value} {M : mj_H} : mj_Rn d mj_m135 101 ls st M = mq_k0 d mj_m135 103 ls M (mj_ldi (mj_lk ls 6) st) := mj_R0 (r := (.iload 6, 2, 0, 0, 0)) rfl rfl
theorem s135_103 {d : Nat} {ls : mj_L} {st : List Value} {M : mj_H} : mj_Rn d mj_m135 103 ls st M = mq_k2 d mj_m135 ls M (mj_br (.ifCond .eq 6) 103 st) := mj_R2 (r := (.ifCond .eq 6, 3, 0, 0, 0)) rfl rfl
theorem s135_106 {d : Nat} {ls : mj_L} {st : List Value} {M : mj_H} : mj_Rn d mj_m135 106 ls st M = mq_k0 d mj_m135 108 ls M (mj_ldi (mj_lk ls 6) st) := mj_R0 (r := (.iload 6, 2, 0, 0, 0)) rfl rfl
theorem s135_108 {d : Nat} {ls : mj_L} {st : List Value} {M : mj_H} : mj_Rn d mj_m135 108 ls st M = mq_k6 M (mj_re (some .int) (.ireturn) st) := mj_R6 (r := (.ireturn, 1, 0, 0, 0)) rfl rfl
theorem s135_109 {d : Nat} {ls : mj_L} {st : List Value} {M : mj_H} : mj_Rn d mj_m135 109 ls st M = mq_k0 d mj_m135 111 ls M (mj_ldi (mj_lk ls 5) st) := mj_R0 (r := (.iload 5, 2, 0, 0, 0)) rfl rfl
theorem s135_111 {d : Nat} {ls : mj_L} {st : List Value} {M : mj_H} : mj_Rn d mj_m135 111 ls st M = mj_Rn d mj_m135 112 ls (.int 4 :: st) M := mj_R0 (r := (.iconst 4, 1, 0, 0, 0)) rfl rfl
theorem s135_112 {d : Nat} {ls : mj_L} {st : List Value} {M : mj_H} : mj_Rn d mj_m135 112 ls st M = mq_k0 d mj_m135 113 ls M (mj_pu .ior ls st) := mj_R0 (r := (.ior, 1, 0, 0, 0)) rfl rfl
theorem s135_113 {d : Nat} {ls : mj_L} {st : List Value} {M : mj_H} : mj_Rn d mj_m135 113 ls st M = mq_k1 d mj_m135 115 M (mj_lo 11 (.istore 5) ls st) := mj_R1 (r := (.istore 5, 2, 0, 0, 0)) rfl rfl
theorem s135_115 {d : Nat} {ls : mj_L} {st : List Value} {M : mj_H} : mj_Rn d mj_m135 115 ls st M = mq_k0 d mj_m135 116 ls M (mj_lda (mj_lk ls 0) st) := mj_R0 (r := (.aload_n 0, 1, 0, 0, 0)) rfl rfl
theorem s135_116 {d : Nat} {ls : mj_L} {st : List Value} {M : mj_H} : mj_Rn d mj_m135 116 ls st M = mq_k0 d mj_m135 119 ls M (mq_gf 5 1 st M) := (mj_R3 (r := (.getfield 15, 3, 5, 1, 16598)) rfl rfl).trans (congrArg (mq_k0 d mj_m135 119 ls M) mq_gf_eq)
theorem s135_119 {d : Nat} {ls : mj_L} {st : List Value} {M : mj_H} : mj_Rn d mj_m135 119 ls st M = mj_Rn d mj_m135 120 ls (.int 0 :: st) M := mj_R0 (r := (.iconst 0, 1, 0, 0, 0)) rfl rfl
theorem s135_120 {d : Nat} {ls : mj_L} {st : List Value} {M : mj_H} : mj_Rn d mj_m135 120 ls st M = mj_Rn d mj_m135 121 ls (.int 3 :: st) M := mj_R0 (r := (.iconst 3, 1, 0, 0, 0)) rfl rfl
theorem s135_121 {d : Nat} {ls : mj_L} {st : List Value} {M : mj_H} : mj_Rn (d + 1) mj_m135 121 ls st M = mq_k5a (d + 1) mj_m135 124 ls M 87 (mq_cb 0 2 4 st M) := mj_R5e (r := (.invokevirtual 209, 3, 0, 87, 12485)) (z := mj_m87) rfl rfl (by decide) (by decide) rfl
theorem s135_124 {d : Nat} {ls : mj_L} {st : List Value} {M : mj_H} : mj_Rn d mj_m135 124 ls st M = mq_k1 d mj_m135 126 M (mj_lo 11 (.istore 6) ls st) := mj_R1 (r := (.istore 6, 2, 0, 0, 0)) rfl rfl
theorem s135_126 {d : Nat} {ls : mj_L} {st : List Value} {M : mj_H} : mj_Rn d mj_m135 126 ls st M = mq_k0 d mj_m135 127 ls M (mj_lda (mj_lk ls 0) st) := mj_R0 (r := (.aload_n 0, 1, 0, 0, 0)) rfl rfl
theorem s135_127 {d : Nat} {ls : mj_L} {st : List Value} {M : mj_H} : mj_Rn d mj_m135 127 ls st M = mq_k0 d mj_m135 128 ls M (mj_lda (mj_lk ls 0) st) := mj_R0 (r := (.aload_n 0, 1, 0, 0, 0)) rfl rfl
theorem s135_128 {d : Nat} {ls : mj_L} {st : List Value} {M : mj_H} : mj_Rn d mj_m135 128 ls st M = mq_k0 d mj_m135 131 ls M (mq_gf 5 1 st M) := (mj_R3 (r := (.getfield 15, 3, 5, 1, 16598)) rfl rfl).trans (congrArg (mq_k0 d mj_m135 131 ls M) mq_gf_eq)
theorem s135_131 {d : Nat} {ls : mj_L} {st : List Value} {M : mj_H} : mj_Rn d mj_m135 131 ls st M = mj_Rn d mj_m135 132 ls (.int 0 :: st) M := mj_R0 (r := (.iconst 0, 1, 0, 0, 0)) rfl rfl
theorem s135_132 {d : Nat} {ls : mj_L} {st : List Value} {M : mj_H} : mj_Rn d mj_m135 132 ls st M = mj_Rn d mj_m135 133 ls (.int 1 :: st) M := mj_R0 (r := (.iconst 1, 1, 0, 0, 0)) rfl rfl
theorem s135_133 {d : Nat} {ls : mj_L} {st : List Value} {M : mj_H} : mj_Rn (d + 1) mj_m135 133 ls st M = mq_k5a (d + 1) mj_m135 136 ls M 87 (mq_cb 0 2 4 st M) := mj_R5e (r := (.invokevirtual 209, 3, 0, 87, 12485)) (z := mj_m87) rfl rfl (by decide) (by decide) rfl
theorem s135_136 {d : Nat} {ls : mj_L} {st : List Value} {M : mj_H} : mj_Rn (d + 1) mj_m135 136 ls st M = mq_k5a (d + 1) mj_m135 139 ls M 111 (mq_cb 0 1 5 st M) := mj_R5e (r := (.invokevirtual 212, 3, 0, 111, 16448)) (z := mj_m111) rfl rfl (by decide) (by decide) rfl
theorem s135_139 {d : Nat} {ls : mj_L} {st : List Value} {M : mj_H} : mj_Rn d mj_m135 139 ls st M = mq_k1 d mj_m135 141 M (mj_lo 11 (.istore 7) ls st) := mj_R1 (r := (.istore 7, 2, 0, 0, 0)) rfl rfl
theorem s135_141 {d : Nat} {ls : mj_L} {st : List Value} {M : mj_H} : mj_Rn d mj_m135 141 ls st M = mq_k0 d mj_m135 142 ls M (mj_lda (mj_lk ls 0) st) := mj_R0 (r := (.aload_n 0, 1, 0, 0, 0)) rfl rfl
theorem s135_142 {d : Nat} {ls : mj_L} {st : List Value} {M : mj_H} : mj_Rn d mj_m135 142 ls st M = mq_k0 d mj_m135 145 ls M (mq_gf 5 1 st M) := (mj_R3 (r := (.getfield 15, 3, 5, 1, 16598)) rfl rfl).trans (congrArg (mq_k0 d mj_m135 145 ls M) mq_gf_eq)
theorem s135_145 {d : Nat} {ls : mj_L} {st : List Value} {M : mj_H} : mj_Rn d mj_m135 145 ls st M = mq_k0 d mj_m135 147 ls M (mj_ldi (mj_lk ls 6) st) := mj_R0 (r := (.iload 6, 2, 0, 0, 0)) rfl rfl
theorem s135_147 {d : Nat} {ls : mj_L} {st : List Value} {M : mj_H} : mj_Rn (d + 1) mj_m135 147 ls st M = mq_k5a (d + 1) mj_m135 150 ls M 88 (mq_cb 0 1 4 st M) := mj_R5e (r := (.invokevirtual 154, 3, 0, 88, 16458)) (z := mj_m88) rfl rfl (by decide) (by decide) rfl
theorem s135_150 {d : Nat} {ls : mj_L} {st : List Value} {M : mj_H} : mj_Rn d mj_m135 150 ls st M = mq_k2 d mj_m135 ls M (mj_br (.ifCond .le 7) 150 st) := mj_R2 (r := (.ifCond .le 7, 3, 0, 0, 0)) rfl rfl
theorem s135_153 {d : Nat} {ls : mj_L} {st : List Value} {M : mj_H} : mj_Rn d mj_m135 153 ls st M = mj_Rn d mj_m135 154 ls (.int 1 :: st) M := mj_R0 (r := (.iconst 1, 1, 0, 0, 0)) rfl rfl
theorem s135_154 {d : Nat} {ls : mj_L} {st : List Value} {M : mj_H} : mj_Rn d mj_m135 154 ls st M = mj_Rn d mj_m135 158 ls st M := mj_R2 (r := (.goto 4, 3, 0, 0, 0)) rfl rfl
theorem s135_157 {d : Nat} {ls : mj_L} {st : List Value} {M : mj_H} : mj_Rn d mj_m135 157 ls st M = mj_Rn d mj_m135 158 ls (.int 0 :: st) M := mj_R0 (r := (.iconst 0, 1, 0, 0, 0)) rfl rfl
theorem s135_158 {d : Nat} {ls : mj_L} {st : List Value} {M : mj_H} : mj_Rn d mj_m135 158 ls st M = mq_k1 d mj_m135 160 M (mj_lo 11 (.istore 8) ls st) := mj_R1 (r := (.istore 8, 2, 0, 0, 0)) rfl rfl
theorem s135_160 {d : Nat} {ls : mj_L} {st : List Value} {M : mj_H} : mj_Rn d mj_m135 160 ls st M = mq_k0 d mj_m135 162 ls M (mj_ldi (mj_lk ls 8) st) := mj_R0 (r := (.iload 8, 2, 0, 0, 0)) rfl rfl
theorem s135_162 {d : Nat} {ls : mj_L} {st : List Value} {M : mj_H} : mj_Rn d mj_m135 162 ls st M = mq_k2 d mj_m135 ls M (mj_br (.ifCond .eq 14) 162 st) := mj_R2 (r := (.ifCond .eq 14, 3, 0, 0, 0)) rfl rfl
theorem s135_165 {d : Nat} {ls : mj_L} {st : List Value} {M : mj_H} : mj_Rn d mj_m135 165 ls st M = mq_k0 d mj_m135 166 ls M (mj_lda (mj_lk ls 0) st) := mj_R0 (r := (.aload_n 0, 1, 0, 0, 0)) rfl rfl
theorem s135_166 {d : Nat} {ls : mj_L} {st : List Value} {M : mj_H} : mj_Rn d mj_m135 166 ls st M = mq_k0 d mj_m135 168 ls M (mj_ldi (mj_lk ls 6) st) := mj_R0 (r := (.iload 6, 2, 0, 0, 0)) rfl rfl
theorem s135_168 {d : Nat} {ls : mj_L} {st : List Value} {M : mj_H} : mj_Rn d mj_m135 168 ls st M = mq_k0 d mj_m135 170 ls M (mj_ldi (mj_lk ls 7) st) := mj_R0 (r := (.iload 7, 2, 0, 0, 0)) rfl rfl
theorem s135_170 {d : Nat} {ls : mj_L} {st : List Value} {M : mj_H} : mj_Rn (d + 1) mj_m135 170 ls st M = mq_k5a (d + 1) mj_m135 173 ls M 114 (mq_cb 0 2 5 st M) := mj_R5e (r := (.invokevirtual 215, 3, 0, 114, 16465)) (z := mj_m114) rfl rfl (by decide) (by decide) rfl
theorem s135_173 {d : Nat} {ls : mj_L} {st : List Value} {M : mj_H} : mj_Rn d mj_m135 173 ls st M = mj_Rn d mj_m135 177 ls st M := mj_R2 (r := (.goto 4, 3, 0, 0, 0)) rfl rfl
theorem s135_176 {d : Nat} {ls : mj_L} {st : List Value} {M : mj_H} : mj_Rn d mj_m135 176 ls st M = mj_Rn d mj_m135 177 ls (.int 0 :: st) M := mj_R0 (r := (.iconst 0, 1, 0, 0, 0)) rfl rfl
theorem s135_177 {d : Nat} {ls : mj_L} {st : List Value} {M : mj_H} : mj_Rn d mj_m135 177 ls st M = mq_k1 d mj_m135 179 M (mj_lo 11 (.istore 9) ls st) := mj_R1 (r := (.istore 9, 2, 0, 0, 0)) rfl rfl
theorem s135_179 {d : Nat} {ls : mj_L} {st : List Value} {M : mj_H} : mj_Rn d mj_m135 179 ls st M = mq_k0 d mj_m135 181 ls M (mj_ldi (mj_lk ls 8) st) := mj_R0 (r := (.iload 8, 2, 0, 0, 0)) rfl rfl
theorem s135_181 {d : Nat} {ls : mj_L} {st : List Value} {M : mj_H} : mj_Rn d mj_m135 181 ls st M = mq_k2 d mj_m135 ls M (mj_br (.ifCond .eq 14) 181 st) := mj_R2 (r := (.ifCond .eq 14, 3, 0, 0, 0)) rfl rfl
theorem s135_184 {d : Nat} {ls : mj_L} {st : List Value} {M : mj_H} : mj_Rn d mj_m135 184 ls st M = mq_k0 d mj_m135 185 ls M (mj_lda (mj_lk ls 0) st) := mj_R0 (r := (.aload_n 0, 1, 0, 0, 0)) rfl rfl
theorem s135_185 {d : Nat} {ls : mj_L} {st : List Value} {M : mj_H} : mj_Rn d mj_m135 185 ls st M = mq_k0 d mj_m135 187 ls M (mj_ldi (mj_lk ls 9) st) := mj_R0 (r := (.iload 9, 2, 0, 0, 0)) rfl rfl
theorem s135_187 {d : Nat} {ls : mj_L} {st : List Value} {M : mj_H} : mj_Rn d mj_m135 187 ls st M = mq_k0 d mj_m135 189 ls M (mj_ldi (mj_lk ls 7) st) := mj_R0 (r := (.iload 7, 2, 0, 0, 0)) rfl rfl
theorem s135_189 {d : Nat} {ls : mj_L} {st : List Value} {M : mj_H} : mj_Rn (d + 1) mj_m135 189 ls st M = mq_k5a (d + 1) mj_m135 192 ls M 116 (mq_cb 0 2 5 st M) := mj_R5e (r := (.invokevirtual 184, 3, 0, 116, 16474)) (z := mj_m116) rfl rfl (by decide) (by decide) rfl
theorem s135_192 {d : Nat} {ls : mj_L} {st : List Value} {M : mj_H} : mj_Rn d mj_m135 192 ls st M = mj_Rn d mj_m135 211 ls st M := mj_R2 (r := (.goto 19, 3, 0, 0, 0)) rfl rfl
theorem s135_195 {d : Nat} {ls : mj_L} {st : List Value} {M : mj_H} : mj_Rn d mj_m135 195 ls st M = mq_k0 d mj_m135 196 ls M (mj_lda (mj_lk ls 0) st) := mj_R0 (r := (.aload_n 0, 1, 0, 0, 0)) rfl rfl
theorem s135_196 {d : Nat} {ls : mj_L} {st : List Value} {M : mj_H} : mj_Rn d mj_m135 196 ls st M = mq_k0 d mj_m135 199 ls M (mq_gf 5 2 st M) := (mj_R3 (r := (.getfield 22, 3, 5, 2, 16600)) rfl rfl).trans (congrArg (mq_k0 d mj_m135 199 ls M) mq_gf_eq)
theorem s135_199 {d : Nat} {ls : mj_L} {st : List Value} {M : mj_H} : mj_Rn d mj_m135 199 ls st M = mq_k0 d mj_m135 200 ls M (mj_lda (mj_lk ls 0) st) := mj_R0 (r := (.aload_n 0, 1, 0, 0, 0)) rfl rfl
theorem s135_200 {d : Nat} {ls : mj_L} {st : List Value} {M : mj_H} : mj_Rn d mj_m135 200 ls st M = mq_k0 d mj_m135 203 ls M (mq_gf 5 2 st M) := (mj_R3 (r := (.getfield 22, 3, 5, 2, 16600)) rfl rfl).trans (congrArg (mq_k0 d mj_m135 203 ls M) mq_gf_eq)
theorem s135_203 {d : Nat} {ls : mj_L} {st : List Value} {M : mj_H} : mj_Rn d mj_m135 203 ls st M = mq_k0 d mj_m135 206 ls M (mq_gf 8 14 st M) := (mj_R3 (r := (.getfield 337, 3, 8, 14, 16529)) rfl rfl).trans (congrArg (mq_k0 d mj_m135 206 ls M) mq_gf_eq)
theorem s135_206 {d : Nat} {ls : mj_L} {st : List Value} {M : mj_H} : mj_Rn d mj_m135 206 ls st M = mq_k0 d mj_m135 208 ls M (mj_ldi (mj_lk ls 7) st) := mj_R0 (r := (.iload 7, 2, 0, 0, 0)) rfl rfl
theorem s135_208 {d : Nat} {ls : mj_L} {st : List Value} {M : mj_H} : mj_Rn (d + 1) mj_m135 208 ls st M = mq_k5a (d + 1) mj_m135 211 ls M 137 (mq_cb 0 2 8 st M) := mj_R5e (r := (.invokevirtual 340, 3, 0, 137, 16572)) (z := mj_m137) rfl rfl (by decide) (by decide) rfl
theorem s135_211 {d : Nat} {ls : mj_L} {st : List Value} {M : mj_H} : mj_Rn d mj_m135 211 ls st M = mq_k1 d mj_m135 213 M (mj_lo 11 (.istore 10) ls st) := mj_R1 (r := (.istore 10, 2, 0, 0, 0)) rfl rfl
theorem s135_213 {d : Nat} {ls : mj_L} {st : List Value} {M : mj_H} : mj_Rn d mj_m135 213 ls st M = mq_k0 d mj_m135 215 ls M (mj_ldi (mj_lk ls 10) st) := mj_R0 (r := (.iload 10, 2, 0, 0, 0)) rfl rfl
theorem s135_215 {d : Nat} {ls : mj_L} {st : List Value} {M : mj_H} : mj_Rn d mj_m135 215 ls st M = mj_Rn d mj_m135 216 ls (.int (-1) :: st) M := mj_R0 (r := (.iconst (-1), 1, 0, 0, 0)) rfl rfl
theorem s135_216 {d : Nat} {ls : mj_L} {st : List Value} {M : mj_H} : mj_Rn d mj_m135 216 ls st M = mq_k2 d mj_m135 ls M (mj_br (.if_icmp .ne 6) 216 st) := mj_R2 (r := (.if_icmp .ne 6, 3, 0, 0, 0)) rfl rfl
theorem s135_219 {d : Nat} {ls : mj_L} {st : List Value} {M : mj_H} : mj_Rn d mj_m135 219 ls st M = mj_Rn d mj_m135 221 ls (.int 46 :: st) M := mj_R0 (r := (.bipush 46, 2, 0, 0, 0)) rfl rfl
theorem s135_221 {d : Nat} {ls : mj_L} {st : List Value} {M : mj_H} : mj_Rn d mj_m135 221 ls st M = mq_k6 M (mj_re (some .int) (.ireturn) st) := mj_R6 (r := (.ireturn, 1, 0, 0, 0)) rfl rfl
theorem s135_222 {d : Nat} {ls : mj_L} {st : List Value} {M : mj_H} : mj_Rn d mj_m135 222 ls st M = mq_k0 d mj_m135 223 ls M (mj_lda (mj_lk ls 0) st) := mj_R0 (r := (.aload_n 0, 1, 0, 0, 0)) rfl rfl
theorem s135_223 {d : Nat} {ls : mj_L} {st : List Value} {M : mj_H} : mj_Rn d mj_m135 223 ls st M = mq_k0 d mj_m135 226 ls M (mq_gf 5 1 st M) := (mj_R3 (r := (.getfield 15, 3, 5, 1, 16598)) rfl rfl).trans (congrArg (mq_k0 d mj_m135 226 ls M) mq_gf_eq)
theorem s135_226 {d : Nat} {ls : mj_L} {st : List Value} {M : mj_H} : mj_Rn d mj_m135 226 ls st M = mq_k0 d mj_m135 227 ls M (mj_lda (mj_lk ls 0) st) := mj_R0 (r := (.aload_n 0, 1, 0, 0, 0)) rfl rfl
theorem s135_227 {d : Nat} {ls : mj_L} {st : List Value} {M : mj_H} : mj_Rn d mj_m135 227 ls st M = mq_k0 d mj_m135 230 ls M (mq_gf 5 1 st M) := (mj_R3 (r := (.getfield 15, 3, 5, 1, 16598)) rfl rfl).trans (congrArg (mq_k0 d mj_m135 230 ls M) mq_gf_eq)
theorem s135_230 {d : Nat} {ls : mj_L} {st : List Value} {M : mj_H} : mj_Rn d mj_m135 230 ls st M = mq_k0 d mj_m135 231 ls M (mj_ldi (mj_lk ls 3) st) := mj_R0 (r := (.iload_n 3, 1, 0, 0, 0)) rfl rfl
theorem s135_231 {d : Nat} {ls : mj_L} {st : List Value} {M : mj_H} : mj_Rn d mj_m135 231 ls st M = mj_Rn d mj_m135 234 ls (.ref 19 :: st) M := mj_R3 (r := (.ldc_w 343, 3, 2, 16, 16571)) rfl rfl
theorem s135_234 {d : Nat} {ls : mj_L} {st : List Value} {M : mj_H} : mj_Rn (d + 1) mj_m135 234 ls st M = mq_k5a (d + 1) mj_m135 237 ls M 90 (mq_cb 0 2 4 st M) := mj_R5e (r := (.invokevirtual 173, 3, 0, 90, 12498)) (z := mj_m90) rfl rfl (by decide) (by decide) rfl
theorem s135_237 {d : Nat} {ls : mj_L} {st : List Value} {M : mj_H} : mj_Rn (d + 1) mj_m135 237 ls st M = mq_k5a (d + 1) mj_m135 240 ls M 138 (mq_cb 0 1 4 st M) := mj_R5e (r := (.invokevirtual 345, 3, 0, 138, 16576)) (z := mj_m138) rfl rfl (by decide) (by decide) rfl
theorem s135_240 {d : Nat} {ls : mj_L} {st : List Value} {M : mj_H} : mj_Rn d mj_m135 240 ls st M = mq_k2 d mj_m135 ls M (mj_br (.ifCond .ne 19) 240 st) := mj_R2 (r := (.ifCond .ne 19, 3, 0, 0, 0)) rfl rfl
theorem s135_243 {d : Nat} {ls : mj_L} {st : List Value} {M : mj_H} : mj_Rn d mj_m135 243 ls st M = mq_k0 d mj_m135 244 ls M (mj_lda (mj_lk ls 0) st) := mj_R0 (r := (.aload_n 0, 1, 0, 0, 0)) rfl rfl
theorem s135_244 {d : Nat} {ls : mj_L} {st : List Value} {M : mj_H} : mj_Rn (d + 1) mj_m135 244 ls st M = mq_k5a (d + 1) mj_m135 247 ls M 118 (mq_cb 0 0 5 st M) := mj_R5e (r := (.invokevirtual 190, 3, 0, 118, 16484)) (z := mj_m118) rfl rfl (by decide) (by decide) rfl
theorem s135_247 {d : Nat} {ls : mj_L} {st : List Value} {M : mj_H} : mj_Rn d mj_m135 247 ls st M = mq_k2 d mj_m135 ls M (mj_br (.ifCond .ne 6) 247 st) := mj_R2 (r := (.ifCond .ne 6, 3, 0, 0, 0)) rfl rfl
theorem s135_250 {d : Nat} {ls : mj_L} {st : List Value} {M : mj_H} : mj_Rn d mj_m135 250 ls st M = mj_Rn d mj_m135 252 ls (.int 39 :: st) M := mj_R0 (r := (.bipush 39, 2, 0, 0, 0)) rfl rfl
theorem s135_252 {d : Nat} {ls : mj_L} {st : List Value} {M : mj_H} : mj_Rn d mj_m135 252 ls st M = mq_k6 M (mj_re (some .int) (.ireturn) st) := mj_R6 (r := (.ireturn, 1, 0, 0, 0)) rfl rfl
theorem s135_253 {d : Nat} {ls : mj_L} {st : List Value} {M : mj_H} : mj_Rn d mj_m135 253 ls st M = mq_k0 d mj_m135 255 ls M (mj_ldi (mj_lk ls 5) st) := mj_R0 (r := (.iload 5, 2, 0, 0, 0)) rfl rfl
theorem s135_255 {d : Nat} {ls : mj_L} {st : List Value} {M : mj_H} : mj_Rn d mj_m135 255 ls st M = mj_Rn d mj_m135 256 ls (.int 1 :: st) M := mj_R0 (r := (.iconst 1, 1, 0, 0, 0)) rfl rfl
theorem s135_256 {d : Nat} {ls : mj_L} {st : List Value} {M : mj_H} : mj_Rn d mj_m135 256 ls st M = mq_k0 d mj_m135 257 ls M (mj_pu .ior ls st) := mj_R0 (r := (.ior, 1, 0, 0, 0)) rfl rfl
theorem s135_257 {d : Nat} {ls : mj_L} {st : List Value} {M : mj_H} : mj_Rn d mj_m135 257 ls st M = mq_k1 d mj_m135 259 M (mj_lo 11 (.istore 5) ls st) := mj_R1 (r := (.istore 5, 2, 0, 0, 0)) rfl rfl
theorem s135_259 {d : Nat} {ls : mj_L} {st : List Value} {M : mj_H} : mj_Rn d mj_m135 259 ls st M = mq_k0 d mj_m135 261 ls M (mj_ldi (mj_lk ls 8) st) := mj_R0 (r := (.iload 8, 2, 0, 0, 0)) rfl rfl
theorem s135_261 {d : Nat} {ls : mj_L} {st : List Value} {M : mj_H} : mj_Rn d mj_m135 261 ls st M = mq_k2 d mj_m135 ls M (mj_br (.ifCond .ne 26) 261 st) := mj_R2 (r := (.ifCond .ne 26, 3, 0, 0, 0)) rfl rfl
theorem s135_264 {d : Nat} {ls : mj_L} {st : List Value} {M : mj_H} : mj_Rn d mj_m135 264 ls st M = mq_k0 d mj_m135 265 ls M (mj_lda (mj_lk ls 0) st) := mj_R0 (r := (.aload_n 0, 1, 0, 0, 0)) rfl rfl
theorem s135_265 {d : Nat} {ls : mj_L} {st : List Value} {M : mj_H} : mj_Rn d mj_m135 265 ls st M = mq_k0 d mj_m135 267 ls M (mj_ldi (mj_lk ls 10) st) := mj_R0 (r := (.iload 10, 2, 0, 0, 0)) rfl rfl
theorem s135_267 {d : Nat} {ls : mj_L} {st : List Value} {M : mj_H} : mj_Rn d mj_m135 267 ls st M = mq_k4 d mj_m135 270 ls (mq_pf 5 12 0 st M) := (mj_R4 (r := (.putfield 58, 3, 5, 12, 16624)) rfl rfl).trans (congrArg (mq_k4 d mj_m135 270 ls) (mq_pf_eq rfl rfl))
theorem s135_270 {d : Nat} {ls : mj_L} {st : List Value} {M : mj_H} : mj_Rn d mj_m135 270 ls st M = mq_k0 d mj_m135 271 ls M (mj_lda (mj_lk ls 0) st) := mj_R0 (r := (.aload_n 0, 1, 0, 0, 0)) rfl rfl
theorem s135_271 {d : Nat} {ls : mj_L} {st : List Value} {M : mj_H} : mj_Rn d mj_m135 271 ls st M = mq_k0 d mj_m135 273 ls M (mj_ldi (mj_lk ls 7) st) := mj_R0 (r := (.iload 7, 2, 0, 0, 0)) rfl rfl
theorem s135_273 {d : Nat} {ls : mj_L} {st : List Value} {M : mj_H} : mj_Rn d mj_m135 273 ls st M = mq_k4 d mj_m135 276 ls (mq_pf 5 13 0 st M) := (mj_R4 (r := (.putfield 348, 3, 5, 13, 16626)) rfl rfl).trans (congrArg (mq_k4 d mj_m135 276 ls) (mq_pf_eq rfl rfl))
theorem s135_276 {d : Nat} {ls : mj_L} {st : List Value} {M : mj_H} : mj_Rn d mj_m135 276 ls st M = mq_k0 d mj_m135 277 ls M (mj_lda (mj_lk ls 0) st) := mj_R0 (r := (.aload_n 0, 1, 0, 0, 0)) rfl rfl
theorem s135_277 {d : Nat} {ls : mj_L} {st : List Value} {M : mj_H} : mj_Rn d mj_m135 277 ls st M = mq_k0 d mj_m135 278 ls M (mj_ldi (mj_lk ls 2) st) := mj_R0 (r := (.iload_n 2, 1, 0, 0, 0)) rfl rfl
theorem s135_278 {d : Nat} {ls : mj_L} {st : List Value} {M : mj_H} : mj_Rn d mj_m135 278 ls st M = mq_k4 d mj_m135 281 ls (mq_pf 5 14 0 st M) := (mj_R4 (r := (.putfield 351, 3, 5, 14, 16628)) rfl rfl).trans (congrArg (mq_k4 d mj_m135 281 ls) (mq_pf_eq rfl rfl))
theorem s135_281 {d : Nat} {ls : mj_L} {st : List Value} {M : mj_H} : mj_Rn d mj_m135 281 ls st M = mq_k0 d mj_m135 282 ls M (mj_lda (mj_lk ls 0) st) := mj_R0 (r := (.aload_n 0, 1, 0, 0, 0)) rfl rfl
theorem s135_282 {d : Nat} {ls : mj_L} {st : List Value} {M : mj_H} : mj_Rn d mj_m135 282 ls st M = mq_k0 d mj_m135 284 ls M (mj_ldi (mj_lk ls 5) st) := mj_R0 (r := (.iload 5, 2, 0, 0, 0)) rfl rfl
theorem s135_284 {d : Nat} {ls : mj_L} {st : List Value} {M : mj_H} : mj_Rn d mj_m135 284 ls st M = mq_k4 d mj_m135 287 ls (mq_pf 5 15 0 st M) := (mj_R4 (r := (.putfield 354, 3, 5, 15, 16630)) rfl rfl).trans (congrArg (mq_k4 d mj_m135 287 ls) (mq_pf_eq rfl rfl))
theorem s135_287 {d : Nat} {ls : mj_L} {st : List Value} {M : mj_H} : mj_Rn d mj_m135 287 ls st M = mq_k0 d mj_m135 288 ls M (mj_lda (mj_lk ls 0) st) := mj_R0 (r := (.aload_n 0, 1, 0, 0, 0)) rfl rfl
theorem s135_288 {d : Nat} {ls : mj_L} {st : List Value} {M : mj_H} : mj_Rn d mj_m135 288 ls st M = mq_k0 d mj_m135 290 ls M (mj_ldi (mj_lk ls 10) st) := mj_R0 (r := (.iload 10, 2, 0, 0, 0)) rfl rfl
theorem s135_290 {d : Nat} {ls : mj_L} {st : List Value} {M : mj_H} : mj_Rn d mj_m135 290 ls st M = mq_k0 d mj_m135 292 ls M (mj_ldi (mj_lk ls 9) st) := mj_R0 (r := (.iload 9, 2, 0, 0, 0)) rfl rfl
theorem s135_292 {d : Nat} {ls : mj_L} {st : List Value} {M : mj_H} : mj_Rn d mj_m135 292 ls st M = mq_k0 d mj_m135 294 ls M (mj_ldi (mj_lk ls 7) st) := mj_R0 (r := (.iload 7, 2, 0, 0, 0)) rfl rfl
theorem s135_294 {d : Nat} {ls : mj_L} {st : List Value} {M : mj_H} : mj_Rn d mj_m135 294 ls st M = mq_k0 d mj_m135 295 ls M (mj_ldi (mj_lk ls 2) st) := mj_R0 (r := (.iload_n 2, 1, 0, 0, 0)) rfl rfl
theorem s135_295 {d : Nat} {ls : mj_L} {st : List Value} {M : mj_H} : mj_Rn d mj_m135 295 ls st M = mq_k0 d mj_m135 297 ls M (mj_ldi (mj_lk ls 5) st) := mj_R0 (r := (.iload 5, 2, 0, 0, 0)) rfl rfl
theorem s135_297 {d : Nat} {ls : mj_L} {st : List Value} {M : mj_H} : mj_Rn d mj_m135 297 ls st M = mq_k0 d mj_m135 299 ls M (mj_ldi (mj_lk ls 8) st) := mj_R0 (r := (.iload 8, 2, 0, 0, 0)) rfl rfl
theorem s135_299 {d : Nat} {ls : mj_L} {st : List Value} {M : mj_H} : mj_Rn d mj_m135 299 ls st M = mq_k2 d mj_m135 ls M (mj_br (.ifCond .eq 7) 299 st) := mj_R2 (r := (.ifCond .eq 7, 3, 0, 0, 0)) rfl rfl
theorem s135_302 {d : Nat} {ls : mj_L} {st : List Value} {M : mj_H} : mj_Rn d mj_m135 302 ls st M = mj_Rn d mj_m135 303 ls (.int 0 :: st) M := mj_R0 (r := (.iconst 0, 1, 0, 0, 0)) rfl rfl
theorem s135_303 {d : Nat} {ls : mj_L} {st : List Value} {M : mj_H} : mj_Rn d mj_m135 303 ls st M = mj_Rn d mj_m135 315 ls st M := mj_R2 (r := (.goto 12, 3, 0, 0, 0)) rfl rfl
theorem s135_306 {d : Nat} {ls : mj_L} {st : List Value} {M : mj_H} : mj_Rn d mj_m135 306 ls st M = mq_k0 d mj_m135 307 ls M (mj_lda (mj_lk ls 0) st) := mj_R0 (r := (.aload_n 0, 1, 0, 0, 0)) rfl rfl
theorem s135_307 {d : Nat} {ls : mj_L} {st : List Value} {M : mj_H} : mj_Rn d mj_m135 307 ls st M = mq_k0 d mj_m135 310 ls M (mq_gf 5 2 st M) := (mj_R3 (r := (.getfield 22, 3, 5, 2, 16600)) rfl rfl).trans (congrArg (mq_k0 d mj_m135 310 ls M) mq_gf_eq)
theorem s135_310 {d : Nat} {ls : mj_L} {st : List Value} {M : mj_H} : mj_Rn d mj_m135 310 ls st M = mq_k0 d mj_m135 312 ls M (mj_ldi (mj_lk ls 7) st) := mj_R0 (r := (.iload 7, 2, 0, 0, 0)) rfl rfl
theorem s135_312 {d : Nat} {ls : mj_L} {st : List Value} {M : mj_H} : mj_Rn (d + 1) mj_m135 312 ls st M = mq_k5a (d + 1) mj_m135 315 ls M 139 (mq_cb 0 1 8 st M) := mj_R5e (r := (.invokevirtual 357, 3, 0, 139, 16580)) (z := mj_m139) rfl rfl (by decide) (by decide) rfl
theorem s135_315 {d : Nat} {ls : mj_L} {st : List Value} {M : mj_H} : mj_Rn (d + 1) mj_m135 315 ls st M = mq_k5a (d + 1) mj_m135 318 ls M 140 (mq_cb 0 6 5 st M) := mj_R5e (r := (.invokevirtual 360, 3, 0, 140, 16584)) (z := mj_m140) rfl rfl (by decide) (by decide) rfl
theorem s135_318 {d : Nat} {ls : mj_L} {st : List Value} {M : mj_H} : mj_Rn d mj_m135 318 ls st M = mj_Rn d mj_m135 319 ls (.int 0 :: st) M := mj_R0 (r := (.iconst 0, 1, 0, 0, 0)) rfl rfl
theorem s135_319 {d : Nat} {ls : mj_L} {st : List Value} {M : mj_H} : mj_Rn d mj_m135 319 ls st M = mq_k6 M (mj_re (some .int) (.ireturn) st) := mj_R6 (r := (.ireturn, 1, 0, 0, 0)) rfl rfl
theorem c135 {d : Nat} {a0 : Nat} {M : mj_H} : mj_V (d + 1) 135 [.ref a0] M = mj_Rn d mj_m135 0 [(0, .ref a0)] [] M := mj_V_go rfl (Nat.le_of_ble_eq_true rfl)
def sg_party (T : Tm) (ms : List Int32) : Int32 := nI (tm_ix T.1 (7 :: oBy ms (mem ms 1)))
def sg_pin (ms : List Int32) (k : Ky) (T : Tm) : Int32 × Ky := if mem ms 6 = none then (0, k) else pnTest k T ms (mem ms 6) (mem ms 7) (o4 ms (mem ms 2))
def sg_asks (ms : List Int32) : Bool := !oSim ms 20 (cbNm ms up_ (mem ms 5))
def sg_f0 (ms : List Int32) : Int32 := if mem ms 6 = none then 0 else 4
def sg_fl (ms : List Int32) : Int32 := if sg_asks ms then sg_f0 ms ||| 1 else sg_f0 ms
def sg_tk (ms : List Int32) (k : Ky) : Ky := if sg_asks ms then ky_took k else k
/-- the key signs with what an id in the list says -/
def sg_list (ms : List Int32) (k : Ky) (T : Tm) : Int32 × Ky × Tm :=
  if ky_wh k T (ky_fo k T ms (sg_party T ms) (mem ms 3)) (sg_party T ms) = -1 then (46, k, T)
  else if sg_asks ms = true ∧ k.1.2.1.1 = 0 then (39, k, T)
  else (0, sw (sg_tk ms k) T ((fs_id k.1.1.1.1.2.2.2.2.2.2.2.2.2.2.2 (ky_fo k T ms (sg_party T ms) (mem ms 3)) (sg_party T ms)).bind (fun j => k.1.1.1.1.2.2.2.2.2.2.2.2.2.2.2[j]?)) (ky_fo k T ms (sg_party T ms) (mem ms 3)) (sg_party T ms) (o4 ms (mem ms 2)) (sg_fl ms) 0)
/-- with the latest of the party -/
def sg_all (ms : List Int32) (k : Ky) (T : Tm) : Int32 × Ky × Tm := match fs_last k.1.1.1.1.2.2.2.2.2.2.2.2.2.2.2 (sg_party T ms) k.1.1.1.1.2.2.2.2.2.2.2.2.2.2.2.length with
  | none => (46, k, T)
  | some j => if sg_asks ms = true ∧ k.1.2.1.1 = 0 then (39, k, T)
    else (0, sw ((((((sg_tk ms k).1.1.1.1, (sg_tk ms k).1.1.1.2), ((sg_tk ms k).1.1.2.1, (sg_tk ms k).1.1.2.2)), (((sg_tk ms k).1.2.1.1, (sg_tk ms k).1.2.1.2), ((sg_tk ms k).1.2.2.1, (sg_tk ms k).1.2.2.2))), ((((sg_tk ms k).2.1.1.1, (sg_tk ms k).2.1.1.2), ((sg_tk ms k).2.1.2.1, j)), ((sg_party T ms, o4 ms (mem ms 2)), sg_fl ms))) : Ky) T (k.1.1.1.1.2.2.2.2.2.2.2.2.2.2.2[j]?) 0 (sg_party T ms) (o4 ms (mem ms 2)) (sg_fl ms) (fs_many k.1.1.1.1.2.2.2.2.2.2.2.2.2.2.2 (sg_party T ms)))
def sg_end (ms : List Int32) (k : Ky) (T : Tm) : Int32 × Ky × Tm := if oVn ms (mem ms 3) = 0 then sg_all ms k T else sg_list ms k T
def ky_sign (ms : List Int32) (k : Ky) (T : Tm) : Int32 × Ky × Tm :=
  if sgFault ms ≠ 0 then (sgFault ms, k, T)
  else if oSim ms 21 (cbNm ms uv_ (mem ms 5)) then (43, k, T)
  else if (sg_pin ms k T).1 ≠ 0 then ((sg_pin ms k T).1, (sg_pin ms k T).2, T)
  else sg_end ms k T
theorem sgFault_ok {ms : List Int32} (h : sgFault ms = 0) : (∃ p, mem ms 1 = some p ∧ cbS ms p = 3) ∧ oFit ms 4 (mem ms 3) = true := by
  unfold sgFault at h
  split at h
  · cases h
  · next hf =>
    split at h
    · cases h
    · next hn =>
      simp only [sgFit, Bool.and_eq_true, Bool.not_eq_false] at hf
      simp only [not_or] at hn
      refine ⟨?_, cbLf_4 hf.2.2.1⟩
      cases hc : mem ms 1 with
      | none => exact absurd hc hn.1
      | some p =>
        have := hf.1
        rw [hc] at this
        exact ⟨p, rfl, by simpa [oFit] using this⟩
theorem tk_s (ms : List Int32) (k : Ky) : (sg_tk ms k).1.1.1.1 = k.1.1.1.1 ∧ (sg_tk ms k).1.1.1.2 = k.1.1.1.2 := by
  unfold sg_tk
  obtain ⟨t1, t2, t3⟩ := tookd k
  split
  · exact ⟨t1, t2⟩
  · exact ⟨rfl, rfl⟩
theorem fs_many_le (cr : List Cr) (p : Int32) : fs_many cr p ≤ cr.length := List.countP_le_length
section KZ
variable {A : Nat → Prop} {κ : Nat} {M M' : mj_H} {k : Ky} {T T' : Tm} {row row' : List Int32} {d : Nat} {ms : List Int32} {n : Nat} {S V H E N : List Int32} {i : Int32} {o : Option Nat}
/-- the press -/
theorem sg_press {y5 l10 l9 l8 l7 l6 l4 l2 : Int32} (z : kz A κ M k T row) (hI : iT M ms n S V H E N) (hwt : k.1.2.1.1 ≤ 9) (a5 : iA (tbA S V H E N) ms n y5 (mem ms 5)) : ∃ M', fx (kS A κ) M M' ∧
    ((sg_asks ms = true ∧ k.1.2.1.1 = 0 ∧ kz A κ M' k T row ∧ mj_Rn (d + 10) mj_m135 222 [(10, .int l10), (9, .int l9), (8, .int l8), (7, .int l7), (6, .int l6), (5, .int (sg_f0 ms)), (4, .int l4), (3, .int y5), (2, .int l2), (0, .ref κ)] [] M = some (some (.int 39), M')) ∨
     (¬ (sg_asks ms = true ∧ k.1.2.1.1 = 0) ∧ kz A κ M' (sg_tk ms k) T row ∧ ∀ q, mj_Rn (d + 10) mj_m135 259 [(5, .int (sg_fl ms)), (10, .int l10), (9, .int l9), (8, .int l8), (7, .int l7), (6, .int l6), (4, .int l4), (3, .int y5), (2, .int l2), (0, .ref κ)] [] M' = some q → mj_Rn (d + 10) mj_m135 222 [(10, .int l10), (9, .int l9), (8, .int l8), (7, .int l7), (6, .int l6), (5, .int (sg_f0 ms)), (4, .int l4), (3, .int y5), (2, .int l2), (0, .ref κ)] [] M = some q)) := by
  obtain ⟨u0, x0⟩ := z.fa
  have ho := hI.u.ob
  obtain ⟨yu, vu, au⟩ := q_named (d := d + 4) hI a5 z.s8
  rw [show cbMb ms (cbTx ms up_) (mem ms 5) = cbNm ms up_ (mem ms 5) from rfl] at au
  have vs := (q_sim (d := d + 8) hI au).2
  cases hs : oSim ms 20 (cbNm ms up_ (mem ms 5)) with
  | true =>
    have ea : sg_asks ms = false := by simp [sg_asks, hs]
    have ef : sg_fl ms = sg_f0 ms := by simp [sg_fl, ea]
    have et : sg_tk ms k = k := by simp [sg_tk, ea]
    rw [hs, it_t] at vs
    refine ⟨M, fx.rf, Or.inr ⟨by simp [ea], by rw [et]; exact z, fun q hq => ?_⟩⟩
    rw [ef] at hq
    simp (disch := (first | omega | decide)) [s135_0, s135_1, s135_4, s135_5, s135_6, s135_9, s135_10, s135_11, s135_12, s135_15, s135_16, s135_19, s135_20, s135_21, s135_24, s135_27, s135_28, s135_29, s135_32, s135_33, s135_34, s135_37, s135_38, s135_39, s135_42, s135_43, s135_45, s135_48, s135_50, s135_51, s135_53, s135_54, s135_57, s135_58, s135_61, s135_62, s135_64, s135_67, s135_70, s135_73, s135_75, s135_76, s135_78, s135_79, s135_82, s135_83, s135_85, s135_86, s135_89, s135_90, s135_92, s135_95, s135_96, s135_99, s135_101, s135_103, s135_106, s135_108, s135_109, s135_111, s135_112, s135_113, s135_115, s135_116, s135_119, s135_120, s135_121, s135_124, s135_126, s135_127, s135_128, s135_131, s135_132, s135_133, s135_136, s135_139, s135_141, s135_142, s135_145, s135_147, s135_150, s135_153, s135_154, s135_157, s135_158, s135_160, s135_162, s135_165, s135_166, s135_168, s135_170, s135_173, s135_176, s135_177, s135_179, s135_181, s135_184, s135_185, s135_187, s135_189, s135_192, s135_195, s135_196, s135_199, s135_200, s135_203, s135_206, s135_208, s135_211, s135_213, s135_215, s135_216, s135_219, s135_221, s135_222, s135_223, s135_226, s135_227, s135_230, s135_231, s135_234, s135_237, s135_240, s135_243, s135_244, s135_247, s135_250, s135_252, s135_253, s135_255, s135_256, s135_257, s135_261, s135_264, s135_265, s135_267, s135_270, s135_271, s135_273, s135_276, s135_277, s135_278, s135_281, s135_282, s135_284, s135_287, s135_288, s135_290, s135_292, s135_294, s135_295, s135_297, s135_299, s135_302, s135_303, s135_306, s135_307, s135_310, s135_312, s135_315, s135_318, s135_319, mq_k0s, mq_k1s, mq_k2s, mq_k4s, mq_k5s, mq_k5n, mq_k5as, mq_k6s, mj_pu, mj_lo, mj_br, mj_hr, mj_hw, mq_gf, mq_len, mq_al, mq_pf, mq_ok, mj_re, mq_lkm, mq_lkn, mj_ldi, mj_ldl, mj_lda, mj_ii, mj_ll, mj_li, mj_i1, ms_1, ms_2, f1_n, f1_i, f1_r, f1_u, f1_l, f2_n, f2_i, f2_r, f2_u, f2_l, mj_tg, mj_c1, mj_c2, mj_ar, mj_aw, mq_cb, mq_oi, mj_rm, Value.category, -getElem?_pos, List.getElem?_cons_zero, decide_eq_true, decide_eq_false, nl_lt, nl_le, ln_lt, ln_le, nl_eq, ln_eq, nl_add, ln_add, nl_sub, ln_mul, nI_sub, nI_mul, nI_add, nI_lt_iff, nI_le_iff, nI_inj, nI_num, mq_ix, nI_1, nl_mul, nl_div, x0, ho, vu, vs]
    refine mq_wk ?_ hq
    simp [mq_sub, mj_lk]
  | false =>
    have ea : sg_asks ms = true := by simp [sg_asks, hs]
    have ef : sg_fl ms = sg_f0 ms ||| 1 := by simp [sg_fl, ea]
    have et : sg_tk ms k = ky_took k := by simp [sg_tk, ea]
    rw [hs, it_f] at vs
    obtain ⟨M1, p1, z1, f1⟩ := ky_take (d := d + 9) z hwt
    refine ⟨M1, f1, ?_⟩
    by_cases hk : k.1.2.1.1 = 0
    · have e : ky_took k = k := by simp [ky_took, hk]
      rw [e] at z1
      refine Or.inl ⟨ea, hk, z1, ?_⟩
      simp (disch := (first | omega | decide)) [s135_0, s135_1, s135_4, s135_5, s135_6, s135_9, s135_10, s135_11, s135_12, s135_15, s135_16, s135_19, s135_20, s135_21, s135_24, s135_27, s135_28, s135_29, s135_32, s135_33, s135_34, s135_37, s135_38, s135_39, s135_42, s135_43, s135_45, s135_48, s135_50, s135_51, s135_53, s135_54, s135_57, s135_58, s135_61, s135_62, s135_64, s135_67, s135_70, s135_73, s135_75, s135_76, s135_78, s135_79, s135_82, s135_83, s135_85, s135_86, s135_89, s135_90, s135_92, s135_95, s135_96, s135_99, s135_101, s135_103, s135_106, s135_108, s135_109, s135_111, s135_112, s135_113, s135_115, s135_116, s135_119, s135_120, s135_121, s135_124, s135_126, s135_127, s135_128, s135_131, s135_132, s135_133, s135_136, s135_139, s135_141, s135_142, s135_145, s135_147, s135_150, s135_153, s135_154, s135_157, s135_158, s135_160, s135_162, s135_165, s135_166, s135_168, s135_170, s135_173, s135_176, s135_177, s135_179, s135_181, s135_184, s135_185, s135_187, s135_189, s135_192, s135_195, s135_196, s135_199, s135_200, s135_203, s135_206, s135_208, s135_211, s135_213, s135_215, s135_216, s135_219, s135_221, s135_222, s135_223, s135_226, s135_227, s135_230, s135_231, s135_234, s135_237, s135_240, s135_243, s135_244, s135_247, s135_250, s135_252, s135_253, s135_255, s135_256, s135_257, s135_259, s135_261, s135_264, s135_265, s135_267, s135_270, s135_271, s135_273, s135_276, s135_277, s135_278, s135_281, s135_282, s135_284, s135_287, s135_288, s135_290, s135_292, s135_294, s135_295, s135_297, s135_299, s135_302, s135_303, s135_306, s135_307, s135_310, s135_312, s135_315, s135_318, s135_319, mq_k0s, mq_k1s, mq_k2s, mq_k4s, mq_k5s, mq_k5n, mq_k5as, mq_k6s, mj_pu, mj_lo, mj_br, mj_hr, mj_hw, mq_gf, mq_len, mq_al, mq_pf, mq_ok, mj_re, mq_lkm, mq_lkn, mj_ldi, mj_ldl, mj_lda, mj_ii, mj_ll, mj_li, mj_i1, ms_1, ms_2, f1_n, f1_i, f1_r, f1_u, f1_l, f2_n, f2_i, f2_r, f2_u, f2_l, mj_tg, mj_c1, mj_c2, mj_ar, mj_aw, mq_cb, mq_oi, mj_rm, Value.category, -getElem?_pos, List.getElem?_cons_zero, decide_eq_true, decide_eq_false, nl_lt, nl_le, ln_lt, ln_le, nl_eq, ln_eq, nl_add, ln_add, nl_sub, ln_mul, nI_sub, nI_mul, nI_add, nI_lt_iff, nI_le_iff, nI_inj, nI_num, mq_ix, nI_1, nl_mul, nl_div, x0, ho, vu, vs, p1, hk, on1, narrow]
    · refine Or.inr ⟨by simp [hk], by rw [et]; exact z1, fun q hq => ?_⟩
      rw [ef] at hq
      simp (disch := (first | omega | decide)) [s135_0, s135_1, s135_4, s135_5, s135_6, s135_9, s135_10, s135_11, s135_12, s135_15, s135_16, s135_19, s135_20, s135_21, s135_24, s135_27, s135_28, s135_29, s135_32, s135_33, s135_34, s135_37, s135_38, s135_39, s135_42, s135_43, s135_45, s135_48, s135_50, s135_51, s135_53, s135_54, s135_57, s135_58, s135_61, s135_62, s135_64, s135_67, s135_70, s135_73, s135_75, s135_76, s135_78, s135_79, s135_82, s135_83, s135_85, s135_86, s135_89, s135_90, s135_92, s135_95, s135_96, s135_99, s135_101, s135_103, s135_106, s135_108, s135_109, s135_111, s135_112, s135_113, s135_115, s135_116, s135_119, s135_120, s135_121, s135_124, s135_126, s135_127, s135_128, s135_131, s135_132, s135_133, s135_136, s135_139, s135_141, s135_142, s135_145, s135_147, s135_150, s135_153, s135_154, s135_157, s135_158, s135_160, s135_162, s135_165, s135_166, s135_168, s135_170, s135_173, s135_176, s135_177, s135_179, s135_181, s135_184, s135_185, s135_187, s135_189, s135_192, s135_195, s135_196, s135_199, s135_200, s135_203, s135_206, s135_208, s135_211, s135_213, s135_215, s135_216, s135_219, s135_221, s135_222, s135_223, s135_226, s135_227, s135_230, s135_231, s135_234, s135_237, s135_240, s135_243, s135_244, s135_247, s135_250, s135_252, s135_253, s135_255, s135_256, s135_257, s135_261, s135_264, s135_265, s135_267, s135_270, s135_271, s135_273, s135_276, s135_277, s135_278, s135_281, s135_282, s135_284, s135_287, s135_288, s135_290, s135_292, s135_294, s135_295, s135_297, s135_299, s135_302, s135_303, s135_306, s135_307, s135_310, s135_312, s135_315, s135_318, s135_319, mq_k0s, mq_k1s, mq_k2s, mq_k4s, mq_k5s, mq_k5n, mq_k5as, mq_k6s, mj_pu, mj_lo, mj_br, mj_hr, mj_hw, mq_gf, mq_len, mq_al, mq_pf, mq_ok, mj_re, mq_lkm, mq_lkn, mj_ldi, mj_ldl, mj_lda, mj_ii, mj_ll, mj_li, mj_i1, ms_1, ms_2, f1_n, f1_i, f1_r, f1_u, f1_l, f2_n, f2_i, f2_r, f2_u, f2_l, mj_tg, mj_c1, mj_c2, mj_ar, mj_aw, mq_cb, mq_oi, mj_rm, Value.category, -getElem?_pos, List.getElem?_cons_zero, decide_eq_true, decide_eq_false, nl_lt, nl_le, ln_lt, ln_le, nl_eq, ln_eq, nl_add, ln_add, nl_sub, ln_mul, nI_sub, nI_mul, nI_add, nI_lt_iff, nI_le_iff, nI_inj, nI_num, mq_ix, nI_1, nl_mul, nl_div, x0, ho, vu, vs, p1, hk, on1]
      exact hq
theorem sg_fin {y6 y5 : Int32} (z : kz A κ M k T row) (hI : iT M ms n S V H E N) (hw : fw k.1.1.1.1) (hon : k.1.1.1.1.2.1 = true) (hwt : k.1.2.1.1 ≤ 9) (hf : T.1.length < 1000) (hr : k.1.1.1.2.length ≤ 1) (hok : sgFault ms = 0) (a5 : iA (tbA S V H E N) ms n y5 (mem ms 5)) :
    ∃ M' row', mj_Rn (d + 10) mj_m135 115 [(5, .int (sg_f0 ms)), (4, .int y6), (3, .int y5), (2, .int (o4 ms (mem ms 2))), (0, .ref κ)] [] M = some (some (.int (sg_end ms k T).1), M') ∧ kz A κ M' (sg_end ms k T).2.1 (sg_end ms k T).2.2 row' ∧ fx (kS A κ) M M' := by
  obtain ⟨u0, x0⟩ := z.fa
  have ho := hI.u.ob
  obtain ⟨⟨p, hp, hs⟩, h4⟩ := sgFault_ok hok
  obtain ⟨y3, v3, a3⟩ := q_mem (d := d + 8) (num := 3) (by decide) hI
  obtain ⟨y1, v1, a1⟩ := q_mem (d := d + 8) (num := 1) (by decide) hI
  rw [hp] at a1
  obtain ⟨M1, p1, z1, f1⟩ := ky_khash (d := d + 6) z hI a1 (Or.inr hs)
  rw [← hp, show nI (tm_ix T.1 (7 :: oBy ms (mem ms 1))) = sg_party T ms from rfl] at p1
  obtain ⟨u1, x1⟩ := z1.fa
  have hI1 := z.it f1 hI
  have ho1 := hI1.u.ob
  have vv := q_val (d := d + 9) hI1 a3
  rw [oV_n] at vv
  have lv := oVn_lt hI1 a3
  rw [show nI 3 = 3 from rfl] at v3
  rw [show nI 1 = 1 from rfl] at v1
  obtain ⟨r1, hr1⟩ := z1.st
  have h8 := hr1.l8
  have tks := tk_s ms k
  unfold sg_end
  by_cases hL : oVn ms (mem ms 3) = 0
  · rw [if_pos hL]
    rw [hL] at vv
    have vl := st_last (d := d + 8) (party := sg_party T ms) hr1 (k := k.1.1.1.1.2.2.2.2.2.2.2.2.2.2.2.length) (by omega)
    unfold sg_all
    cases hq : fs_last k.1.1.1.1.2.2.2.2.2.2.2.2.2.2.2 (sg_party T ms) k.1.1.1.1.2.2.2.2.2.2.2.2.2.2.2.length with
    | none =>
      rw [hq, oI] at vl
      refine ⟨M1, _, ?_, z1, f1⟩
      simp (disch := (first | omega | decide)) [s135_0, s135_1, s135_4, s135_5, s135_6, s135_9, s135_10, s135_11, s135_12, s135_15, s135_16, s135_19, s135_20, s135_21, s135_24, s135_27, s135_28, s135_29, s135_32, s135_33, s135_34, s135_37, s135_38, s135_39, s135_42, s135_43, s135_45, s135_48, s135_50, s135_51, s135_53, s135_54, s135_57, s135_58, s135_61, s135_62, s135_64, s135_67, s135_70, s135_73, s135_75, s135_76, s135_78, s135_79, s135_82, s135_83, s135_85, s135_86, s135_89, s135_90, s135_92, s135_95, s135_96, s135_99, s135_101, s135_103, s135_106, s135_108, s135_109, s135_111, s135_112, s135_113, s135_115, s135_116, s135_119, s135_120, s135_121, s135_124, s135_126, s135_127, s135_128, s135_131, s135_132, s135_133, s135_136, s135_139, s135_141, s135_142, s135_145, s135_147, s135_150, s135_153, s135_154, s135_157, s135_158, s135_160, s135_162, s135_165, s135_166, s135_168, s135_170, s135_173, s135_176, s135_177, s135_179, s135_181, s135_184, s135_185, s135_187, s135_189, s135_192, s135_195, s135_196, s135_199, s135_200, s135_203, s135_206, s135_208, s135_211, s135_213, s135_215, s135_216, s135_219, s135_221, s135_222, s135_223, s135_226, s135_227, s135_230, s135_231, s135_234, s135_237, s135_240, s135_243, s135_244, s135_247, s135_250, s135_252, s135_253, s135_255, s135_256, s135_257, s135_259, s135_261, s135_264, s135_265, s135_267, s135_270, s135_271, s135_273, s135_276, s135_277, s135_278, s135_281, s135_282, s135_284, s135_287, s135_288, s135_290, s135_292, s135_294, s135_295, s135_297, s135_299, s135_302, s135_303, s135_306, s135_307, s135_310, s135_312, s135_315, s135_318, s135_319, mq_k0s, mq_k1s, mq_k2s, mq_k4s, mq_k5s, mq_k5n, mq_k5as, mq_k6s, mj_pu, mj_lo, mj_br, mj_hr, mj_hw, mq_gf, mq_len, mq_al, mq_pf, mq_ok, mj_re, mq_lkm, mq_lkn, mj_ldi, mj_ldl, mj_lda, mj_ii, mj_ll, mj_li, mj_i1, ms_1, ms_2, f1_n, f1_i, f1_r, f1_u, f1_l, f2_n, f2_i, f2_r, f2_u, f2_l, mj_tg, mj_c1, mj_c2, mj_ar, mj_aw, mq_cb, mq_oi, mj_rm, Value.category, -getElem?_pos, List.getElem?_cons_zero, decide_eq_true, decide_eq_false, nl_lt, nl_le, ln_lt, ln_le, nl_eq, ln_eq, nl_add, ln_add, nl_sub, ln_mul, nI_sub, nI_mul, nI_add, nI_lt_iff, nI_le_iff, nI_inj, nI_num, mq_ix, nI_1, nl_mul, nl_div, x0, ho, v3, v1, p1, x1, ho1, vv, vl, narrow]
    | some j =>
      rw [hq, oI] at vl
      obtain ⟨c, hc, -, hjl⟩ := fs_last_some hq
      obtain ⟨M2, f2, hpr⟩ := sg_press (d := d) (l10 := nI j) (l9 := 0) (l8 := 0) (l7 := sg_party T ms) (l6 := y3) (l4 := y6) (l2 := o4 ms (mem ms 2)) z1 hI1 hwt a5
      have pre : ∀ q, mj_Rn (d + 10) mj_m135 222 [(10, .int (nI j)), (9, .int 0), (8, .int 0), (7, .int (sg_party T ms)), (6, .int y3), (5, .int (sg_f0 ms)), (4, .int y6), (3, .int y5), (2, .int (o4 ms (mem ms 2))), (0, .ref κ)] [] M1 = some q → mj_Rn (d + 10) mj_m135 115 [(5, .int (sg_f0 ms)), (4, .int y6), (3, .int y5), (2, .int (o4 ms (mem ms 2))), (0, .ref κ)] [] M = some q := by
        intro q hq
        simp (disch := (first | omega | decide)) [s135_0, s135_1, s135_4, s135_5, s135_6, s135_9, s135_10, s135_11, s135_12, s135_15, s135_16, s135_19, s135_20, s135_21, s135_24, s135_27, s135_28, s135_29, s135_32, s135_33, s135_34, s135_37, s135_38, s135_39, s135_42, s135_43, s135_45, s135_48, s135_50, s135_51, s135_53, s135_54, s135_57, s135_58, s135_61, s135_62, s135_64, s135_67, s135_70, s135_73, s135_75, s135_76, s135_78, s135_79, s135_82, s135_83, s135_85, s135_86, s135_89, s135_90, s135_92, s135_95, s135_96, s135_99, s135_101, s135_103, s135_106, s135_108, s135_109, s135_111, s135_112, s135_113, s135_115, s135_116, s135_119, s135_120, s135_121, s135_124, s135_126, s135_127, s135_128, s135_131, s135_132, s135_133, s135_136, s135_139, s135_141, s135_142, s135_145, s135_147, s135_150, s135_153, s135_154, s135_157, s135_158, s135_160, s135_162, s135_165, s135_166, s135_168, s135_170, s135_173, s135_176, s135_177, s135_179, s135_181, s135_184, s135_185, s135_187, s135_189, s135_192, s135_195, s135_196, s135_199, s135_200, s135_203, s135_206, s135_208, s135_211, s135_213, s135_215, s135_216, s135_219, s135_221, s135_223, s135_226, s135_227, s135_230, s135_231, s135_234, s135_237, s135_240, s135_243, s135_244, s135_247, s135_250, s135_252, s135_253, s135_255, s135_256, s135_257, s135_259, s135_261, s135_264, s135_265, s135_267, s135_270, s135_271, s135_273, s135_276, s135_277, s135_278, s135_281, s135_282, s135_284, s135_287, s135_288, s135_290, s135_292, s135_294, s135_295, s135_297, s135_299, s135_302, s135_303, s135_306, s135_307, s135_310, s135_312, s135_315, s135_318, s135_319, mq_k0s, mq_k1s, mq_k2s, mq_k4s, mq_k5s, mq_k5n, mq_k5as, mq_k6s, mj_pu, mj_lo, mj_br, mj_hr, mj_hw, mq_gf, mq_len, mq_al, mq_pf, mq_ok, mj_re, mq_lkm, mq_lkn, mj_ldi, mj_ldl, mj_lda, mj_ii, mj_ll, mj_li, mj_i1, ms_1, ms_2, f1_n, f1_i, f1_r, f1_u, f1_l, f2_n, f2_i, f2_r, f2_u, f2_l, mj_tg, mj_c1, mj_c2, mj_ar, mj_aw, mq_cb, mq_oi, mj_rm, Value.category, -getElem?_pos, List.getElem?_cons_zero, decide_eq_true, decide_eq_false, nl_lt, nl_le, ln_lt, ln_le, nl_eq, ln_eq, nl_add, ln_add, nl_sub, ln_mul, nI_sub, nI_mul, nI_add, nI_lt_iff, nI_le_iff, nI_inj, nI_num, mq_ix, nI_1, nl_mul, nl_div, x0, ho, v3, v1, p1, x1, ho1, vv, vl, nI_m1]
        refine mq_wk ?_ hq
        simp [mq_sub, mj_lk]
      rcases hpr with ⟨b1, b2, z2, p2⟩ | ⟨b1, z2, p2⟩
      · dsimp only
        rw [if_pos ⟨b1, b2⟩]
        exact ⟨M2, _, pre _ p2, z2, f1.trs f2⟩
      · dsimp only
        rw [if_neg b1]
        obtain ⟨z3, f3⟩ := z2.mk_o ((((((sg_tk ms k).1.1.1.1, (sg_tk ms k).1.1.1.2), ((sg_tk ms k).1.1.2.1, (sg_tk ms k).1.1.2.2)), (((sg_tk ms k).1.2.1.1, (sg_tk ms k).1.2.1.2), ((sg_tk ms k).1.2.2.1, (sg_tk ms k).1.2.2.2))), ((((sg_tk ms k).2.1.1.1, (sg_tk ms k).2.1.1.2), ((sg_tk ms k).2.1.2.1, j)), ((sg_party T ms, o4 ms (mem ms 2)), sg_fl ms))) : Ky) rfl rfl rfl rfl
        obtain ⟨r3, hr3⟩ := z3.st
        have vm := st_many (d := d + 8) (party := sg_party T ms) hr3
        have hs3 : (((((((sg_tk ms k).1.1.1.1, (sg_tk ms k).1.1.1.2), ((sg_tk ms k).1.1.2.1, (sg_tk ms k).1.1.2.2)), (((sg_tk ms k).1.2.1.1, (sg_tk ms k).1.2.1.2), ((sg_tk ms k).1.2.2.1, (sg_tk ms k).1.2.2.2))), ((((sg_tk ms k).2.1.1.1, (sg_tk ms k).2.1.1.2), ((sg_tk ms k).2.1.2.1, j)), ((sg_party T ms, o4 ms (mem ms 2)), sg_fl ms))) : Ky) : Ky).1.1.1.1 = k.1.1.1.1 := tks.1
        have hml := fs_many_le k.1.1.1.1.2.2.2.2.2.2.2.2.2.2.2 (sg_party T ms)
        obtain ⟨M4, row4, p4, z4, f4⟩ := ky_sw1 (d := d + 4) z3 (j := j) (c := c) (by rw [hs3]; exact hc) 0 (sg_party T ms) (o4 ms (mem ms 2)) (sg_fl ms) (fs_many k.1.1.1.1.2.2.2.2.2.2.2.2.2.2.2 (sg_party T ms)) (by omega) (by rw [hs3]; exact hw) (by rw [hs3]; exact hon) hf (by show (sg_tk ms k).1.1.1.2.length ≤ 1; rw [tks.2]; exact hr)
        rw [hc]
        refine ⟨M4, row4, pre _ (p2 _ ?_), z4, ((f1.trs f2).trs f3).trs f4⟩
        obtain ⟨u2, x2⟩ := z2.fa
        obtain ⟨u3, x3⟩ := z3.fa
        have hlo := z.lo
        have hh : ¬ κ < 25 := by omega
        have l2 := mq_lt z2.ob
        rw [hs3] at vm
        unfold ko at x3 p4 vm
        dsimp only at x3 p4 vm
        simp (disch := (first | omega | decide)) [s135_0, s135_1, s135_4, s135_5, s135_6, s135_9, s135_10, s135_11, s135_12, s135_15, s135_16, s135_19, s135_20, s135_21, s135_24, s135_27, s135_28, s135_29, s135_32, s135_33, s135_34, s135_37, s135_38, s135_39, s135_42, s135_43, s135_45, s135_48, s135_50, s135_51, s135_53, s135_54, s135_57, s135_58, s135_61, s135_62, s135_64, s135_67, s135_70, s135_73, s135_75, s135_76, s135_78, s135_79, s135_82, s135_83, s135_85, s135_86, s135_89, s135_90, s135_92, s135_95, s135_96, s135_99, s135_101, s135_103, s135_106, s135_108, s135_109, s135_111, s135_112, s135_113, s135_115, s135_116, s135_119, s135_120, s135_121, s135_124, s135_126, s135_127, s135_128, s135_131, s135_132, s135_133, s135_136, s135_139, s135_141, s135_142, s135_145, s135_147, s135_150, s135_153, s135_154, s135_157, s135_158, s135_160, s135_162, s135_165, s135_166, s135_168, s135_170, s135_173, s135_176, s135_177, s135_179, s135_181, s135_184, s135_185, s135_187, s135_189, s135_192, s135_195, s135_196, s135_199, s135_200, s135_203, s135_206, s135_208, s135_211, s135_213, s135_215, s135_216, s135_219, s135_221, s135_222, s135_223, s135_226, s135_227, s135_230, s135_231, s135_234, s135_237, s135_240, s135_243, s135_244, s135_247, s135_250, s135_252, s135_253, s135_255, s135_256, s135_257, s135_259, s135_261, s135_264, s135_265, s135_267, s135_270, s135_271, s135_273, s135_276, s135_277, s135_278, s135_281, s135_282, s135_284, s135_287, s135_288, s135_290, s135_292, s135_294, s135_295, s135_297, s135_299, s135_302, s135_303, s135_306, s135_307, s135_310, s135_312, s135_315, s135_318, s135_319, mq_k0s, mq_k1s, mq_k2s, mq_k4s, mq_k5s, mq_k5n, mq_k5as, mq_k6s, mj_pu, mj_lo, mj_br, mj_hr, mj_hw, mq_gf, mq_len, mq_al, mq_pf, mq_ok, mj_re, mq_lkm, mq_lkn, mj_ldi, mj_ldl, mj_lda, mj_ii, mj_ll, mj_li, mj_i1, ms_1, ms_2, f1_n, f1_i, f1_r, f1_u, f1_l, f2_n, f2_i, f2_r, f2_u, f2_l, mj_tg, mj_c1, mj_c2, mj_ar, mj_aw, mq_cb, mq_oi, mj_rm, Value.category, -getElem?_pos, List.getElem?_cons_zero, decide_eq_true, decide_eq_false, nl_lt, nl_le, ln_lt, ln_le, nl_eq, ln_eq, nl_add, ln_add, nl_sub, ln_mul, nI_sub, nI_mul, nI_add, nI_lt_iff, nI_le_iff, nI_inj, nI_num, mq_ix, nI_1, nl_mul, nl_div, x2, narrow, mj_E, hh, l2, List.getElem?_set, x3, vm, p4]
  · rw [if_neg hL]
    have vf := ky_first (d := d + 2) z1 hI1 a3 h4 (sg_party T ms)
    have vw := ky_whose (d := d + 7) z1 (ky_fo k T ms (sg_party T ms) (mem ms 3)) (sg_party T ms)
    have hL0 : 0 < oVn ms (mem ms 3) := by omega
    unfold sg_list
    generalize hid : ky_fo k T ms (sg_party T ms) (mem ms 3) = id at *
    by_cases hn : ky_wh k T id (sg_party T ms) = -1
    · rw [if_pos hn]
      rw [hn] at vw
      refine ⟨M1, _, ?_, z1, f1⟩
      simp (disch := (first | omega | decide)) [s135_0, s135_1, s135_4, s135_5, s135_6, s135_9, s135_10, s135_11, s135_12, s135_15, s135_16, s135_19, s135_20, s135_21, s135_24, s135_27, s135_28, s135_29, s135_32, s135_33, s135_34, s135_37, s135_38, s135_39, s135_42, s135_43, s135_45, s135_48, s135_50, s135_51, s135_53, s135_54, s135_57, s135_58, s135_61, s135_62, s135_64, s135_67, s135_70, s135_73, s135_75, s135_76, s135_78, s135_79, s135_82, s135_83, s135_85, s135_86, s135_89, s135_90, s135_92, s135_95, s135_96, s135_99, s135_101, s135_103, s135_106, s135_108, s135_109, s135_111, s135_112, s135_113, s135_115, s135_116, s135_119, s135_120, s135_121, s135_124, s135_126, s135_127, s135_128, s135_131, s135_132, s135_133, s135_136, s135_139, s135_141, s135_142, s135_145, s135_147, s135_150, s135_153, s135_154, s135_157, s135_158, s135_160, s135_162, s135_165, s135_166, s135_168, s135_170, s135_173, s135_176, s135_177, s135_179, s135_181, s135_184, s135_185, s135_187, s135_189, s135_192, s135_195, s135_196, s135_199, s135_200, s135_203, s135_206, s135_208, s135_211, s135_213, s135_215, s135_216, s135_219, s135_221, s135_222, s135_223, s135_226, s135_227, s135_230, s135_231, s135_234, s135_237, s135_240, s135_243, s135_244, s135_247, s135_250, s135_252, s135_253, s135_255, s135_256, s135_257, s135_259, s135_261, s135_264, s135_265, s135_267, s135_270, s135_271, s135_273, s135_276, s135_277, s135_278, s135_281, s135_282, s135_284, s135_287, s135_288, s135_290, s135_292, s135_294, s135_295, s135_297, s135_299, s135_302, s135_303, s135_306, s135_307, s135_310, s135_312, s135_315, s135_318, s135_319, mq_k0s, mq_k1s, mq_k2s, mq_k4s, mq_k5s, mq_k5n, mq_k5as, mq_k6s, mj_pu, mj_lo, mj_br, mj_hr, mj_hw, mq_gf, mq_len, mq_al, mq_pf, mq_ok, mj_re, mq_lkm, mq_lkn, mj_ldi, mj_ldl, mj_lda, mj_ii, mj_ll, mj_li, mj_i1, ms_1, ms_2, f1_n, f1_i, f1_r, f1_u, f1_l, f2_n, f2_i, f2_r, f2_u, f2_l, mj_tg, mj_c1, mj_c2, mj_ar, mj_aw, mq_cb, mq_oi, mj_rm, Value.category, -getElem?_pos, List.getElem?_cons_zero, decide_eq_true, decide_eq_false, nl_lt, nl_le, ln_lt, ln_le, nl_eq, ln_eq, nl_add, ln_add, nl_sub, ln_mul, nI_sub, nI_mul, nI_add, nI_lt_iff, nI_le_iff, nI_inj, nI_num, mq_ix, nI_1, nl_mul, nl_div, x0, ho, v3, v1, p1, x1, ho1, vv, hL, hL0, vf, vw, narrow]
    rw [if_neg hn]
    generalize hpl : ky_wh k T id (sg_party T ms) = pl at *
    obtain ⟨M2, f2, hpr⟩ := sg_press (d := d) (l10 := pl) (l9 := id) (l8 := 1) (l7 := sg_party T ms) (l6 := y3) (l4 := y6) (l2 := o4 ms (mem ms 2)) z1 hI1 hwt a5
    have pre : ∀ q, mj_Rn (d + 10) mj_m135 222 [(10, .int pl), (9, .int id), (8, .int 1), (7, .int (sg_party T ms)), (6, .int y3), (5, .int (sg_f0 ms)), (4, .int y6), (3, .int y5), (2, .int (o4 ms (mem ms 2))), (0, .ref κ)] [] M1 = some q → mj_Rn (d + 10) mj_m135 115 [(5, .int (sg_f0 ms)), (4, .int y6), (3, .int y5), (2, .int (o4 ms (mem ms 2))), (0, .ref κ)] [] M = some q := by
      intro q hq
      simp (disch := (first | omega | decide)) [s135_0, s135_1, s135_4, s135_5, s135_6, s135_9, s135_10, s135_11, s135_12, s135_15, s135_16, s135_19, s135_20, s135_21, s135_24, s135_27, s135_28, s135_29, s135_32, s135_33, s135_34, s135_37, s135_38, s135_39, s135_42, s135_43, s135_45, s135_48, s135_50, s135_51, s135_53, s135_54, s135_57, s135_58, s135_61, s135_62, s135_64, s135_67, s135_70, s135_73, s135_75, s135_76, s135_78, s135_79, s135_82, s135_83, s135_85, s135_86, s135_89, s135_90, s135_92, s135_95, s135_96, s135_99, s135_101, s135_103, s135_106, s135_108, s135_109, s135_111, s135_112, s135_113, s135_115, s135_116, s135_119, s135_120, s135_121, s135_124, s135_126, s135_127, s135_128, s135_131, s135_132, s135_133, s135_136, s135_139, s135_141, s135_142, s135_145, s135_147, s135_150, s135_153, s135_154, s135_157, s135_158, s135_160, s135_162, s135_165, s135_166, s135_168, s135_170, s135_173, s135_176, s135_177, s135_179, s135_181, s135_184, s135_185, s135_187, s135_189, s135_192, s135_195, s135_196, s135_199, s135_200, s135_203, s135_206, s135_208, s135_211, s135_213, s135_215, s135_216, s135_219, s135_221, s135_223, s135_226, s135_227, s135_230, s135_231, s135_234, s135_237, s135_240, s135_243, s135_244, s135_247, s135_250, s135_252, s135_253, s135_255, s135_256, s135_257, s135_259, s135_261, s135_264, s135_265, s135_267, s135_270, s135_271, s135_273, s135_276, s135_277, s135_278, s135_281, s135_282, s135_284, s135_287, s135_288, s135_290, s135_292, s135_294, s135_295, s135_297, s135_299, s135_302, s135_303, s135_306, s135_307, s135_310, s135_312, s135_315, s135_318, s135_319, mq_k0s, mq_k1s, mq_k2s, mq_k4s, mq_k5s, mq_k5n, mq_k5as, mq_k6s, mj_pu, mj_lo, mj_br, mj_hr, mj_hw, mq_gf, mq_len, mq_al, mq_pf, mq_ok, mj_re, mq_lkm, mq_lkn, mj_ldi, mj_ldl, mj_lda, mj_ii, mj_ll, mj_li, mj_i1, ms_1, ms_2, f1_n, f1_i, f1_r, f1_u, f1_l, f2_n, f2_i, f2_r, f2_u, f2_l, mj_tg, mj_c1, mj_c2, mj_ar, mj_aw, mq_cb, mq_oi, mj_rm, Value.category, -getElem?_pos, List.getElem?_cons_zero, decide_eq_true, decide_eq_false, nl_lt, nl_le, ln_lt, ln_le, nl_eq, ln_eq, nl_add, ln_add, nl_sub, ln_mul, nI_sub, nI_mul, nI_add, nI_lt_iff, nI_le_iff, nI_inj, nI_num, mq_ix, nI_1, nl_mul, nl_div, x0, ho, v3, v1, p1, x1, ho1, vv, hL, hL0, vf, vw, hn]
      refine mq_wk ?_ hq
      simp [mq_sub, mj_lk]
    rcases hpr with ⟨b1, b2, z2, p2⟩ | ⟨b1, z2, p2⟩
    · rw [if_pos ⟨b1, b2⟩]
      exact ⟨M2, _, pre _ p2, z2, f1.trs f2⟩
    · rw [if_neg b1]
      obtain ⟨u2, x2⟩ := z2.fa
      cases hq : fs_id k.1.1.1.1.2.2.2.2.2.2.2.2.2.2.2 id (sg_party T ms) with
      | none =>
        have e2 : pl = -2 := by
          rw [← hpl]
          rw [← hpl] at hn
          unfold ky_wh at hn ⊢
          rw [hq] at hn ⊢
          dsimp only at hn ⊢
          split
          · rfl
          · next hx => rw [if_neg hx] at hn; exact absurd rfl hn
        subst e2
        obtain ⟨M4, row4, p4, z4, f4⟩ := ky_sw0 (d := d + 4) z2 id (sg_party T ms) (o4 ms (mem ms 2)) (sg_fl ms) (by rw [tks.1]; exact hw) (by rw [tks.1]; exact hon) hf (by rw [tks.2]; exact hr)
        refine ⟨M4, row4, pre _ (p2 _ ?_), z4, (f1.trs f2).trs f4⟩
        simp (disch := (first | omega | decide)) [s135_0, s135_1, s135_4, s135_5, s135_6, s135_9, s135_10, s135_11, s135_12, s135_15, s135_16, s135_19, s135_20, s135_21, s135_24, s135_27, s135_28, s135_29, s135_32, s135_33, s135_34, s135_37, s135_38, s135_39, s135_42, s135_43, s135_45, s135_48, s135_50, s135_51, s135_53, s135_54, s135_57, s135_58, s135_61, s135_62, s135_64, s135_67, s135_70, s135_73, s135_75, s135_76, s135_78, s135_79, s135_82, s135_83, s135_85, s135_86, s135_89, s135_90, s135_92, s135_95, s135_96, s135_99, s135_101, s135_103, s135_106, s135_108, s135_109, s135_111, s135_112, s135_113, s135_115, s135_116, s135_119, s135_120, s135_121, s135_124, s135_126, s135_127, s135_128, s135_131, s135_132, s135_133, s135_136, s135_139, s135_141, s135_142, s135_145, s135_147, s135_150, s135_153, s135_154, s135_157, s135_158, s135_160, s135_162, s135_165, s135_166, s135_168, s135_170, s135_173, s135_176, s135_177, s135_179, s135_181, s135_184, s135_185, s135_187, s135_189, s135_192, s135_195, s135_196, s135_199, s135_200, s135_203, s135_206, s135_208, s135_211, s135_213, s135_215, s135_216, s135_219, s135_221, s135_222, s135_223, s135_226, s135_227, s135_230, s135_231, s135_234, s135_237, s135_240, s135_243, s135_244, s135_247, s135_250, s135_252, s135_253, s135_255, s135_256, s135_257, s135_259, s135_261, s135_264, s135_265, s135_267, s135_270, s135_271, s135_273, s135_276, s135_277, s135_278, s135_281, s135_282, s135_284, s135_287, s135_288, s135_290, s135_292, s135_294, s135_295, s135_297, s135_299, s135_302, s135_303, s135_306, s135_307, s135_310, s135_312, s135_315, s135_318, s135_319, mq_k0s, mq_k1s, mq_k2s, mq_k4s, mq_k5s, mq_k5n, mq_k5as, mq_k6s, mj_pu, mj_lo, mj_br, mj_hr, mj_hw, mq_gf, mq_len, mq_al, mq_pf, mq_ok, mj_re, mq_lkm, mq_lkn, mj_ldi, mj_ldl, mj_lda, mj_ii, mj_ll, mj_li, mj_i1, ms_1, ms_2, f1_n, f1_i, f1_r, f1_u, f1_l, f2_n, f2_i, f2_r, f2_u, f2_l, mj_tg, mj_c1, mj_c2, mj_ar, mj_aw, mq_cb, mq_oi, mj_rm, Value.category, -getElem?_pos, List.getElem?_cons_zero, decide_eq_true, decide_eq_false, nl_lt, nl_le, ln_lt, ln_le, nl_eq, ln_eq, nl_add, ln_add, nl_sub, ln_mul, nI_sub, nI_mul, nI_add, nI_lt_iff, nI_le_iff, nI_inj, nI_num, mq_ix, nI_1, nl_mul, nl_div, x2, p4, narrow]
      | some j =>
        have e2 : pl = nI j := by
          rw [← hpl]
          unfold ky_wh
          rw [hq]
        subst e2
        have hjl : j < k.1.1.1.1.2.2.2.2.2.2.2.2.2.2.2.length := by
          unfold fs_id at hq
          exact (List.findIdx?_eq_some_iff_getElem.mp hq).1
        obtain ⟨M4, row4, p4, z4, f4⟩ := ky_sw1 (d := d + 4) z2 (j := j) (c := k.1.1.1.1.2.2.2.2.2.2.2.2.2.2.2[j]) (by rw [tks.1]; exact List.getElem?_eq_getElem hjl) id (sg_party T ms) (o4 ms (mem ms 2)) (sg_fl ms) 0 (by decide) (by rw [tks.1]; exact hw) (by rw [tks.1]; exact hon) hf (by rw [tks.2]; exact hr)
        rw [Option.bind_some, List.getElem?_eq_getElem hjl]
        refine ⟨M4, row4, pre _ (p2 _ ?_), z4, (f1.trs f2).trs f4⟩
        rw [nI_0] at p4
        simp (disch := (first | omega | decide)) [s135_0, s135_1, s135_4, s135_5, s135_6, s135_9, s135_10, s135_11, s135_12, s135_15, s135_16, s135_19, s135_20, s135_21, s135_24, s135_27, s135_28, s135_29, s135_32, s135_33, s135_34, s135_37, s135_38, s135_39, s135_42, s135_43, s135_45, s135_48, s135_50, s135_51, s135_53, s135_54, s135_57, s135_58, s135_61, s135_62, s135_64, s135_67, s135_70, s135_73, s135_75, s135_76, s135_78, s135_79, s135_82, s135_83, s135_85, s135_86, s135_89, s135_90, s135_92, s135_95, s135_96, s135_99, s135_101, s135_103, s135_106, s135_108, s135_109, s135_111, s135_112, s135_113, s135_115, s135_116, s135_119, s135_120, s135_121, s135_124, s135_126, s135_127, s135_128, s135_131, s135_132, s135_133, s135_136, s135_139, s135_141, s135_142, s135_145, s135_147, s135_150, s135_153, s135_154, s135_157, s135_158, s135_160, s135_162, s135_165, s135_166, s135_168, s135_170, s135_173, s135_176, s135_177, s135_179, s135_181, s135_184, s135_185, s135_187, s135_189, s135_192, s135_195, s135_196, s135_199, s135_200, s135_203, s135_206, s135_208, s135_211, s135_213, s135_215, s135_216, s135_219, s135_221, s135_222, s135_223, s135_226, s135_227, s135_230, s135_231, s135_234, s135_237, s135_240, s135_243, s135_244, s135_247, s135_250, s135_252, s135_253, s135_255, s135_256, s135_257, s135_259, s135_261, s135_264, s135_265, s135_267, s135_270, s135_271, s135_273, s135_276, s135_277, s135_278, s135_281, s135_282, s135_284, s135_287, s135_288, s135_290, s135_292, s135_294, s135_295, s135_297, s135_299, s135_302, s135_303, s135_306, s135_307, s135_310, s135_312, s135_315, s135_318, s135_319, mq_k0s, mq_k1s, mq_k2s, mq_k4s, mq_k5s, mq_k5n, mq_k5as, mq_k6s, mj_pu, mj_lo, mj_br, mj_hr, mj_hw, mq_gf, mq_len, mq_al, mq_pf, mq_ok, mj_re, mq_lkm, mq_lkn, mj_ldi, mj_ldl, mj_lda, mj_ii, mj_ll, mj_li, mj_i1, ms_1, ms_2, f1_n, f1_i, f1_r, f1_u, f1_l, f2_n, f2_i, f2_r, f2_u, f2_l, mj_tg, mj_c1, mj_c2, mj_ar, mj_aw, mq_cb, mq_oi, mj_rm, Value.category, -getElem?_pos, List.getElem?_cons_zero, decide_eq_true, decide_eq_false, nl_lt, nl_le, ln_lt, ln_le, nl_eq, ln_eq, nl_add, ln_add, nl_sub, ln_mul, nI_sub, nI_mul, nI_add, nI_lt_iff, nI_le_iff, nI_inj, nI_num, mq_ix, nI_1, nl_mul, nl_div, x2, p4, narrow]
theorem ky_sgn (z : kz A κ M k T row) (hI : iT M ms n S V H E N) (hw : fw k.1.1.1.1) (hon : k.1.1.1.1.2.1 = true) (hwt : k.1.2.1.1 ≤ 9) (hf : T.1.length < 1000) (hr : k.1.1.1.2.length ≤ 1) : ∃ M' row', mj_V (d + 11) 135 [.ref κ] M = some (some (.int (ky_sign ms k T).1), M') ∧ kz A κ M' (ky_sign ms k T).2.1 (ky_sign ms k T).2.2 row' ∧ fx (kS A κ) M M' := by
  obtain ⟨u0, x0⟩ := z.fa
  have ho := hI.u.ob
  have vf := ky_sf (d := d) z hI
  unfold ky_sign
  by_cases hok : sgFault ms = 0; rotate_left
  · rw [if_pos hok]
    refine ⟨M, row, ?_, z, fx.rf⟩
    simp (disch := (first | omega | decide)) [c135, s135_0, s135_1, s135_4, s135_5, s135_6, s135_9, s135_10, s135_11, s135_12, s135_15, s135_16, s135_19, s135_20, s135_21, s135_24, s135_27, s135_28, s135_29, s135_32, s135_33, s135_34, s135_37, s135_38, s135_39, s135_42, s135_43, s135_45, s135_48, s135_50, s135_51, s135_53, s135_54, s135_57, s135_58, s135_61, s135_62, s135_64, s135_67, s135_70, s135_73, s135_75, s135_76, s135_78, s135_79, s135_82, s135_83, s135_85, s135_86, s135_89, s135_90, s135_92, s135_95, s135_96, s135_99, s135_101, s135_103, s135_106, s135_108, s135_109, s135_111, s135_112, s135_113, s135_115, s135_116, s135_119, s135_120, s135_121, s135_124, s135_126, s135_127, s135_128, s135_131, s135_132, s135_133, s135_136, s135_139, s135_141, s135_142, s135_145, s135_147, s135_150, s135_153, s135_154, s135_157, s135_158, s135_160, s135_162, s135_165, s135_166, s135_168, s135_170, s135_173, s135_176, s135_177, s135_179, s135_181, s135_184, s135_185, s135_187, s135_189, s135_192, s135_195, s135_196, s135_199, s135_200, s135_203, s135_206, s135_208, s135_211, s135_213, s135_215, s135_216, s135_219, s135_221, s135_222, s135_223, s135_226, s135_227, s135_230, s135_231, s135_234, s135_237, s135_240, s135_243, s135_244, s135_247, s135_250, s135_252, s135_253, s135_255, s135_256, s135_257, s135_259, s135_261, s135_264, s135_265, s135_267, s135_270, s135_271, s135_273, s135_276, s135_277, s135_278, s135_281, s135_282, s135_284, s135_287, s135_288, s135_290, s135_292, s135_294, s135_295, s135_297, s135_299, s135_302, s135_303, s135_306, s135_307, s135_310, s135_312, s135_315, s135_318, s135_319, mq_k0s, mq_k1s, mq_k2s, mq_k4s, mq_k5s, mq_k5n, mq_k5as, mq_k6s, mj_pu, mj_lo, mj_br, mj_hr, mj_hw, mq_gf, mq_len, mq_al, mq_pf, mq_ok, mj_re, mq_lkm, mq_lkn, mj_ldi, mj_ldl, mj_lda, mj_ii, mj_ll, mj_li, mj_i1, ms_1, ms_2, f1_n, f1_i, f1_r, f1_u, f1_l, f2_n, f2_i, f2_r, f2_u, f2_l, mj_tg, mj_c1, mj_c2, mj_ar, mj_aw, mq_cb, mq_oi, mj_rm, Value.category, -getElem?_pos, List.getElem?_cons_zero, decide_eq_true, decide_eq_false, nl_lt, nl_le, ln_lt, ln_le, nl_eq, ln_eq, nl_add, ln_add, nl_sub, ln_mul, nI_sub, nI_mul, nI_add, nI_lt_iff, nI_le_iff, nI_inj, nI_num, mq_ix, nI_1, nl_mul, nl_div, x0, vf, hok, narrow]
  rw [if_neg (by simp [hok])]
  obtain ⟨y2, v2, a2⟩ := q_mem (d := d + 8) (num := 2) (by decide) hI
  obtain ⟨y5, v5, a5⟩ := q_mem (d := d + 8) (num := 5) (by decide) hI
  obtain ⟨y6, v6, a6⟩ := q_mem (d := d + 8) (num := 6) (by decide) hI
  obtain ⟨y7, v7, a7⟩ := q_mem (d := d + 8) (num := 7) (by decide) hI
  have w2 := q_four (d := d + 7) hI a2
  obtain ⟨yv, vv, av⟩ := q_named (d := d + 4) hI a5 z.s4
  rw [show cbMb ms (cbTx ms uv_) (mem ms 5) = cbNm ms uv_ (mem ms 5) from rfl] at av
  have wv := (q_sim (d := d + 8) hI av).1
  have n6 := iA.neg hI a6
  simp only [show nI 2 = 2 from rfl, show nI 5 = 5 from rfl, show nI 6 = 6 from rfl, show nI 7 = 7 from rfl] at v2 v5 v6 v7
  cases c3 : oSim ms 21 (cbNm ms uv_ (mem ms 5)) with
  | true =>
    rw [c3, it_t] at wv
    refine ⟨M, row, ?_, z, fx.rf⟩
    simp (disch := (first | omega | decide)) [c135, s135_0, s135_1, s135_4, s135_5, s135_6, s135_9, s135_10, s135_11, s135_12, s135_15, s135_16, s135_19, s135_20, s135_21, s135_24, s135_27, s135_28, s135_29, s135_32, s135_33, s135_34, s135_37, s135_38, s135_39, s135_42, s135_43, s135_45, s135_48, s135_50, s135_51, s135_53, s135_54, s135_57, s135_58, s135_61, s135_62, s135_64, s135_67, s135_70, s135_73, s135_75, s135_76, s135_78, s135_79, s135_82, s135_83, s135_85, s135_86, s135_89, s135_90, s135_92, s135_95, s135_96, s135_99, s135_101, s135_103, s135_106, s135_108, s135_109, s135_111, s135_112, s135_113, s135_115, s135_116, s135_119, s135_120, s135_121, s135_124, s135_126, s135_127, s135_128, s135_131, s135_132, s135_133, s135_136, s135_139, s135_141, s135_142, s135_145, s135_147, s135_150, s135_153, s135_154, s135_157, s135_158, s135_160, s135_162, s135_165, s135_166, s135_168, s135_170, s135_173, s135_176, s135_177, s135_179, s135_181, s135_184, s135_185, s135_187, s135_189, s135_192, s135_195, s135_196, s135_199, s135_200, s135_203, s135_206, s135_208, s135_211, s135_213, s135_215, s135_216, s135_219, s135_221, s135_222, s135_223, s135_226, s135_227, s135_230, s135_231, s135_234, s135_237, s135_240, s135_243, s135_244, s135_247, s135_250, s135_252, s135_253, s135_255, s135_256, s135_257, s135_259, s135_261, s135_264, s135_265, s135_267, s135_270, s135_271, s135_273, s135_276, s135_277, s135_278, s135_281, s135_282, s135_284, s135_287, s135_288, s135_290, s135_292, s135_294, s135_295, s135_297, s135_299, s135_302, s135_303, s135_306, s135_307, s135_310, s135_312, s135_315, s135_318, s135_319, mq_k0s, mq_k1s, mq_k2s, mq_k4s, mq_k5s, mq_k5n, mq_k5as, mq_k6s, mj_pu, mj_lo, mj_br, mj_hr, mj_hw, mq_gf, mq_len, mq_al, mq_pf, mq_ok, mj_re, mq_lkm, mq_lkn, mj_ldi, mj_ldl, mj_lda, mj_ii, mj_ll, mj_li, mj_i1, ms_1, ms_2, f1_n, f1_i, f1_r, f1_u, f1_l, f2_n, f2_i, f2_r, f2_u, f2_l, mj_tg, mj_c1, mj_c2, mj_ar, mj_aw, mq_cb, mq_oi, mj_rm, Value.category, -getElem?_pos, List.getElem?_cons_zero, decide_eq_true, decide_eq_false, nl_lt, nl_le, ln_lt, ln_le, nl_eq, ln_eq, nl_add, ln_add, nl_sub, ln_mul, nI_sub, nI_mul, nI_add, nI_lt_iff, nI_le_iff, nI_inj, nI_num, mq_ix, nI_1, nl_mul, nl_div, x0, vf, hok, ho, v2, w2, v5, v6, vv, wv, narrow]
  | false =>
  rw [c3, it_f] at wv
  rw [if_neg (by simp)]
  by_cases c4 : mem ms 6 = none
  · have e6 := n6.mpr c4
    have epin : sg_pin ms k T = (0, k) := by unfold sg_pin; rw [if_pos c4]
    have ef : sg_f0 ms = 0 := by unfold sg_f0; rw [if_pos c4]
    rw [epin, if_neg (by simp)]
    obtain ⟨M2, row2, p2, z2, f2⟩ := sg_fin (d := d) (y6 := y6) z hI hw hon hwt hf hr hok a5
    refine ⟨M2, row2, ?_, z2, f2⟩
    rw [ef, e6] at p2
    simp (disch := (first | omega | decide)) [c135, s135_0, s135_1, s135_4, s135_5, s135_6, s135_9, s135_10, s135_11, s135_12, s135_15, s135_16, s135_19, s135_20, s135_21, s135_24, s135_27, s135_28, s135_29, s135_32, s135_33, s135_34, s135_37, s135_38, s135_39, s135_42, s135_43, s135_45, s135_48, s135_50, s135_51, s135_53, s135_54, s135_57, s135_58, s135_61, s135_62, s135_64, s135_67, s135_70, s135_73, s135_75, s135_76, s135_78, s135_79, s135_82, s135_83, s135_85, s135_86, s135_89, s135_90, s135_92, s135_95, s135_96, s135_99, s135_101, s135_103, s135_106, s135_108, s135_109, s135_111, s135_112, s135_113, s135_116, s135_119, s135_120, s135_121, s135_124, s135_126, s135_127, s135_128, s135_131, s135_132, s135_133, s135_136, s135_139, s135_141, s135_142, s135_145, s135_147, s135_150, s135_153, s135_154, s135_157, s135_158, s135_160, s135_162, s135_165, s135_166, s135_168, s135_170, s135_173, s135_176, s135_177, s135_179, s135_181, s135_184, s135_185, s135_187, s135_189, s135_192, s135_195, s135_196, s135_199, s135_200, s135_203, s135_206, s135_208, s135_211, s135_213, s135_215, s135_216, s135_219, s135_221, s135_222, s135_223, s135_226, s135_227, s135_230, s135_231, s135_234, s135_237, s135_240, s135_243, s135_244, s135_247, s135_250, s135_252, s135_253, s135_255, s135_256, s135_257, s135_259, s135_261, s135_264, s135_265, s135_267, s135_270, s135_271, s135_273, s135_276, s135_277, s135_278, s135_281, s135_282, s135_284, s135_287, s135_288, s135_290, s135_292, s135_294, s135_295, s135_297, s135_299, s135_302, s135_303, s135_306, s135_307, s135_310, s135_312, s135_315, s135_318, s135_319, mq_k0s, mq_k1s, mq_k2s, mq_k4s, mq_k5s, mq_k5n, mq_k5as, mq_k6s, mj_pu, mj_lo, mj_br, mj_hr, mj_hw, mq_gf, mq_len, mq_al, mq_pf, mq_ok, mj_re, mq_lkm, mq_lkn, mj_ldi, mj_ldl, mj_lda, mj_ii, mj_ll, mj_li, mj_i1, ms_1, ms_2, f1_n, f1_i, f1_r, f1_u, f1_l, f2_n, f2_i, f2_r, f2_u, f2_l, mj_tg, mj_c1, mj_c2, mj_ar, mj_aw, mq_cb, mq_oi, mj_rm, Value.category, -getElem?_pos, List.getElem?_cons_zero, decide_eq_true, decide_eq_false, nl_lt, nl_le, ln_lt, ln_le, nl_eq, ln_eq, nl_add, ln_add, nl_sub, ln_mul, nI_sub, nI_mul, nI_add, nI_lt_iff, nI_le_iff, nI_inj, nI_num, mq_ix, nI_1, nl_mul, nl_div, x0, vf, hok, ho, v2, w2, v5, v6, vv, wv, e6]
    refine mq_wk ?_ p2
    simp [mq_sub, mj_lk]
  · have e6 : ¬ y6 = -1 := fun q => c4 (n6.mp q)
    have epin : sg_pin ms k T = pnTest k T ms (mem ms 6) (mem ms 7) (o4 ms (mem ms 2)) := by unfold sg_pin; rw [if_neg c4]
    have ef : sg_f0 ms = 4 := by unfold sg_f0; rw [if_neg c4]
    obtain ⟨M2, row2, p2, z2, f2⟩ := ky_pt (d := d + 5) z hI hwt a6 a7 (o4 ms (mem ms 2))
    rw [epin]
    by_cases c5 : (pnTest k T ms (mem ms 6) (mem ms 7) (o4 ms (mem ms 2))).1 = 0
    · rw [if_neg (by simp [c5])]
      rw [pn_0 c5] at z2
      rw [c5] at p2
      have hI2 := z.it f2 hI
      obtain ⟨M3, row3, p3, z3, f3⟩ := sg_fin (d := d) (y6 := y6) z2 hI2 hw hon hwt hf hr hok a5
      refine ⟨M3, row3, ?_, z3, f2.trs f3⟩
      rw [ef] at p3
      simp (disch := (first | omega | decide)) [c135, s135_0, s135_1, s135_4, s135_5, s135_6, s135_9, s135_10, s135_11, s135_12, s135_15, s135_16, s135_19, s135_20, s135_21, s135_24, s135_27, s135_28, s135_29, s135_32, s135_33, s135_34, s135_37, s135_38, s135_39, s135_42, s135_43, s135_45, s135_48, s135_50, s135_51, s135_53, s135_54, s135_57, s135_58, s135_61, s135_62, s135_64, s135_67, s135_70, s135_73, s135_75, s135_76, s135_78, s135_79, s135_82, s135_83, s135_85, s135_86, s135_89, s135_90, s135_92, s135_95, s135_96, s135_99, s135_101, s135_103, s135_106, s135_108, s135_109, s135_111, s135_112, s135_113, s135_116, s135_119, s135_120, s135_121, s135_124, s135_126, s135_127, s135_128, s135_131, s135_132, s135_133, s135_136, s135_139, s135_141, s135_142, s135_145, s135_147, s135_150, s135_153, s135_154, s135_157, s135_158, s135_160, s135_162, s135_165, s135_166, s135_168, s135_170, s135_173, s135_176, s135_177, s135_179, s135_181, s135_184, s135_185, s135_187, s135_189, s135_192, s135_195, s135_196, s135_199, s135_200, s135_203, s135_206, s135_208, s135_211, s135_213, s135_215, s135_216, s135_219, s135_221, s135_222, s135_223, s135_226, s135_227, s135_230, s135_231, s135_234, s135_237, s135_240, s135_243, s135_244, s135_247, s135_250, s135_252, s135_253, s135_255, s135_256, s135_257, s135_259, s135_261, s135_264, s135_265, s135_267, s135_270, s135_271, s135_273, s135_276, s135_277, s135_278, s135_281, s135_282, s135_284, s135_287, s135_288, s135_290, s135_292, s135_294, s135_295, s135_297, s135_299, s135_302, s135_303, s135_306, s135_307, s135_310, s135_312, s135_315, s135_318, s135_319, mq_k0s, mq_k1s, mq_k2s, mq_k4s, mq_k5s, mq_k5n, mq_k5as, mq_k6s, mj_pu, mj_lo, mj_br, mj_hr, mj_hw, mq_gf, mq_len, mq_al, mq_pf, mq_ok, mj_re, mq_lkm, mq_lkn, mj_ldi, mj_ldl, mj_lda, mj_ii, mj_ll, mj_li, mj_i1, ms_1, ms_2, f1_n, f1_i, f1_r, f1_u, f1_l, f2_n, f2_i, f2_r, f2_u, f2_l, mj_tg, mj_c1, mj_c2, mj_ar, mj_aw, mq_cb, mq_oi, mj_rm, Value.category, -getElem?_pos, List.getElem?_cons_zero, decide_eq_true, decide_eq_false, nl_lt, nl_le, ln_lt, ln_le, nl_eq, ln_eq, nl_add, ln_add, nl_sub, ln_mul, nI_sub, nI_mul, nI_add, nI_lt_iff, nI_le_iff, nI_inj, nI_num, mq_ix, nI_1, nl_mul, nl_div, x0, vf, hok, ho, v2, w2, v5, v6, vv, wv, e6, v7, p2]
      refine mq_wk ?_ p3
      simp [mq_sub, mj_lk]
    · rw [if_pos c5]
      refine ⟨M2, row2, ?_, z2, f2⟩
      simp (disch := (first | omega | decide)) [c135, s135_0, s135_1, s135_4, s135_5, s135_6, s135_9, s135_10, s135_11, s135_12, s135_15, s135_16, s135_19, s135_20, s135_21, s135_24, s135_27, s135_28, s135_29, s135_32, s135_33, s135_34, s135_37, s135_38, s135_39, s135_42, s135_43, s135_45, s135_48, s135_50, s135_51, s135_53, s135_54, s135_57, s135_58, s135_61, s135_62, s135_64, s135_67, s135_70, s135_73, s135_75, s135_76, s135_78, s135_79, s135_82, s135_83, s135_85, s135_86, s135_89, s135_90, s135_92, s135_95, s135_96, s135_99, s135_101, s135_103, s135_106, s135_108, s135_109, s135_111, s135_112, s135_113, s135_115, s135_116, s135_119, s135_120, s135_121, s135_124, s135_126, s135_127, s135_128, s135_131, s135_132, s135_133, s135_136, s135_139, s135_141, s135_142, s135_145, s135_147, s135_150, s135_153, s135_154, s135_157, s135_158, s135_160, s135_162, s135_165, s135_166, s135_168, s135_170, s135_173, s135_176, s135_177, s135_179, s135_181, s135_184, s135_185, s135_187, s135_189, s135_192, s135_195, s135_196, s135_199, s135_200, s135_203, s135_206, s135_208, s135_211, s135_213, s135_215, s135_216, s135_219, s135_221, s135_222, s135_223, s135_226, s135_227, s135_230, s135_231, s135_234, s135_237, s135_240, s135_243, s135_244, s135_247, s135_250, s135_252, s135_253, s135_255, s135_256, s135_257, s135_259, s135_261, s135_264, s135_265, s135_267, s135_270, s135_271, s135_273, s135_276, s135_277, s135_278, s135_281, s135_282, s135_284, s135_287, s135_288, s135_290, s135_292, s135_294, s135_295, s135_297, s135_299, s135_302, s135_303, s135_306, s135_307, s135_310, s135_312, s135_315, s135_318, s135_319, mq_k0s, mq_k1s, mq_k2s, mq_k4s, mq_k5s, mq_k5n, mq_k5as, mq_k6s, mj_pu, mj_lo, mj_br, mj_hr, mj_hw, mq_gf, mq_len, mq_al, mq_pf, mq_ok, mj_re, mq_lkm, mq_lkn, mj_ldi, mj_ldl, mj_lda, mj_ii, mj_ll, mj_li, mj_i1, ms_1, ms_2, f1_n, f1_i, f1_r, f1_u, f1_l, f2_n, f2_i, f2_r, f2_u, f2_l, mj_tg, mj_c1, mj_c2, mj_ar, mj_aw, mq_cb, mq_oi, mj_rm, Value.category, -getElem?_pos, List.getElem?_cons_zero, decide_eq_true, decide_eq_false, nl_lt, nl_le, ln_lt, ln_le, nl_eq, ln_eq, nl_add, ln_add, nl_sub, ln_mul, nI_sub, nI_mul, nI_add, nI_lt_iff, nI_le_iff, nI_inj, nI_num, mq_ix, nI_1, nl_mul, nl_div, x0, vf, hok, ho, v2, w2, v5, v6, vv, wv, e6, v7, p2, c5, narrow]
end KZ
end
/- 91.key11 -/
section
set_option maxRecDepth 512
/-! Class: Key: PIN. -/
/- 146 PasskeyHouse$Key.tellTerm(II)V -/
theorem s146_0 {d : Nat} {ls : mj_L} {st : List Value} {M : mj_H} : mj_Rn d mj_m146 0 ls st M = mq_k0 d mj_m146 1 ls M (mj_lda (mj_lk ls 0) st) := mj_R0 (r := (.aload_n 0, 1, 0, 0, 0)) rfl rfl
theorem s146_1 {d : Nat} {ls : mj_L} {st : List Value} {M : mj_H} : mj_Rn d mj_m146 1 ls st M = mq_k0 d mj_m146 4 ls M (mq_gf 5 3 st M) := (mj_R3 (r := (.getfield 31, 3, 5, 3, 16604)) rfl rfl).trans (congrArg (mq_k0 d mj_m146 4 ls M) mq_gf_eq)
theorem s146_4 {d : Nat} {ls : mj_L} {st : List Value} {M : mj_H} : mj_Rn d mj_m146 4 ls st M = mj_Rn d mj_m146 5 ls (.int 5 :: st) M := mj_R0 (r := (.iconst 5, 1, 0, 0, 0)) rfl rfl
theorem s146_5 {d : Nat} {ls : mj_L} {st : List Value} {M : mj_H} : mj_Rn d mj_m146 5 ls st M = mj_Rn d mj_m146 6 ls (.int 1 :: st) M := mj_R0 (r := (.iconst 1, 1, 0, 0, 0)) rfl rfl
theorem s146_6 {d : Nat} {ls : mj_L} {st : List Value} {M : mj_H} : mj_Rn (d + 1) mj_m146 6 ls st M = mq_k5a (d + 1) mj_m146 9 ls M 131 (mq_cb 0 2 1 st M) := mj_R5e (r := (.invokevirtual 313, 3, 0, 131, 16540)) (z := mj_m131) rfl rfl (by decide) (by decide) rfl
theorem s146_9 {d : Nat} {ls : mj_L} {st : List Value} {M : mj_H} : mj_Rn d mj_m146 9 ls st M = mq_k0 d mj_m146 10 ls M (mj_lda (mj_lk ls 0) st) := mj_R0 (r := (.aload_n 0, 1, 0, 0, 0)) rfl rfl
theorem s146_10 {d : Nat} {ls : mj_L} {st : List Value} {M : mj_H} : mj_Rn d mj_m146 10 ls st M = mq_k0 d mj_m146 13 ls M (mq_gf 5 3 st M) := (mj_R3 (r := (.getfield 31, 3, 5, 3, 16604)) rfl rfl).trans (congrArg (mq_k0 d mj_m146 13 ls M) mq_gf_eq)
theorem s146_13 {d : Nat} {ls : mj_L} {st : List Value} {M : mj_H} : mj_Rn d mj_m146 13 ls st M = mq_k0 d mj_m146 14 ls M (mj_ldi (mj_lk ls 1) st) := mj_R0 (r := (.iload_n 1, 1, 0, 0, 0)) rfl rfl
theorem s146_14 {d : Nat} {ls : mj_L} {st : List Value} {M : mj_H} : mj_Rn (d + 1) mj_m146 14 ls st M = mq_k5a (d + 1) mj_m146 17 ls M 45 (mq_cb 0 1 1 st M) := mj_R5e (r := (.invokevirtual 102, 3, 0, 45, 12442)) (z := mj_m45) rfl rfl (by decide) (by decide) rfl
theorem s146_17 {d : Nat} {ls : mj_L} {st : List Value} {M : mj_H} : mj_Rn d mj_m146 17 ls st M = mq_k0 d mj_m146 18 ls M (mj_lda (mj_lk ls 0) st) := mj_R0 (r := (.aload_n 0, 1, 0, 0, 0)) rfl rfl
theorem s146_18 {d : Nat} {ls : mj_L} {st : List Value} {M : mj_H} : mj_Rn d mj_m146 18 ls st M = mq_k0 d mj_m146 21 ls M (mq_gf 5 3 st M) := (mj_R3 (r := (.getfield 31, 3, 5, 3, 16604)) rfl rfl).trans (congrArg (mq_k0 d mj_m146 21 ls M) mq_gf_eq)
theorem s146_21 {d : Nat} {ls : mj_L} {st : List Value} {M : mj_H} : mj_Rn d mj_m146 21 ls st M = mq_k0 d mj_m146 22 ls M (mj_ldi (mj_lk ls 2) st) := mj_R0 (r := (.iload_n 2, 1, 0, 0, 0)) rfl rfl
theorem s146_22 {d : Nat} {ls : mj_L} {st : List Value} {M : mj_H} : mj_Rn (d + 1) mj_m146 22 ls st M = mq_k5a (d + 1) mj_m146 25 ls M 134 (mq_cb 0 1 1 st M) := mj_R5e (r := (.invokevirtual 331, 3, 0, 134, 16559)) (z := mj_m134) rfl rfl (by decide) (by decide) rfl
theorem s146_25 {d : Nat} {ls : mj_L} {st : List Value} {M : mj_H} : mj_Rn d mj_m146 25 ls st M = mq_k6 M (mj_re none (.return_) st) := mj_R6 (r := (.return_, 1, 0, 0, 0)) rfl rfl
/- 148 PasskeyHouse$Key.settingFault()I -/
theorem s148_0 {d : Nat} {ls : mj_L} {st : List Value} {M : mj_H} : mj_Rn d mj_m148 0 ls st M = mq_k0 d mj_m148 1 ls M (mj_lda (mj_lk ls 0) st) := mj_R0 (r := (.aload_n 0, 1, 0, 0, 0)) rfl rfl
theorem s148_1 {d : Nat} {ls : mj_L} {st : List Value} {M : mj_H} : mj_Rn d mj_m148 1 ls st M = mq_k0 d mj_m148 4 ls M (mq_gf 5 2 st M) := (mj_R3 (r := (.getfield 22, 3, 5, 2, 16600)) rfl rfl).trans (congrArg (mq_k0 d mj_m148 4 ls M) mq_gf_eq)
theorem s148_4 {d : Nat} {ls : mj_L} {st : List Value} {M : mj_H} : mj_Rn d mj_m148 4 ls st M = mq_k0 d mj_m148 7 ls M (mq_gf 8 11 st M) := (mj_R3 (r := (.getfield 194, 3, 8, 11, 16517)) rfl rfl).trans (congrArg (mq_k0 d mj_m148 7 ls M) mq_gf_eq)
theorem s148_7 {d : Nat} {ls : mj_L} {st : List Value} {M : mj_H} : mj_Rn d mj_m148 7 ls st M = mq_k2 d mj_m148 ls M (mj_br (.ifCond .eq 8) 7 st) := mj_R2 (r := (.ifCond .eq 8, 3, 0, 0, 0)) rfl rfl
theorem s148_10 {d : Nat} {ls : mj_L} {st : List Value} {M : mj_H} : mj_Rn d mj_m148 10 ls st M = mj_Rn d mj_m148 12 ls (.int 51 :: st) M := mj_R0 (r := (.bipush 51, 2, 0, 0, 0)) rfl rfl
theorem s148_12 {d : Nat} {ls : mj_L} {st : List Value} {M : mj_H} : mj_Rn d mj_m148 12 ls st M = mj_Rn d mj_m148 16 ls st M := mj_R2 (r := (.goto 4, 3, 0, 0, 0)) rfl rfl
theorem s148_15 {d : Nat} {ls : mj_L} {st : List Value} {M : mj_H} : mj_Rn d mj_m148 15 ls st M = mj_Rn d mj_m148 16 ls (.int 0 :: st) M := mj_R0 (r := (.iconst 0, 1, 0, 0, 0)) rfl rfl
theorem s148_16 {d : Nat} {ls : mj_L} {st : List Value} {M : mj_H} : mj_Rn d mj_m148 16 ls st M = mq_k6 M (mj_re (some .int) (.ireturn) st) := mj_R6 (r := (.ireturn, 1, 0, 0, 0)) rfl rfl
/- 149 PasskeyHouse$Key.tryingFault()I -/
theorem s149_0 {d : Nat} {ls : mj_L} {st : List Value} {M : mj_H} : mj_Rn d mj_m149 0 ls st M = mq_k0 d mj_m149 1 ls M (mj_lda (mj_lk ls 0) st) := mj_R0 (r := (.aload_n 0, 1, 0, 0, 0)) rfl rfl
theorem s149_1 {d : Nat} {ls : mj_L} {st : List Value} {M : mj_H} : mj_Rn d mj_m149 1 ls st M = mq_k0 d mj_m149 4 ls M (mq_gf 5 2 st M) := (mj_R3 (r := (.getfield 22, 3, 5, 2, 16600)) rfl rfl).trans (congrArg (mq_k0 d mj_m149 4 ls M) mq_gf_eq)
theorem s149_4 {d : Nat} {ls : mj_L} {st : List Value} {M : mj_H} : mj_Rn d mj_m149 4 ls st M = mq_k0 d mj_m149 7 ls M (mq_gf 8 11 st M) := (mj_R3 (r := (.getfield 194, 3, 8, 11, 16517)) rfl rfl).trans (congrArg (mq_k0 d mj_m149 7 ls M) mq_gf_eq)
theorem s149_7 {d : Nat} {ls : mj_L} {st : List Value} {M : mj_H} : mj_Rn d mj_m149 7 ls st M = mq_k2 d mj_m149 ls M (mj_br (.ifCond .ne 6) 7 st) := mj_R2 (r := (.ifCond .ne 6, 3, 0, 0, 0)) rfl rfl
theorem s149_10 {d : Nat} {ls : mj_L} {st : List Value} {M : mj_H} : mj_Rn d mj_m149 10 ls st M = mj_Rn d mj_m149 12 ls (.int 53 :: st) M := mj_R0 (r := (.bipush 53, 2, 0, 0, 0)) rfl rfl
theorem s149_12 {d : Nat} {ls : mj_L} {st : List Value} {M : mj_H} : mj_Rn d mj_m149 12 ls st M = mq_k6 M (mj_re (some .int) (.ireturn) st) := mj_R6 (r := (.ireturn, 1, 0, 0, 0)) rfl rfl
theorem s149_13 {d : Nat} {ls : mj_L} {st : List Value} {M : mj_H} : mj_Rn d mj_m149 13 ls st M = mq_k0 d mj_m149 14 ls M (mj_lda (mj_lk ls 0) st) := mj_R0 (r := (.aload_n 0, 1, 0, 0, 0)) rfl rfl
theorem s149_14 {d : Nat} {ls : mj_L} {st : List Value} {M : mj_H} : mj_Rn d mj_m149 14 ls st M = mq_k0 d mj_m149 17 ls M (mq_gf 5 2 st M) := (mj_R3 (r := (.getfield 22, 3, 5, 2, 16600)) rfl rfl).trans (congrArg (mq_k0 d mj_m149 17 ls M) mq_gf_eq)
theorem s149_17 {d : Nat} {ls : mj_L} {st : List Value} {M : mj_H} : mj_Rn d mj_m149 17 ls st M = mq_k0 d mj_m149 20 ls M (mq_gf 8 12 st M) := (mj_R3 (r := (.getfield 382, 3, 8, 12, 16521)) rfl rfl).trans (congrArg (mq_k0 d mj_m149 20 ls M) mq_gf_eq)
theorem s149_20 {d : Nat} {ls : mj_L} {st : List Value} {M : mj_H} : mj_Rn d mj_m149 20 ls st M = mq_k2 d mj_m149 ls M (mj_br (.ifCond .ne 6) 20 st) := mj_R2 (r := (.ifCond .ne 6, 3, 0, 0, 0)) rfl rfl
theorem s149_23 {d : Nat} {ls : mj_L} {st : List Value} {M : mj_H} : mj_Rn d mj_m149 23 ls st M = mj_Rn d mj_m149 25 ls (.int 50 :: st) M := mj_R0 (r := (.bipush 50, 2, 0, 0, 0)) rfl rfl
theorem s149_25 {d : Nat} {ls : mj_L} {st : List Value} {M : mj_H} : mj_Rn d mj_m149 25 ls st M = mq_k6 M (mj_re (some .int) (.ireturn) st) := mj_R6 (r := (.ireturn, 1, 0, 0, 0)) rfl rfl
theorem s149_26 {d : Nat} {ls : mj_L} {st : List Value} {M : mj_H} : mj_Rn d mj_m149 26 ls st M = mq_k0 d mj_m149 27 ls M (mj_lda (mj_lk ls 0) st) := mj_R0 (r := (.aload_n 0, 1, 0, 0, 0)) rfl rfl
theorem s149_27 {d : Nat} {ls : mj_L} {st : List Value} {M : mj_H} : mj_Rn d mj_m149 27 ls st M = mq_k0 d mj_m149 30 ls M (mq_gf 5 10 st M) := (mj_R3 (r := (.getfield 74, 3, 5, 10, 16620)) rfl rfl).trans (congrArg (mq_k0 d mj_m149 30 ls M) mq_gf_eq)
theorem s149_30 {d : Nat} {ls : mj_L} {st : List Value} {M : mj_H} : mj_Rn d mj_m149 30 ls st M = mj_Rn d mj_m149 31 ls (.int 3 :: st) M := mj_R0 (r := (.iconst 3, 1, 0, 0, 0)) rfl rfl
theorem s149_31 {d : Nat} {ls : mj_L} {st : List Value} {M : mj_H} : mj_Rn d mj_m149 31 ls st M = mq_k2 d mj_m149 ls M (mj_br (.if_icmp .lt 8) 31 st) := mj_R2 (r := (.if_icmp .lt 8, 3, 0, 0, 0)) rfl rfl
theorem s149_34 {d : Nat} {ls : mj_L} {st : List Value} {M : mj_H} : mj_Rn d mj_m149 34 ls st M = mj_Rn d mj_m149 36 ls (.int 52 :: st) M := mj_R0 (r := (.bipush 52, 2, 0, 0, 0)) rfl rfl
theorem s149_36 {d : Nat} {ls : mj_L} {st : List Value} {M : mj_H} : mj_Rn d mj_m149 36 ls st M = mj_Rn d mj_m149 40 ls st M := mj_R2 (r := (.goto 4, 3, 0, 0, 0)) rfl rfl
theorem s149_39 {d : Nat} {ls : mj_L} {st : List Value} {M : mj_H} : mj_Rn d mj_m149 39 ls st M = mj_Rn d mj_m149 40 ls (.int 0 :: st) M := mj_R0 (r := (.iconst 0, 1, 0, 0, 0)) rfl rfl
theorem s149_40 {d : Nat} {ls : mj_L} {st : List Value} {M : mj_H} : mj_Rn d mj_m149 40 ls st M = mq_k6 M (mj_re (some .int) (.ireturn) st) := mj_R6 (r := (.ireturn, 1, 0, 0, 0)) rfl rfl
/- 150 PasskeyHouse$Key.isProved(IZ)Z -/
theorem s150_0 {d : Nat} {ls : mj_L} {st : List Value} {M : mj_H} : mj_Rn d mj_m150 0 ls st M = mq_k0 d mj_m150 1 ls M (mj_lda (mj_lk ls 0) st) := mj_R0 (r := (.aload_n 0, 1, 0, 0, 0)) rfl rfl
theorem s150_1 {d : Nat} {ls : mj_L} {st : List Value} {M : mj_H} : mj_Rn d mj_m150 1 ls st M = mq_k0 d mj_m150 4 ls M (mq_gf 5 0 st M) := (mj_R3 (r := (.getfield 9, 3, 5, 0, 16596)) rfl rfl).trans (congrArg (mq_k0 d mj_m150 4 ls M) mq_gf_eq)
theorem s150_4 {d : Nat} {ls : mj_L} {st : List Value} {M : mj_H} : mj_Rn d mj_m150 4 ls st M = mj_Rn d mj_m150 5 ls (.int 5 :: st) M := mj_R0 (r := (.iconst 5, 1, 0, 0, 0)) rfl rfl
theorem s150_5 {d : Nat} {ls : mj_L} {st : List Value} {M : mj_H} : mj_Rn (d + 1) mj_m150 5 ls st M = mq_k5a (d + 1) mj_m150 8 ls M 28 (mq_cb 0 1 9 st M) := mj_R5e (r := (.invokevirtual 145, 3, 0, 28, 16456)) (z := mj_m28) rfl rfl (by decide) (by decide) rfl
theorem s150_8 {d : Nat} {ls : mj_L} {st : List Value} {M : mj_H} : mj_Rn d mj_m150 8 ls st M = mq_k0 d mj_m150 9 ls M (mj_lda (mj_lk ls 0) st) := mj_R0 (r := (.aload_n 0, 1, 0, 0, 0)) rfl rfl
theorem s150_9 {d : Nat} {ls : mj_L} {st : List Value} {M : mj_H} : mj_Rn d mj_m150 9 ls st M = mq_k0 d mj_m150 12 ls M (mq_gf 5 0 st M) := (mj_R3 (r := (.getfield 9, 3, 5, 0, 16596)) rfl rfl).trans (congrArg (mq_k0 d mj_m150 12 ls M) mq_gf_eq)
theorem s150_12 {d : Nat} {ls : mj_L} {st : List Value} {M : mj_H} : mj_Rn d mj_m150 12 ls st M = mq_k0 d mj_m150 13 ls M (mj_ldi (mj_lk ls 1) st) := mj_R0 (r := (.iload_n 1, 1, 0, 0, 0)) rfl rfl
theorem s150_13 {d : Nat} {ls : mj_L} {st : List Value} {M : mj_H} : mj_Rn (d + 1) mj_m150 13 ls st M = mq_k5a (d + 1) mj_m150 16 ls M 29 (mq_cb 0 1 9 st M) := mj_R5e (r := (.invokevirtual 197, 3, 0, 29, 16500)) (z := mj_m29) rfl rfl (by decide) (by decide) rfl
theorem s150_16 {d : Nat} {ls : mj_L} {st : List Value} {M : mj_H} : mj_Rn d mj_m150 16 ls st M = mj_Rn d mj_m150 17 ls (.int 5 :: st) M := mj_R0 (r := (.iconst 5, 1, 0, 0, 0)) rfl rfl
theorem s150_17 {d : Nat} {ls : mj_L} {st : List Value} {M : mj_H} : mj_Rn d mj_m150 17 ls st M = mq_k1 d mj_m150 18 M (mj_lo 5 (.istore 3) ls st) := (mj_R1 (r := (.istore_n 3, 1, 0, 0, 0)) rfl rfl).trans (congrArg (mq_k1 d mj_m150 18 M) (mq_sti (k := 3)))
theorem s150_18 {d : Nat} {ls : mj_L} {st : List Value} {M : mj_H} : mj_Rn d mj_m150 18 ls st M = mq_k0 d mj_m150 19 ls M (mj_ldi (mj_lk ls 3) st) := mj_R0 (r := (.iload_n 3, 1, 0, 0, 0)) rfl rfl
theorem s150_19 {d : Nat} {ls : mj_L} {st : List Value} {M : mj_H} : mj_Rn d mj_m150 19 ls st M = mq_k0 d mj_m150 20 ls M (mj_ldi (mj_lk ls 2) st) := mj_R0 (r := (.iload_n 2, 1, 0, 0, 0)) rfl rfl
theorem s150_20 {d : Nat} {ls : mj_L} {st : List Value} {M : mj_H} : mj_Rn d mj_m150 20 ls st M = mq_k2 d mj_m150 ls M (mj_br (.ifCond .eq 8) 20 st) := mj_R2 (r := (.ifCond .eq 8, 3, 0, 0, 0)) rfl rfl
theorem s150_23 {d : Nat} {ls : mj_L} {st : List Value} {M : mj_H} : mj_Rn d mj_m150 23 ls st M = mj_Rn d mj_m150 25 ls (.int 6 :: st) M := mj_R0 (r := (.bipush 6, 2, 0, 0, 0)) rfl rfl
theorem s150_25 {d : Nat} {ls : mj_L} {st : List Value} {M : mj_H} : mj_Rn d mj_m150 25 ls st M = mj_Rn d mj_m150 29 ls st M := mj_R2 (r := (.goto 4, 3, 0, 0, 0)) rfl rfl
theorem s150_28 {d : Nat} {ls : mj_L} {st : List Value} {M : mj_H} : mj_Rn d mj_m150 28 ls st M = mj_Rn d mj_m150 29 ls (.int 5 :: st) M := mj_R0 (r := (.iconst 5, 1, 0, 0, 0)) rfl rfl
theorem s150_29 {d : Nat} {ls : mj_L} {st : List Value} {M : mj_H} : mj_Rn d mj_m150 29 ls st M = mq_k2 d mj_m150 ls M (mj_br (.if_icmp .gt 52) 29 st) := mj_R2 (r := (.if_icmp .gt 52, 3, 0, 0, 0)) rfl rfl
theorem s150_32 {d : Nat} {ls : mj_L} {st : List Value} {M : mj_H} : mj_Rn d mj_m150 32 ls st M = mq_k0 d mj_m150 33 ls M (mj_lda (mj_lk ls 0) st) := mj_R0 (r := (.aload_n 0, 1, 0, 0, 0)) rfl rfl
theorem s150_33 {d : Nat} {ls : mj_L} {st : List Value} {M : mj_H} : mj_Rn d mj_m150 33 ls st M = mq_k0 d mj_m150 36 ls M (mq_gf 5 1 st M) := (mj_R3 (r := (.getfield 15, 3, 5, 1, 16598)) rfl rfl).trans (congrArg (mq_k0 d mj_m150 36 ls M) mq_gf_eq)
theorem s150_36 {d : Nat} {ls : mj_L} {st : List Value} {M : mj_H} : mj_Rn d mj_m150 36 ls st M = mj_Rn d mj_m150 37 ls (.int 0 :: st) M := mj_R0 (r := (.iconst 0, 1, 0, 0, 0)) rfl rfl
theorem s150_37 {d : Nat} {ls : mj_L} {st : List Value} {M : mj_H} : mj_Rn d mj_m150 37 ls st M = mq_k0 d mj_m150 38 ls M (mj_ldi (mj_lk ls 3) st) := mj_R0 (r := (.iload_n 3, 1, 0, 0, 0)) rfl rfl
theorem s150_38 {d : Nat} {ls : mj_L} {st : List Value} {M : mj_H} : mj_Rn (d + 1) mj_m150 38 ls st M = mq_k5a (d + 1) mj_m150 41 ls M 87 (mq_cb 0 2 4 st M) := mj_R5e (r := (.invokevirtual 209, 3, 0, 87, 12485)) (z := mj_m87) rfl rfl (by decide) (by decide) rfl
theorem s150_41 {d : Nat} {ls : mj_L} {st : List Value} {M : mj_H} : mj_Rn d mj_m150 41 ls st M = mq_k1 d mj_m150 43 M (mj_lo 5 (.istore 4) ls st) := mj_R1 (r := (.istore 4, 2, 0, 0, 0)) rfl rfl
theorem s150_43 {d : Nat} {ls : mj_L} {st : List Value} {M : mj_H} : mj_Rn d mj_m150 43 ls st M = mq_k0 d mj_m150 44 ls M (mj_lda (mj_lk ls 0) st) := mj_R0 (r := (.aload_n 0, 1, 0, 0, 0)) rfl rfl
theorem s150_44 {d : Nat} {ls : mj_L} {st : List Value} {M : mj_H} : mj_Rn d mj_m150 44 ls st M = mq_k0 d mj_m150 47 ls M (mq_gf 5 0 st M) := (mj_R3 (r := (.getfield 9, 3, 5, 0, 16596)) rfl rfl).trans (congrArg (mq_k0 d mj_m150 47 ls M) mq_gf_eq)
theorem s150_47 {d : Nat} {ls : mj_L} {st : List Value} {M : mj_H} : mj_Rn d mj_m150 47 ls st M = mq_k0 d mj_m150 48 ls M (mj_lda (mj_lk ls 0) st) := mj_R0 (r := (.aload_n 0, 1, 0, 0, 0)) rfl rfl
theorem s150_48 {d : Nat} {ls : mj_L} {st : List Value} {M : mj_H} : mj_Rn d mj_m150 48 ls st M = mq_k0 d mj_m150 51 ls M (mq_gf 5 1 st M) := (mj_R3 (r := (.getfield 15, 3, 5, 1, 16598)) rfl rfl).trans (congrArg (mq_k0 d mj_m150 51 ls M) mq_gf_eq)
theorem s150_51 {d : Nat} {ls : mj_L} {st : List Value} {M : mj_H} : mj_Rn d mj_m150 51 ls st M = mq_k0 d mj_m150 54 ls M (mq_gf 4 5 st M) := (mj_R3 (r := (.getfield 148, 3, 4, 5, 8379)) rfl rfl).trans (congrArg (mq_k0 d mj_m150 54 ls M) mq_gf_eq)
theorem s150_54 {d : Nat} {ls : mj_L} {st : List Value} {M : mj_H} : mj_Rn d mj_m150 54 ls st M = mq_k0 d mj_m150 55 ls M (mj_lda (mj_lk ls 0) st) := mj_R0 (r := (.aload_n 0, 1, 0, 0, 0)) rfl rfl
theorem s150_55 {d : Nat} {ls : mj_L} {st : List Value} {M : mj_H} : mj_Rn d mj_m150 55 ls st M = mq_k0 d mj_m150 58 ls M (mq_gf 5 1 st M) := (mj_R3 (r := (.getfield 15, 3, 5, 1, 16598)) rfl rfl).trans (congrArg (mq_k0 d mj_m150 58 ls M) mq_gf_eq)
theorem s150_58 {d : Nat} {ls : mj_L} {st : List Value} {M : mj_H} : mj_Rn d mj_m150 58 ls st M = mq_k0 d mj_m150 60 ls M (mj_ldi (mj_lk ls 4) st) := mj_R0 (r := (.iload 4, 2, 0, 0, 0)) rfl rfl
theorem s150_60 {d : Nat} {ls : mj_L} {st : List Value} {M : mj_H} : mj_Rn (d + 1) mj_m150 60 ls st M = mq_k5a (d + 1) mj_m150 63 ls M 94 (mq_cb 0 1 4 st M) := mj_R5e (r := (.invokevirtual 151, 3, 0, 94, 16457)) (z := mj_m94) rfl rfl (by decide) (by decide) rfl
theorem s150_63 {d : Nat} {ls : mj_L} {st : List Value} {M : mj_H} : mj_Rn d mj_m150 63 ls st M = mq_k0 d mj_m150 64 ls M (mj_lda (mj_lk ls 0) st) := mj_R0 (r := (.aload_n 0, 1, 0, 0, 0)) rfl rfl
theorem s150_64 {d : Nat} {ls : mj_L} {st : List Value} {M : mj_H} : mj_Rn d mj_m150 64 ls st M = mq_k0 d mj_m150 67 ls M (mq_gf 5 1 st M) := (mj_R3 (r := (.getfield 15, 3, 5, 1, 16598)) rfl rfl).trans (congrArg (mq_k0 d mj_m150 67 ls M) mq_gf_eq)
theorem s150_67 {d : Nat} {ls : mj_L} {st : List Value} {M : mj_H} : mj_Rn d mj_m150 67 ls st M = mq_k0 d mj_m150 69 ls M (mj_ldi (mj_lk ls 4) st) := mj_R0 (r := (.iload 4, 2, 0, 0, 0)) rfl rfl
theorem s150_69 {d : Nat} {ls : mj_L} {st : List Value} {M : mj_H} : mj_Rn (d + 1) mj_m150 69 ls st M = mq_k5a (d + 1) mj_m150 72 ls M 88 (mq_cb 0 1 4 st M) := mj_R5e (r := (.invokevirtual 154, 3, 0, 88, 16458)) (z := mj_m88) rfl rfl (by decide) (by decide) rfl
theorem s150_72 {d : Nat} {ls : mj_L} {st : List Value} {M : mj_H} : mj_Rn (d + 1) mj_m150 72 ls st M = mq_k5a (d + 1) mj_m150 75 ls M 113 (mq_cb 0 3 9 st M) := mj_R5e (r := (.invokevirtual 157, 3, 0, 113, 16459)) (z := mj_m113) rfl rfl (by decide) (by decide) rfl
theorem s150_75 {d : Nat} {ls : mj_L} {st : List Value} {M : mj_H} : mj_Rn d mj_m150 75 ls st M = mq_k1 d mj_m150 78 M (mj_lo 5 (.iinc 3 1) ls st) := mj_R1 (r := (.iinc 3 1, 3, 0, 0, 0)) rfl rfl
theorem s150_78 {d : Nat} {ls : mj_L} {st : List Value} {M : mj_H} : mj_Rn d mj_m150 78 ls st M = mj_Rn d mj_m150 18 ls st M := mj_R2 (r := (.goto (-60), 3, 0, 0, 0)) rfl rfl
theorem s150_81 {d : Nat} {ls : mj_L} {st : List Value} {M : mj_H} : mj_Rn d mj_m150 81 ls st M = mq_k0 d mj_m150 82 ls M (mj_lda (mj_lk ls 0) st) := mj_R0 (r := (.aload_n 0, 1, 0, 0, 0)) rfl rfl
theorem s150_82 {d : Nat} {ls : mj_L} {st : List Value} {M : mj_H} : mj_Rn d mj_m150 82 ls st M = mq_k0 d mj_m150 83 ls M (mj_lda (mj_lk ls 0) st) := mj_R0 (r := (.aload_n 0, 1, 0, 0, 0)) rfl rfl
theorem s150_83 {d : Nat} {ls : mj_L} {st : List Value} {M : mj_H} : mj_Rn d mj_m150 83 ls st M = mq_k0 d mj_m150 86 ls M (mq_gf 5 1 st M) := (mj_R3 (r := (.getfield 15, 3, 5, 1, 16598)) rfl rfl).trans (congrArg (mq_k0 d mj_m150 86 ls M) mq_gf_eq)
theorem s150_86 {d : Nat} {ls : mj_L} {st : List Value} {M : mj_H} : mj_Rn d mj_m150 86 ls st M = mj_Rn d mj_m150 87 ls (.int 0 :: st) M := mj_R0 (r := (.iconst 0, 1, 0, 0, 0)) rfl rfl
theorem s150_87 {d : Nat} {ls : mj_L} {st : List Value} {M : mj_H} : mj_Rn d mj_m150 87 ls st M = mj_Rn d mj_m150 88 ls (.int 4 :: st) M := mj_R0 (r := (.iconst 4, 1, 0, 0, 0)) rfl rfl
theorem s150_88 {d : Nat} {ls : mj_L} {st : List Value} {M : mj_H} : mj_Rn (d + 1) mj_m150 88 ls st M = mq_k5a (d + 1) mj_m150 91 ls M 87 (mq_cb 0 2 4 st M) := mj_R5e (r := (.invokevirtual 209, 3, 0, 87, 12485)) (z := mj_m87) rfl rfl (by decide) (by decide) rfl
theorem s150_91 {d : Nat} {ls : mj_L} {st : List Value} {M : mj_H} : mj_Rn (d + 1) mj_m150 91 ls st M = mq_k5a (d + 1) mj_m150 94 ls M 123 (mq_cb 0 1 5 st M) := mj_R5e (r := (.invokevirtual 203, 3, 0, 123, 16505)) (z := mj_m123) rfl rfl (by decide) (by decide) rfl
theorem s150_94 {d : Nat} {ls : mj_L} {st : List Value} {M : mj_H} : mj_Rn d mj_m150 94 ls st M = mq_k6 M (mj_re (some .boolean) (.ireturn) st) := mj_R6 (r := (.ireturn, 1, 0, 0, 0)) rfl rfl
/- 151 PasskeyHouse$Key.tryPin(I)I -/
theorem s151_0 {d : Nat} {ls : mj_L} {st : List Value} {M : mj_H} : mj_Rn d mj_m151 0 ls st M = mq_k0 d mj_m151 1 ls M (mj_lda (mj_lk ls 0) st) := mj_R0 (r := (.aload_n 0, 1, 0, 0, 0)) rfl rfl
theorem s151_1 {d : Nat} {ls : mj_L} {st : List Value} {M : mj_H} : mj_Rn d mj_m151 1 ls st M = mq_k0 d mj_m151 4 ls M (mq_gf 5 2 st M) := (mj_R3 (r := (.getfield 22, 3, 5, 2, 16600)) rfl rfl).trans (congrArg (mq_k0 d mj_m151 4 ls M) mq_gf_eq)
theorem s151_4 {d : Nat} {ls : mj_L} {st : List Value} {M : mj_H} : mj_Rn d mj_m151 4 ls st M = mj_Rn d mj_m151 5 ls (.int 3 :: st) M := mj_R0 (r := (.iconst 3, 1, 0, 0, 0)) rfl rfl
theorem s151_5 {d : Nat} {ls : mj_L} {st : List Value} {M : mj_H} : mj_Rn d mj_m151 5 ls st M = mq_k0 d mj_m151 6 ls M (mj_lda (mj_lk ls 0) st) := mj_R0 (r := (.aload_n 0, 1, 0, 0, 0)) rfl rfl
theorem s151_6 {d : Nat} {ls : mj_L} {st : List Value} {M : mj_H} : mj_Rn d mj_m151 6 ls st M = mq_k0 d mj_m151 9 ls M (mq_gf 5 2 st M) := (mj_R3 (r := (.getfield 22, 3, 5, 2, 16600)) rfl rfl).trans (congrArg (mq_k0 d mj_m151 9 ls M) mq_gf_eq)
theorem s151_9 {d : Nat} {ls : mj_L} {st : List Value} {M : mj_H} : mj_Rn d mj_m151 9 ls st M = mq_k0 d mj_m151 12 ls M (mq_gf 8 12 st M) := (mj_R3 (r := (.getfield 382, 3, 8, 12, 16521)) rfl rfl).trans (congrArg (mq_k0 d mj_m151 12 ls M) mq_gf_eq)
theorem s151_12 {d : Nat} {ls : mj_L} {st : List Value} {M : mj_H} : mj_Rn d mj_m151 12 ls st M = mj_Rn d mj_m151 13 ls (.int 1 :: st) M := mj_R0 (r := (.iconst 1, 1, 0, 0, 0)) rfl rfl
theorem s151_13 {d : Nat} {ls : mj_L} {st : List Value} {M : mj_H} : mj_Rn d mj_m151 13 ls st M = mq_k0 d mj_m151 14 ls M (mj_pu .isub ls st) := mj_R0 (r := (.isub, 1, 0, 0, 0)) rfl rfl
theorem s151_14 {d : Nat} {ls : mj_L} {st : List Value} {M : mj_H} : mj_Rn d mj_m151 14 ls st M = mj_Rn d mj_m151 15 ls (.int 0 :: st) M := mj_R0 (r := (.iconst 0, 1, 0, 0, 0)) rfl rfl
theorem s151_15 {d : Nat} {ls : mj_L} {st : List Value} {M : mj_H} : mj_Rn d mj_m151 15 ls st M = mj_Rn d mj_m151 16 ls (.null :: st) M := mj_R0 (r := (.aconst_null, 1, 0, 0, 0)) rfl rfl
theorem s151_16 {d : Nat} {ls : mj_L} {st : List Value} {M : mj_H} : mj_Rn (d + 1) mj_m151 16 ls st M = mq_k5a (d + 1) mj_m151 19 ls M 126 (mq_cb 0 4 8 st M) := mj_R5e (r := (.invokevirtual 298, 3, 0, 126, 16519)) (z := mj_m126) rfl rfl (by decide) (by decide) rfl
theorem s151_19 {d : Nat} {ls : mj_L} {st : List Value} {M : mj_H} : mj_Rn d mj_m151 19 ls st M = mq_k2 d mj_m151 ls M (mj_br (.ifCond .ne 5) 19 st) := mj_R2 (r := (.ifCond .ne 5, 3, 0, 0, 0)) rfl rfl
theorem s151_22 {d : Nat} {ls : mj_L} {st : List Value} {M : mj_H} : mj_Rn d mj_m151 22 ls st M = mj_Rn d mj_m151 23 ls (.int 0 :: st) M := mj_R0 (r := (.iconst 0, 1, 0, 0, 0)) rfl rfl
theorem s151_23 {d : Nat} {ls : mj_L} {st : List Value} {M : mj_H} : mj_Rn d mj_m151 23 ls st M = mq_k6 M (mj_re (some .int) (.ireturn) st) := mj_R6 (r := (.ireturn, 1, 0, 0, 0)) rfl rfl
theorem s151_24 {d : Nat} {ls : mj_L} {st : List Value} {M : mj_H} : mj_Rn d mj_m151 24 ls st M = mq_k0 d mj_m151 25 ls M (mj_lda (mj_lk ls 0) st) := mj_R0 (r := (.aload_n 0, 1, 0, 0, 0)) rfl rfl
theorem s151_25 {d : Nat} {ls : mj_L} {st : List Value} {M : mj_H} : mj_Rn d mj_m151 25 ls st M = mq_k0 d mj_m151 28 ls M (mq_gf 5 0 st M) := (mj_R3 (r := (.getfield 9, 3, 5, 0, 16596)) rfl rfl).trans (congrArg (mq_k0 d mj_m151 28 ls M) mq_gf_eq)
theorem s151_28 {d : Nat} {ls : mj_L} {st : List Value} {M : mj_H} : mj_Rn d mj_m151 28 ls st M = mj_Rn d mj_m151 29 ls (.int 4 :: st) M := mj_R0 (r := (.iconst 4, 1, 0, 0, 0)) rfl rfl
theorem s151_29 {d : Nat} {ls : mj_L} {st : List Value} {M : mj_H} : mj_Rn (d + 1) mj_m151 29 ls st M = mq_k5a (d + 1) mj_m151 32 ls M 28 (mq_cb 0 1 9 st M) := mj_R5e (r := (.invokevirtual 145, 3, 0, 28, 16456)) (z := mj_m28) rfl rfl (by decide) (by decide) rfl
theorem s151_32 {d : Nat} {ls : mj_L} {st : List Value} {M : mj_H} : mj_Rn d mj_m151 32 ls st M = mq_k0 d mj_m151 33 ls M (mj_lda (mj_lk ls 0) st) := mj_R0 (r := (.aload_n 0, 1, 0, 0, 0)) rfl rfl
theorem s151_33 {d : Nat} {ls : mj_L} {st : List Value} {M : mj_H} : mj_Rn d mj_m151 33 ls st M = mq_k0 d mj_m151 36 ls M (mq_gf 5 0 st M) := (mj_R3 (r := (.getfield 9, 3, 5, 0, 16596)) rfl rfl).trans (congrArg (mq_k0 d mj_m151 36 ls M) mq_gf_eq)
theorem s151_36 {d : Nat} {ls : mj_L} {st : List Value} {M : mj_H} : mj_Rn d mj_m151 36 ls st M = mq_k0 d mj_m151 37 ls M (mj_ldi (mj_lk ls 1) st) := mj_R0 (r := (.iload_n 1, 1, 0, 0, 0)) rfl rfl
theorem s151_37 {d : Nat} {ls : mj_L} {st : List Value} {M : mj_H} : mj_Rn (d + 1) mj_m151 37 ls st M = mq_k5a (d + 1) mj_m151 40 ls M 29 (mq_cb 0 1 9 st M) := mj_R5e (r := (.invokevirtual 197, 3, 0, 29, 16500)) (z := mj_m29) rfl rfl (by decide) (by decide) rfl
theorem s151_40 {d : Nat} {ls : mj_L} {st : List Value} {M : mj_H} : mj_Rn d mj_m151 40 ls st M = mq_k0 d mj_m151 41 ls M (mj_lda (mj_lk ls 0) st) := mj_R0 (r := (.aload_n 0, 1, 0, 0, 0)) rfl rfl
theorem s151_41 {d : Nat} {ls : mj_L} {st : List Value} {M : mj_H} : mj_Rn d mj_m151 41 ls st M = mq_k0 d mj_m151 44 ls M (mq_gf 5 0 st M) := (mj_R3 (r := (.getfield 9, 3, 5, 0, 16596)) rfl rfl).trans (congrArg (mq_k0 d mj_m151 44 ls M) mq_gf_eq)
theorem s151_44 {d : Nat} {ls : mj_L} {st : List Value} {M : mj_H} : mj_Rn d mj_m151 44 ls st M = mq_k0 d mj_m151 45 ls M (mj_lda (mj_lk ls 0) st) := mj_R0 (r := (.aload_n 0, 1, 0, 0, 0)) rfl rfl
theorem s151_45 {d : Nat} {ls : mj_L} {st : List Value} {M : mj_H} : mj_Rn d mj_m151 45 ls st M = mq_k0 d mj_m151 48 ls M (mq_gf 5 2 st M) := (mj_R3 (r := (.getfield 22, 3, 5, 2, 16600)) rfl rfl).trans (congrArg (mq_k0 d mj_m151 48 ls M) mq_gf_eq)
theorem s151_48 {d : Nat} {ls : mj_L} {st : List Value} {M : mj_H} : mj_Rn d mj_m151 48 ls st M = mq_k0 d mj_m151 51 ls M (mq_gf 8 11 st M) := (mj_R3 (r := (.getfield 194, 3, 8, 11, 16517)) rfl rfl).trans (congrArg (mq_k0 d mj_m151 51 ls M) mq_gf_eq)
theorem s151_51 {d : Nat} {ls : mj_L} {st : List Value} {M : mj_H} : mj_Rn (d + 1) mj_m151 51 ls st M = mq_k5a (d + 1) mj_m151 54 ls M 122 (mq_cb 0 1 9 st M) := mj_R5e (r := (.invokevirtual 200, 3, 0, 122, 16501)) (z := mj_m122) rfl rfl (by decide) (by decide) rfl
theorem s151_54 {d : Nat} {ls : mj_L} {st : List Value} {M : mj_H} : mj_Rn d mj_m151 54 ls st M = mq_k0 d mj_m151 55 ls M (mj_lda (mj_lk ls 0) st) := mj_R0 (r := (.aload_n 0, 1, 0, 0, 0)) rfl rfl
theorem s151_55 {d : Nat} {ls : mj_L} {st : List Value} {M : mj_H} : mj_Rn d mj_m151 55 ls st M = mq_k0 d mj_m151 56 ls M (mj_lda (mj_lk ls 0) st) := mj_R0 (r := (.aload_n 0, 1, 0, 0, 0)) rfl rfl
theorem s151_56 {d : Nat} {ls : mj_L} {st : List Value} {M : mj_H} : mj_Rn d mj_m151 56 ls st M = mq_k0 d mj_m151 59 ls M (mq_gf 5 1 st M) := (mj_R3 (r := (.getfield 15, 3, 5, 1, 16598)) rfl rfl).trans (congrArg (mq_k0 d mj_m151 59 ls M) mq_gf_eq)
theorem s151_59 {d : Nat} {ls : mj_L} {st : List Value} {M : mj_H} : mj_Rn d mj_m151 59 ls st M = mj_Rn d mj_m151 60 ls (.int 0 :: st) M := mj_R0 (r := (.iconst 0, 1, 0, 0, 0)) rfl rfl
theorem s151_60 {d : Nat} {ls : mj_L} {st : List Value} {M : mj_H} : mj_Rn d mj_m151 60 ls st M = mj_Rn d mj_m151 62 ls (.int 6 :: st) M := mj_R0 (r := (.bipush 6, 2, 0, 0, 0)) rfl rfl
theorem s151_62 {d : Nat} {ls : mj_L} {st : List Value} {M : mj_H} : mj_Rn (d + 1) mj_m151 62 ls st M = mq_k5a (d + 1) mj_m151 65 ls M 87 (mq_cb 0 2 4 st M) := mj_R5e (r := (.invokevirtual 209, 3, 0, 87, 12485)) (z := mj_m87) rfl rfl (by decide) (by decide) rfl
theorem s151_65 {d : Nat} {ls : mj_L} {st : List Value} {M : mj_H} : mj_Rn (d + 1) mj_m151 65 ls st M = mq_k5a (d + 1) mj_m151 68 ls M 123 (mq_cb 0 1 5 st M) := mj_R5e (r := (.invokevirtual 203, 3, 0, 123, 16505)) (z := mj_m123) rfl rfl (by decide) (by decide) rfl
theorem s151_68 {d : Nat} {ls : mj_L} {st : List Value} {M : mj_H} : mj_Rn d mj_m151 68 ls st M = mq_k2 d mj_m151 ls M (mj_br (.ifCond .eq 23) 68 st) := mj_R2 (r := (.ifCond .eq 23, 3, 0, 0, 0)) rfl rfl
theorem s151_71 {d : Nat} {ls : mj_L} {st : List Value} {M : mj_H} : mj_Rn d mj_m151 71 ls st M = mq_k0 d mj_m151 72 ls M (mj_lda (mj_lk ls 0) st) := mj_R0 (r := (.aload_n 0, 1, 0, 0, 0)) rfl rfl
theorem s151_72 {d : Nat} {ls : mj_L} {st : List Value} {M : mj_H} : mj_Rn d mj_m151 72 ls st M = mq_k0 d mj_m151 75 ls M (mq_gf 5 2 st M) := (mj_R3 (r := (.getfield 22, 3, 5, 2, 16600)) rfl rfl).trans (congrArg (mq_k0 d mj_m151 75 ls M) mq_gf_eq)
theorem s151_75 {d : Nat} {ls : mj_L} {st : List Value} {M : mj_H} : mj_Rn d mj_m151 75 ls st M = mj_Rn d mj_m151 76 ls (.int 3 :: st) M := mj_R0 (r := (.iconst 3, 1, 0, 0, 0)) rfl rfl
theorem s151_76 {d : Nat} {ls : mj_L} {st : List Value} {M : mj_H} : mj_Rn d mj_m151 76 ls st M = mj_Rn d mj_m151 78 ls (.int 8 :: st) M := mj_R0 (r := (.bipush 8, 2, 0, 0, 0)) rfl rfl
theorem s151_78 {d : Nat} {ls : mj_L} {st : List Value} {M : mj_H} : mj_Rn d mj_m151 78 ls st M = mj_Rn d mj_m151 79 ls (.int 0 :: st) M := mj_R0 (r := (.iconst 0, 1, 0, 0, 0)) rfl rfl
theorem s151_79 {d : Nat} {ls : mj_L} {st : List Value} {M : mj_H} : mj_Rn d mj_m151 79 ls st M = mj_Rn d mj_m151 80 ls (.null :: st) M := mj_R0 (r := (.aconst_null, 1, 0, 0, 0)) rfl rfl
theorem s151_80 {d : Nat} {ls : mj_L} {st : List Value} {M : mj_H} : mj_Rn (d + 1) mj_m151 80 ls st M = mq_k5a (d + 1) mj_m151 83 ls M 126 (mq_cb 0 4 8 st M) := mj_R5e (r := (.invokevirtual 298, 3, 0, 126, 16519)) (z := mj_m126) rfl rfl (by decide) (by decide) rfl
theorem s151_83 {d : Nat} {ls : mj_L} {st : List Value} {M : mj_H} : mj_Rn d mj_m151 83 ls st M = mq_k0 d mj_m151 84 ls M (mj_pu .pop ls st) := mj_R0 (r := (.pop, 1, 0, 0, 0)) rfl rfl
theorem s151_84 {d : Nat} {ls : mj_L} {st : List Value} {M : mj_H} : mj_Rn d mj_m151 84 ls st M = mq_k0 d mj_m151 85 ls M (mj_lda (mj_lk ls 0) st) := mj_R0 (r := (.aload_n 0, 1, 0, 0, 0)) rfl rfl
theorem s151_85 {d : Nat} {ls : mj_L} {st : List Value} {M : mj_H} : mj_Rn d mj_m151 85 ls st M = mj_Rn d mj_m151 86 ls (.int 0 :: st) M := mj_R0 (r := (.iconst 0, 1, 0, 0, 0)) rfl rfl
theorem s151_86 {d : Nat} {ls : mj_L} {st : List Value} {M : mj_H} : mj_Rn d mj_m151 86 ls st M = mq_k4 d mj_m151 89 ls (mq_pf 5 10 0 st M) := (mj_R4 (r := (.putfield 74, 3, 5, 10, 16620)) rfl rfl).trans (congrArg (mq_k4 d mj_m151 89 ls) (mq_pf_eq rfl rfl))
theorem s151_89 {d : Nat} {ls : mj_L} {st : List Value} {M : mj_H} : mj_Rn d mj_m151 89 ls st M = mj_Rn d mj_m151 90 ls (.int 0 :: st) M := mj_R0 (r := (.iconst 0, 1, 0, 0, 0)) rfl rfl
theorem s151_90 {d : Nat} {ls : mj_L} {st : List Value} {M : mj_H} : mj_Rn d mj_m151 90 ls st M = mq_k6 M (mj_re (some .int) (.ireturn) st) := mj_R6 (r := (.ireturn, 1, 0, 0, 0)) rfl rfl
theorem s151_91 {d : Nat} {ls : mj_L} {st : List Value} {M : mj_H} : mj_Rn d mj_m151 91 ls st M = mq_k0 d mj_m151 92 ls M (mj_lda (mj_lk ls 0) st) := mj_R0 (r := (.aload_n 0, 1, 0, 0, 0)) rfl rfl
theorem s151_92 {d : Nat} {ls : mj_L} {st : List Value} {M : mj_H} : mj_Rn d mj_m151 92 ls st M = mq_k0 d mj_m151 93 ls M (mj_lda (mj_lk ls 0) st) := mj_R0 (r := (.aload_n 0, 1, 0, 0, 0)) rfl rfl
theorem s151_93 {d : Nat} {ls : mj_L} {st : List Value} {M : mj_H} : mj_Rn d mj_m151 93 ls st M = mq_k0 d mj_m151 96 ls M (mq_gf 5 0 st M) := (mj_R3 (r := (.getfield 9, 3, 5, 0, 16596)) rfl rfl).trans (congrArg (mq_k0 d mj_m151 96 ls M) mq_gf_eq)
theorem s151_96 {d : Nat} {ls : mj_L} {st : List Value} {M : mj_H} : mj_Rn (d + 1) mj_m151 96 ls st M = mq_k5a (d + 1) mj_m151 99 ls M 66 (mq_cb 0 0 9 st M) := mj_R5e (r := (.invokevirtual 65, 3, 0, 66, 12385)) (z := mj_m66) rfl rfl (by decide) (by decide) rfl
theorem s151_99 {d : Nat} {ls : mj_L} {st : List Value} {M : mj_H} : mj_Rn d mj_m151 99 ls st M = mq_k4 d mj_m151 102 ls (mq_pf 5 8 0 st M) := (mj_R4 (r := (.putfield 68, 3, 5, 8, 16616)) rfl rfl).trans (congrArg (mq_k4 d mj_m151 102 ls) (mq_pf_eq rfl rfl))
theorem s151_102 {d : Nat} {ls : mj_L} {st : List Value} {M : mj_H} : mj_Rn d mj_m151 102 ls st M = mq_k0 d mj_m151 103 ls M (mj_lda (mj_lk ls 0) st) := mj_R0 (r := (.aload_n 0, 1, 0, 0, 0)) rfl rfl
theorem s151_103 {d : Nat} {ls : mj_L} {st : List Value} {M : mj_H} : mj_Rn d mj_m151 103 ls st M = mq_k0 d mj_m151 104 ls M (mj_pu .dup ls st) := mj_R0 (r := (.dup, 1, 0, 0, 0)) rfl rfl
theorem s151_104 {d : Nat} {ls : mj_L} {st : List Value} {M : mj_H} : mj_Rn d mj_m151 104 ls st M = mq_k0 d mj_m151 107 ls M (mq_gf 5 10 st M) := (mj_R3 (r := (.getfield 74, 3, 5, 10, 16620)) rfl rfl).trans (congrArg (mq_k0 d mj_m151 107 ls M) mq_gf_eq)
theorem s151_107 {d : Nat} {ls : mj_L} {st : List Value} {M : mj_H} : mj_Rn d mj_m151 107 ls st M = mj_Rn d mj_m151 108 ls (.int 1 :: st) M := mj_R0 (r := (.iconst 1, 1, 0, 0, 0)) rfl rfl
theorem s151_108 {d : Nat} {ls : mj_L} {st : List Value} {M : mj_H} : mj_Rn d mj_m151 108 ls st M = mq_k0 d mj_m151 109 ls M (mj_pu .iadd ls st) := mj_R0 (r := (.iadd, 1, 0, 0, 0)) rfl rfl
theorem s151_109 {d : Nat} {ls : mj_L} {st : List Value} {M : mj_H} : mj_Rn d mj_m151 109 ls st M = mq_k4 d mj_m151 112 ls (mq_pf 5 10 0 st M) := (mj_R4 (r := (.putfield 74, 3, 5, 10, 16620)) rfl rfl).trans (congrArg (mq_k4 d mj_m151 112 ls) (mq_pf_eq rfl rfl))
theorem s151_112 {d : Nat} {ls : mj_L} {st : List Value} {M : mj_H} : mj_Rn d mj_m151 112 ls st M = mq_k0 d mj_m151 113 ls M (mj_lda (mj_lk ls 0) st) := mj_R0 (r := (.aload_n 0, 1, 0, 0, 0)) rfl rfl
theorem s151_113 {d : Nat} {ls : mj_L} {st : List Value} {M : mj_H} : mj_Rn d mj_m151 113 ls st M = mq_k0 d mj_m151 116 ls M (mq_gf 5 2 st M) := (mj_R3 (r := (.getfield 22, 3, 5, 2, 16600)) rfl rfl).trans (congrArg (mq_k0 d mj_m151 116 ls M) mq_gf_eq)
theorem s151_116 {d : Nat} {ls : mj_L} {st : List Value} {M : mj_H} : mj_Rn d mj_m151 116 ls st M = mq_k0 d mj_m151 119 ls M (mq_gf 8 12 st M) := (mj_R3 (r := (.getfield 382, 3, 8, 12, 16521)) rfl rfl).trans (congrArg (mq_k0 d mj_m151 119 ls M) mq_gf_eq)
theorem s151_119 {d : Nat} {ls : mj_L} {st : List Value} {M : mj_H} : mj_Rn d mj_m151 119 ls st M = mq_k2 d mj_m151 ls M (mj_br (.ifCond .ne 6) 119 st) := mj_R2 (r := (.ifCond .ne 6, 3, 0, 0, 0)) rfl rfl
theorem s151_122 {d : Nat} {ls : mj_L} {st : List Value} {M : mj_H} : mj_Rn d mj_m151 122 ls st M = mj_Rn d mj_m151 124 ls (.int 50 :: st) M := mj_R0 (r := (.bipush 50, 2, 0, 0, 0)) rfl rfl
theorem s151_124 {d : Nat} {ls : mj_L} {st : List Value} {M : mj_H} : mj_Rn d mj_m151 124 ls st M = mq_k6 M (mj_re (some .int) (.ireturn) st) := mj_R6 (r := (.ireturn, 1, 0, 0, 0)) rfl rfl
theorem s151_125 {d : Nat} {ls : mj_L} {st : List Value} {M : mj_H} : mj_Rn d mj_m151 125 ls st M = mq_k0 d mj_m151 126 ls M (mj_lda (mj_lk ls 0) st) := mj_R0 (r := (.aload_n 0, 1, 0, 0, 0)) rfl rfl
theorem s151_126 {d : Nat} {ls : mj_L} {st : List Value} {M : mj_H} : mj_Rn d mj_m151 126 ls st M = mq_k0 d mj_m151 129 ls M (mq_gf 5 10 st M) := (mj_R3 (r := (.getfield 74, 3, 5, 10, 16620)) rfl rfl).trans (congrArg (mq_k0 d mj_m151 129 ls M) mq_gf_eq)
theorem s151_129 {d : Nat} {ls : mj_L} {st : List Value} {M : mj_H} : mj_Rn d mj_m151 129 ls st M = mj_Rn d mj_m151 130 ls (.int 3 :: st) M := mj_R0 (r := (.iconst 3, 1, 0, 0, 0)) rfl rfl
theorem s151_130 {d : Nat} {ls : mj_L} {st : List Value} {M : mj_H} : mj_Rn d mj_m151 130 ls st M = mq_k2 d mj_m151 ls M (mj_br (.if_icmp .lt 8) 130 st) := mj_R2 (r := (.if_icmp .lt 8, 3, 0, 0, 0)) rfl rfl
theorem s151_133 {d : Nat} {ls : mj_L} {st : List Value} {M : mj_H} : mj_Rn d mj_m151 133 ls st M = mj_Rn d mj_m151 135 ls (.int 52 :: st) M := mj_R0 (r := (.bipush 52, 2, 0, 0, 0)) rfl rfl
theorem s151_135 {d : Nat} {ls : mj_L} {st : List Value} {M : mj_H} : mj_Rn d mj_m151 135 ls st M = mj_Rn d mj_m151 140 ls st M := mj_R2 (r := (.goto 5, 3, 0, 0, 0)) rfl rfl
theorem s151_138 {d : Nat} {ls : mj_L} {st : List Value} {M : mj_H} : mj_Rn d mj_m151 138 ls st M = mj_Rn d mj_m151 140 ls (.int 49 :: st) M := mj_R0 (r := (.bipush 49, 2, 0, 0, 0)) rfl rfl
theorem s151_140 {d : Nat} {ls : mj_L} {st : List Value} {M : mj_H} : mj_Rn d mj_m151 140 ls st M = mq_k6 M (mj_re (some .int) (.ireturn) st) := mj_R6 (r := (.ireturn, 1, 0, 0, 0)) rfl rfl
/- 152 PasskeyHouse$Key.newPin(I)I -/
theorem s152_0 {d : Nat} {ls : mj_L} {st : List Value} {M : mj_H} : mj_Rn d mj_m152 0 ls st M = mq_k0 d mj_m152 1 ls M (mj_lda (mj_lk ls 0) st) := mj_R0 (r := (.aload_n 0, 1, 0, 0, 0)) rfl rfl
theorem s152_1 {d : Nat} {ls : mj_L} {st : List Value} {M : mj_H} : mj_Rn d mj_m152 1 ls st M = mq_k0 d mj_m152 4 ls M (mq_gf 5 1 st M) := (mj_R3 (r := (.getfield 15, 3, 5, 1, 16598)) rfl rfl).trans (congrArg (mq_k0 d mj_m152 4 ls M) mq_gf_eq)
theorem s152_4 {d : Nat} {ls : mj_L} {st : List Value} {M : mj_H} : mj_Rn d mj_m152 4 ls st M = mq_k0 d mj_m152 5 ls M (mj_lda (mj_lk ls 0) st) := mj_R0 (r := (.aload_n 0, 1, 0, 0, 0)) rfl rfl
theorem s152_5 {d : Nat} {ls : mj_L} {st : List Value} {M : mj_H} : mj_Rn d mj_m152 5 ls st M = mq_k0 d mj_m152 8 ls M (mq_gf 5 1 st M) := (mj_R3 (r := (.getfield 15, 3, 5, 1, 16598)) rfl rfl).trans (congrArg (mq_k0 d mj_m152 8 ls M) mq_gf_eq)
theorem s152_8 {d : Nat} {ls : mj_L} {st : List Value} {M : mj_H} : mj_Rn d mj_m152 8 ls st M = mj_Rn d mj_m152 9 ls (.int 0 :: st) M := mj_R0 (r := (.iconst 0, 1, 0, 0, 0)) rfl rfl
theorem s152_9 {d : Nat} {ls : mj_L} {st : List Value} {M : mj_H} : mj_Rn d mj_m152 9 ls st M = mj_Rn d mj_m152 10 ls (.int 5 :: st) M := mj_R0 (r := (.iconst 5, 1, 0, 0, 0)) rfl rfl
theorem s152_10 {d : Nat} {ls : mj_L} {st : List Value} {M : mj_H} : mj_Rn (d + 1) mj_m152 10 ls st M = mq_k5a (d + 1) mj_m152 13 ls M 87 (mq_cb 0 2 4 st M) := mj_R5e (r := (.invokevirtual 209, 3, 0, 87, 12485)) (z := mj_m87) rfl rfl (by decide) (by decide) rfl
theorem s152_13 {d : Nat} {ls : mj_L} {st : List Value} {M : mj_H} : mj_Rn (d + 1) mj_m152 13 ls st M = mq_k5a (d + 1) mj_m152 16 ls M 109 (mq_cb 0 1 4 st M) := mj_R5e (r := (.invokevirtual 177, 3, 0, 109, 16440)) (z := mj_m109) rfl rfl (by decide) (by decide) rfl
theorem s152_16 {d : Nat} {ls : mj_L} {st : List Value} {M : mj_H} : mj_Rn d mj_m152 16 ls st M = mq_k1 d mj_m152 17 M (mj_lo 5 (.istore 2) ls st) := (mj_R1 (r := (.istore_n 2, 1, 0, 0, 0)) rfl rfl).trans (congrArg (mq_k1 d mj_m152 17 M) (mq_sti (k := 2)))
theorem s152_17 {d : Nat} {ls : mj_L} {st : List Value} {M : mj_H} : mj_Rn d mj_m152 17 ls st M = mq_k0 d mj_m152 18 ls M (mj_lda (mj_lk ls 0) st) := mj_R0 (r := (.aload_n 0, 1, 0, 0, 0)) rfl rfl
theorem s152_18 {d : Nat} {ls : mj_L} {st : List Value} {M : mj_H} : mj_Rn d mj_m152 18 ls st M = mq_k0 d mj_m152 21 ls M (mq_gf 5 0 st M) := (mj_R3 (r := (.getfield 9, 3, 5, 0, 16596)) rfl rfl).trans (congrArg (mq_k0 d mj_m152 21 ls M) mq_gf_eq)
theorem s152_21 {d : Nat} {ls : mj_L} {st : List Value} {M : mj_H} : mj_Rn d mj_m152 21 ls st M = mq_k0 d mj_m152 22 ls M (mj_ldi (mj_lk ls 2) st) := mj_R0 (r := (.iload_n 2, 1, 0, 0, 0)) rfl rfl
theorem s152_22 {d : Nat} {ls : mj_L} {st : List Value} {M : mj_H} : mj_Rn (d + 1) mj_m152 22 ls st M = mq_k5a (d + 1) mj_m152 25 ls M 21 (mq_cb 0 1 9 st M) := mj_R5e (r := (.invokevirtual 413, 3, 0, 21, 20500)) (z := mj_m21) rfl rfl (by decide) (by decide) rfl
theorem s152_25 {d : Nat} {ls : mj_L} {st : List Value} {M : mj_H} : mj_Rn d mj_m152 25 ls st M = mj_Rn d mj_m152 26 ls (.int 2 :: st) M := mj_R0 (r := (.iconst 2, 1, 0, 0, 0)) rfl rfl
theorem s152_26 {d : Nat} {ls : mj_L} {st : List Value} {M : mj_H} : mj_Rn d mj_m152 26 ls st M = mq_k0 d mj_m152 27 ls M (mj_pu .isub ls st) := mj_R0 (r := (.isub, 1, 0, 0, 0)) rfl rfl
theorem s152_27 {d : Nat} {ls : mj_L} {st : List Value} {M : mj_H} : mj_Rn d mj_m152 27 ls st M = mq_k1 d mj_m152 28 M (mj_lo 5 (.istore 3) ls st) := (mj_R1 (r := (.istore_n 3, 1, 0, 0, 0)) rfl rfl).trans (congrArg (mq_k1 d mj_m152 28 M) (mq_sti (k := 3)))
theorem s152_28 {d : Nat} {ls : mj_L} {st : List Value} {M : mj_H} : mj_Rn d mj_m152 28 ls st M = mq_k0 d mj_m152 29 ls M (mj_ldi (mj_lk ls 1) st) := mj_R0 (r := (.iload_n 1, 1, 0, 0, 0)) rfl rfl
theorem s152_29 {d : Nat} {ls : mj_L} {st : List Value} {M : mj_H} : mj_Rn d mj_m152 29 ls st M = mq_k2 d mj_m152 ls M (mj_br (.ifCond .eq 33) 29 st) := mj_R2 (r := (.ifCond .eq 33, 3, 0, 0, 0)) rfl rfl
theorem s152_32 {d : Nat} {ls : mj_L} {st : List Value} {M : mj_H} : mj_Rn d mj_m152 32 ls st M = mq_k0 d mj_m152 33 ls M (mj_lda (mj_lk ls 0) st) := mj_R0 (r := (.aload_n 0, 1, 0, 0, 0)) rfl rfl
theorem s152_33 {d : Nat} {ls : mj_L} {st : List Value} {M : mj_H} : mj_Rn d mj_m152 33 ls st M = mq_k0 d mj_m152 36 ls M (mq_gf 5 0 st M) := (mj_R3 (r := (.getfield 9, 3, 5, 0, 16596)) rfl rfl).trans (congrArg (mq_k0 d mj_m152 36 ls M) mq_gf_eq)
theorem s152_36 {d : Nat} {ls : mj_L} {st : List Value} {M : mj_H} : mj_Rn d mj_m152 36 ls st M = mq_k0 d mj_m152 37 ls M (mj_ldi (mj_lk ls 2) st) := mj_R0 (r := (.iload_n 2, 1, 0, 0, 0)) rfl rfl
theorem s152_37 {d : Nat} {ls : mj_L} {st : List Value} {M : mj_H} : mj_Rn d mj_m152 37 ls st M = mj_Rn d mj_m152 38 ls (.int 0 :: st) M := mj_R0 (r := (.iconst 0, 1, 0, 0, 0)) rfl rfl
theorem s152_38 {d : Nat} {ls : mj_L} {st : List Value} {M : mj_H} : mj_Rn (d + 1) mj_m152 38 ls st M = mq_k5a (d + 1) mj_m152 41 ls M 20 (mq_cb 0 2 9 st M) := mj_R5e (r := (.invokevirtual 165, 3, 0, 20, 16482)) (z := mj_m20) rfl rfl (by decide) (by decide) rfl
theorem s152_41 {d : Nat} {ls : mj_L} {st : List Value} {M : mj_H} : mj_Rn d mj_m152 41 ls st M = mj_Rn d mj_m152 42 ls (.int 4 :: st) M := mj_R0 (r := (.iconst 4, 1, 0, 0, 0)) rfl rfl
theorem s152_42 {d : Nat} {ls : mj_L} {st : List Value} {M : mj_H} : mj_Rn d mj_m152 42 ls st M = mq_k2 d mj_m152 ls M (mj_br (.if_icmp .ne 20) 42 st) := mj_R2 (r := (.if_icmp .ne 20, 3, 0, 0, 0)) rfl rfl
theorem s152_45 {d : Nat} {ls : mj_L} {st : List Value} {M : mj_H} : mj_Rn d mj_m152 45 ls st M = mq_k0 d mj_m152 46 ls M (mj_lda (mj_lk ls 0) st) := mj_R0 (r := (.aload_n 0, 1, 0, 0, 0)) rfl rfl
theorem s152_46 {d : Nat} {ls : mj_L} {st : List Value} {M : mj_H} : mj_Rn d mj_m152 46 ls st M = mq_k0 d mj_m152 49 ls M (mq_gf 5 0 st M) := (mj_R3 (r := (.getfield 9, 3, 5, 0, 16596)) rfl rfl).trans (congrArg (mq_k0 d mj_m152 49 ls M) mq_gf_eq)
theorem s152_49 {d : Nat} {ls : mj_L} {st : List Value} {M : mj_H} : mj_Rn d mj_m152 49 ls st M = mq_k0 d mj_m152 50 ls M (mj_ldi (mj_lk ls 2) st) := mj_R0 (r := (.iload_n 2, 1, 0, 0, 0)) rfl rfl
theorem s152_50 {d : Nat} {ls : mj_L} {st : List Value} {M : mj_H} : mj_Rn d mj_m152 50 ls st M = mj_Rn d mj_m152 51 ls (.int 1 :: st) M := mj_R0 (r := (.iconst 1, 1, 0, 0, 0)) rfl rfl
theorem s152_51 {d : Nat} {ls : mj_L} {st : List Value} {M : mj_H} : mj_Rn (d + 1) mj_m152 51 ls st M = mq_k5a (d + 1) mj_m152 54 ls M 20 (mq_cb 0 2 9 st M) := mj_R5e (r := (.invokevirtual 165, 3, 0, 20, 16482)) (z := mj_m20) rfl rfl (by decide) (by decide) rfl
theorem s152_54 {d : Nat} {ls : mj_L} {st : List Value} {M : mj_H} : mj_Rn d mj_m152 54 ls st M = mq_k0 d mj_m152 55 ls M (mj_ldi (mj_lk ls 1) st) := mj_R0 (r := (.iload_n 1, 1, 0, 0, 0)) rfl rfl
theorem s152_55 {d : Nat} {ls : mj_L} {st : List Value} {M : mj_H} : mj_Rn d mj_m152 55 ls st M = mq_k2 d mj_m152 ls M (mj_br (.if_icmp .ne 7) 55 st) := mj_R2 (r := (.if_icmp .ne 7, 3, 0, 0, 0)) rfl rfl
theorem s152_58 {d : Nat} {ls : mj_L} {st : List Value} {M : mj_H} : mj_Rn d mj_m152 58 ls st M = mj_Rn d mj_m152 59 ls (.int 1 :: st) M := mj_R0 (r := (.iconst 1, 1, 0, 0, 0)) rfl rfl
theorem s152_59 {d : Nat} {ls : mj_L} {st : List Value} {M : mj_H} : mj_Rn d mj_m152 59 ls st M = mj_Rn d mj_m152 63 ls st M := mj_R2 (r := (.goto 4, 3, 0, 0, 0)) rfl rfl
theorem s152_62 {d : Nat} {ls : mj_L} {st : List Value} {M : mj_H} : mj_Rn d mj_m152 62 ls st M = mj_Rn d mj_m152 63 ls (.int 0 :: st) M := mj_R0 (r := (.iconst 0, 1, 0, 0, 0)) rfl rfl
theorem s152_63 {d : Nat} {ls : mj_L} {st : List Value} {M : mj_H} : mj_Rn d mj_m152 63 ls st M = mq_k1 d mj_m152 65 M (mj_lo 5 (.istore 4) ls st) := mj_R1 (r := (.istore 4, 2, 0, 0, 0)) rfl rfl
theorem s152_65 {d : Nat} {ls : mj_L} {st : List Value} {M : mj_H} : mj_Rn d mj_m152 65 ls st M = mq_k0 d mj_m152 67 ls M (mj_ldi (mj_lk ls 4) st) := mj_R0 (r := (.iload 4, 2, 0, 0, 0)) rfl rfl
theorem s152_67 {d : Nat} {ls : mj_L} {st : List Value} {M : mj_H} : mj_Rn d mj_m152 67 ls st M = mq_k2 d mj_m152 ls M (mj_br (.ifCond .eq 14) 67 st) := mj_R2 (r := (.ifCond .eq 14, 3, 0, 0, 0)) rfl rfl
theorem s152_70 {d : Nat} {ls : mj_L} {st : List Value} {M : mj_H} : mj_Rn d mj_m152 70 ls st M = mq_k0 d mj_m152 71 ls M (mj_ldi (mj_lk ls 3) st) := mj_R0 (r := (.iload_n 3, 1, 0, 0, 0)) rfl rfl
theorem s152_71 {d : Nat} {ls : mj_L} {st : List Value} {M : mj_H} : mj_Rn d mj_m152 71 ls st M = mj_Rn d mj_m152 72 ls (.int 4 :: st) M := mj_R0 (r := (.iconst 4, 1, 0, 0, 0)) rfl rfl
theorem s152_72 {d : Nat} {ls : mj_L} {st : List Value} {M : mj_H} : mj_Rn d mj_m152 72 ls st M = mq_k2 d mj_m152 ls M (mj_br (.if_icmp .lt 9) 72 st) := mj_R2 (r := (.if_icmp .lt 9, 3, 0, 0, 0)) rfl rfl
theorem s152_75 {d : Nat} {ls : mj_L} {st : List Value} {M : mj_H} : mj_Rn d mj_m152 75 ls st M = mq_k0 d mj_m152 76 ls M (mj_ldi (mj_lk ls 3) st) := mj_R0 (r := (.iload_n 3, 1, 0, 0, 0)) rfl rfl
theorem s152_76 {d : Nat} {ls : mj_L} {st : List Value} {M : mj_H} : mj_Rn d mj_m152 76 ls st M = mj_Rn d mj_m152 78 ls (.int 12 :: st) M := mj_R0 (r := (.bipush 12, 2, 0, 0, 0)) rfl rfl
theorem s152_78 {d : Nat} {ls : mj_L} {st : List Value} {M : mj_H} : mj_Rn d mj_m152 78 ls st M = mq_k2 d mj_m152 ls M (mj_br (.if_icmp .le 6) 78 st) := mj_R2 (r := (.if_icmp .le 6, 3, 0, 0, 0)) rfl rfl
theorem s152_81 {d : Nat} {ls : mj_L} {st : List Value} {M : mj_H} : mj_Rn d mj_m152 81 ls st M = mj_Rn d mj_m152 83 ls (.int 55 :: st) M := mj_R0 (r := (.bipush 55, 2, 0, 0, 0)) rfl rfl
theorem s152_83 {d : Nat} {ls : mj_L} {st : List Value} {M : mj_H} : mj_Rn d mj_m152 83 ls st M = mq_k6 M (mj_re (some .int) (.ireturn) st) := mj_R6 (r := (.ireturn, 1, 0, 0, 0)) rfl rfl
theorem s152_84 {d : Nat} {ls : mj_L} {st : List Value} {M : mj_H} : mj_Rn d mj_m152 84 ls st M = mq_k0 d mj_m152 85 ls M (mj_lda (mj_lk ls 0) st) := mj_R0 (r := (.aload_n 0, 1, 0, 0, 0)) rfl rfl
theorem s152_85 {d : Nat} {ls : mj_L} {st : List Value} {M : mj_H} : mj_Rn d mj_m152 85 ls st M = mq_k0 d mj_m152 88 ls M (mq_gf 5 0 st M) := (mj_R3 (r := (.getfield 9, 3, 5, 0, 16596)) rfl rfl).trans (congrArg (mq_k0 d mj_m152 88 ls M) mq_gf_eq)
theorem s152_88 {d : Nat} {ls : mj_L} {st : List Value} {M : mj_H} : mj_Rn d mj_m152 88 ls st M = mj_Rn d mj_m152 90 ls (.int 7 :: st) M := mj_R0 (r := (.bipush 7, 2, 0, 0, 0)) rfl rfl
theorem s152_90 {d : Nat} {ls : mj_L} {st : List Value} {M : mj_H} : mj_Rn (d + 1) mj_m152 90 ls st M = mq_k5a (d + 1) mj_m152 93 ls M 28 (mq_cb 0 1 9 st M) := mj_R5e (r := (.invokevirtual 145, 3, 0, 28, 16456)) (z := mj_m28) rfl rfl (by decide) (by decide) rfl
theorem s152_93 {d : Nat} {ls : mj_L} {st : List Value} {M : mj_H} : mj_Rn d mj_m152 93 ls st M = mq_k0 d mj_m152 94 ls M (mj_lda (mj_lk ls 0) st) := mj_R0 (r := (.aload_n 0, 1, 0, 0, 0)) rfl rfl
theorem s152_94 {d : Nat} {ls : mj_L} {st : List Value} {M : mj_H} : mj_Rn d mj_m152 94 ls st M = mq_k0 d mj_m152 97 ls M (mq_gf 5 0 st M) := (mj_R3 (r := (.getfield 9, 3, 5, 0, 16596)) rfl rfl).trans (congrArg (mq_k0 d mj_m152 97 ls M) mq_gf_eq)
theorem s152_97 {d : Nat} {ls : mj_L} {st : List Value} {M : mj_H} : mj_Rn d mj_m152 97 ls st M = mq_k0 d mj_m152 98 ls M (mj_ldi (mj_lk ls 2) st) := mj_R0 (r := (.iload_n 2, 1, 0, 0, 0)) rfl rfl
theorem s152_98 {d : Nat} {ls : mj_L} {st : List Value} {M : mj_H} : mj_Rn d mj_m152 98 ls st M = mj_Rn d mj_m152 99 ls (.int 2 :: st) M := mj_R0 (r := (.iconst 2, 1, 0, 0, 0)) rfl rfl
theorem s152_99 {d : Nat} {ls : mj_L} {st : List Value} {M : mj_H} : mj_Rn (d + 1) mj_m152 99 ls st M = mq_k5a (d + 1) mj_m152 102 ls M 153 (mq_cb 0 2 9 st M) := mj_R5e (r := (.invokevirtual 415, 3, 0, 153, 20501)) (z := mj_m153) rfl rfl (by decide) (by decide) rfl
theorem s152_102 {d : Nat} {ls : mj_L} {st : List Value} {M : mj_H} : mj_Rn d mj_m152 102 ls st M = mq_k0 d mj_m152 103 ls M (mj_lda (mj_lk ls 0) st) := mj_R0 (r := (.aload_n 0, 1, 0, 0, 0)) rfl rfl
theorem s152_103 {d : Nat} {ls : mj_L} {st : List Value} {M : mj_H} : mj_Rn d mj_m152 103 ls st M = mq_k0 d mj_m152 106 ls M (mq_gf 5 2 st M) := (mj_R3 (r := (.getfield 22, 3, 5, 2, 16600)) rfl rfl).trans (congrArg (mq_k0 d mj_m152 106 ls M) mq_gf_eq)
theorem s152_106 {d : Nat} {ls : mj_L} {st : List Value} {M : mj_H} : mj_Rn d mj_m152 106 ls st M = mj_Rn d mj_m152 107 ls (.int 2 :: st) M := mj_R0 (r := (.iconst 2, 1, 0, 0, 0)) rfl rfl
theorem s152_107 {d : Nat} {ls : mj_L} {st : List Value} {M : mj_H} : mj_Rn d mj_m152 107 ls st M = mq_k0 d mj_m152 108 ls M (mj_lda (mj_lk ls 0) st) := mj_R0 (r := (.aload_n 0, 1, 0, 0, 0)) rfl rfl
theorem s152_108 {d : Nat} {ls : mj_L} {st : List Value} {M : mj_H} : mj_Rn d mj_m152 108 ls st M = mq_k0 d mj_m152 111 ls M (mq_gf 5 0 st M) := (mj_R3 (r := (.getfield 9, 3, 5, 0, 16596)) rfl rfl).trans (congrArg (mq_k0 d mj_m152 111 ls M) mq_gf_eq)
theorem s152_111 {d : Nat} {ls : mj_L} {st : List Value} {M : mj_H} : mj_Rn (d + 1) mj_m152 111 ls st M = mq_k5a (d + 1) mj_m152 114 ls M 30 (mq_cb 0 0 9 st M) := mj_R5e (r := (.invokevirtual 283, 3, 0, 30, 16518)) (z := mj_m30) rfl rfl (by decide) (by decide) rfl
theorem s152_114 {d : Nat} {ls : mj_L} {st : List Value} {M : mj_H} : mj_Rn d mj_m152 114 ls st M = mj_Rn d mj_m152 115 ls (.int 0 :: st) M := mj_R0 (r := (.iconst 0, 1, 0, 0, 0)) rfl rfl
theorem s152_115 {d : Nat} {ls : mj_L} {st : List Value} {M : mj_H} : mj_Rn d mj_m152 115 ls st M = mj_Rn d mj_m152 116 ls (.null :: st) M := mj_R0 (r := (.aconst_null, 1, 0, 0, 0)) rfl rfl
theorem s152_116 {d : Nat} {ls : mj_L} {st : List Value} {M : mj_H} : mj_Rn (d + 1) mj_m152 116 ls st M = mq_k5a (d + 1) mj_m152 119 ls M 126 (mq_cb 0 4 8 st M) := mj_R5e (r := (.invokevirtual 298, 3, 0, 126, 16519)) (z := mj_m126) rfl rfl (by decide) (by decide) rfl
theorem s152_119 {d : Nat} {ls : mj_L} {st : List Value} {M : mj_H} : mj_Rn d mj_m152 119 ls st M = mq_k0 d mj_m152 120 ls M (mj_pu .pop ls st) := mj_R0 (r := (.pop, 1, 0, 0, 0)) rfl rfl
theorem s152_120 {d : Nat} {ls : mj_L} {st : List Value} {M : mj_H} : mj_Rn d mj_m152 120 ls st M = mj_Rn d mj_m152 121 ls (.int 0 :: st) M := mj_R0 (r := (.iconst 0, 1, 0, 0, 0)) rfl rfl
theorem s152_121 {d : Nat} {ls : mj_L} {st : List Value} {M : mj_H} : mj_Rn d mj_m152 121 ls st M = mq_k6 M (mj_re (some .int) (.ireturn) st) := mj_R6 (r := (.ireturn, 1, 0, 0, 0)) rfl rfl
theorem c146 {d : Nat} {a0 : Nat} {x1 : Int32} {x2 : Int32} {M : mj_H} : mj_V (d + 1) 146 [.ref a0, .int x1, .int x2] M = mj_Rn d mj_m146 0 [(0, .ref a0), (1, .int x1), (2, .int x2)] [] M := mj_V_go rfl (Nat.le_of_ble_eq_true rfl)
theorem c148 {d : Nat} {a0 : Nat} {M : mj_H} : mj_V (d + 1) 148 [.ref a0] M = mj_Rn d mj_m148 0 [(0, .ref a0)] [] M := mj_V_go rfl (Nat.le_of_ble_eq_true rfl)
theorem c149 {d : Nat} {a0 : Nat} {M : mj_H} : mj_V (d + 1) 149 [.ref a0] M = mj_Rn d mj_m149 0 [(0, .ref a0)] [] M := mj_V_go rfl (Nat.le_of_ble_eq_true rfl)
theorem c150 {d : Nat} {a0 : Nat} {x1 : Int32} {x2 : Int32} {M : mj_H} : mj_V (d + 1) 150 [.ref a0, .int x1, .int x2] M = mj_Rn d mj_m150 0 [(0, .ref a0), (1, .int x1), (2, .int x2)] [] M := mj_V_go rfl (Nat.le_of_ble_eq_true rfl)
theorem c151 {d : Nat} {a0 : Nat} {x1 : Int32} {M : mj_H} : mj_V (d + 1) 151 [.ref a0, .int x1] M = mj_Rn d mj_m151 0 [(0, .ref a0), (1, .int x1)] [] M := mj_V_go rfl (Nat.le_of_ble_eq_true rfl)
theorem c152 {d : Nat} {a0 : Nat} {x1 : Int32} {M : mj_H} : mj_V (d + 1) 152 [.ref a0, .int x1] M = mj_Rn d mj_m152 0 [(0, .ref a0), (1, .int x1)] [] M := mj_V_go rfl (Nat.le_of_ble_eq_true rfl)
def pn_set (k : Ky) : Int32 := if k.1.1.1.1.2.2.2.2.2.2.2.2.1 = 0 then 0 else 51
def pn_try (k : Ky) : Int32 := if k.1.1.1.1.2.2.2.2.2.2.2.2.1 = 0 then 53 else if k.1.1.1.1.2.2.2.2.2.2.2.2.2.1 = 0 then 50 else if 3 ≤ k.2.1.1.2 then 52 else 0
def pn_mac (shared : Int32) (ms : List Int32) (six : Bool) : List Int32 := 5 :: shared :: (oBy ms (mem ms 5) ++ (if six then oBy ms (mem ms 6) else []))
/-- the trying of a PIN -/
def pn_k1 (k : Ky) : Ky := ky_w k (rcn 3 (k.1.1.1.1.2.2.2.2.2.2.2.2.2.1 - 1) 0)
def ky_tryPin (ms : List Int32) (k : Ky) (T : Tm) (shared : Int32) : Int32 × Ky × Tm :=
  if (fs_wr (rcn 3 (k.1.1.1.1.2.2.2.2.2.2.2.2.2.1 - 1) 0) k.1.1.1.1).2 = false then (0, pn_k1 k, T)
  else if kn_as T (4 :: shared :: b4 (pn_k1 k).1.1.1.1.2.2.2.2.2.2.2.2.1) (o4 ms (mem ms 6)) then (0, ((((((ky_w (pn_k1 k) (rcn 3 8 0)).1.1.1.1, (ky_w (pn_k1 k) (rcn 3 8 0)).1.1.1.2), ((ky_w (pn_k1 k) (rcn 3 8 0)).1.1.2.1, (ky_w (pn_k1 k) (rcn 3 8 0)).1.1.2.2)), (((ky_w (pn_k1 k) (rcn 3 8 0)).1.2.1.1, (ky_w (pn_k1 k) (rcn 3 8 0)).1.2.1.2), ((ky_w (pn_k1 k) (rcn 3 8 0)).1.2.2.1, (ky_w (pn_k1 k) (rcn 3 8 0)).1.2.2.2))), ((((ky_w (pn_k1 k) (rcn 3 8 0)).2.1.1.1, 0), ((ky_w (pn_k1 k) (rcn 3 8 0)).2.1.2.1, (ky_w (pn_k1 k) (rcn 3 8 0)).2.1.2.2)), (((ky_w (pn_k1 k) (rcn 3 8 0)).2.2.1.1, (ky_w (pn_k1 k) (rcn 3 8 0)).2.2.1.2), (ky_w (pn_k1 k) (rcn 3 8 0)).2.2.2))) : Ky), T)
  else (if (pn_k1 k).1.1.1.1.2.2.2.2.2.2.2.2.2.1 = 0 then 50 else if 3 ≤ k.2.1.1.2 + 1 then 52 else 49, ((((((pn_k1 k).1.1.1.1, (pn_k1 k).1.1.1.2), ((pn_k1 k).1.1.2.1, (pn_k1 k).1.1.2.2)), (((pn_k1 k).1.2.1.1, (pn_k1 k).1.2.1.2), ((pn_k1 k).1.2.2.1, T.2.2 + 1))), ((((pn_k1 k).2.1.1.1, k.2.1.1.2 + 1), ((pn_k1 k).2.1.2.1, (pn_k1 k).2.1.2.2)), (((pn_k1 k).2.2.1.1, (pn_k1 k).2.2.1.2), (pn_k1 k).2.2.2))) : Ky), ((T.1, (T.2.1, T.2.2 + 1)) : Tm))
def pn_new (ms : List Int32) (T : Tm) : List Int32 := 7 :: (tm_row T.1 (o4 ms (mem ms 5))).drop 2
def ky_newPin (ms : List Int32) (k : Ky) (T : Tm) (shared : Int32) : Int32 × Ky × Tm :=
  if shared ≠ 0 ∧ bt_at (tm_row T.1 (o4 ms (mem ms 5))) 0 = 4 ∧ bt_at (tm_row T.1 (o4 ms (mem ms 5))) 1 = shared ∧ 6 ≤ (tm_row T.1 (o4 ms (mem ms 5))).length ∧ (tm_row T.1 (o4 ms (mem ms 5))).length ≤ 14
  then (0, ky_w k (rcn 2 (nI (tm_no T (pn_new ms T))) 0), tm_mk T (pn_new ms T)) else (55, k, T)
section KZ
variable {A : Nat → Prop} {κ : Nat} {M M' : mj_H} {k : Ky} {T T' : Tm} {row row' : List Int32} {d : Nat} {ms : List Int32} {n : Nat} {S V H E N : List Int32} {i : Int32} {o : Option Nat}
theorem ky_tt (z : kz A κ M k T row) (m : Nat) (hm : m = 1 ∨ m = 2) (t : Int32) (hr : k.1.1.1.2.length ≤ 1) : ∃ M', mj_V (d + 4) 146 [.ref κ, .int (nI m), .int t] M = some (none, M') ∧ kz A κ M' (((((k.1.1.1.1, k.1.1.1.2 ++ (161 :: nI m :: 68 :: b4 t)), (k.1.1.2.1, k.1.1.2.2)), ((k.1.2.1.1, k.1.2.1.2), (k.1.2.2.1, k.1.2.2.2))), (((k.2.1.1.1, k.2.1.1.2), (k.2.1.2.1, k.2.1.2.2)), ((k.2.2.1.1, k.2.2.1.2), k.2.2.2))) : Ky) T row ∧ fx (kS A κ) M M' := by
  obtain ⟨u0, x0⟩ := z.fa
  have em : nI m &&& 255 = nI m := by rcases hm with rfl | rfl <;> decide
  obtain ⟨M1, p1, z1, f1⟩ := kz_headX (d := d + 1) z 5 1 (k.1.1.1.2 ++ [161]) (by rw [h_51]) (by simp; omega)
  (try dsimp only at z1)
  obtain ⟨u1, x1⟩ := z1.fa
  obtain ⟨M2, p2, z2, f2⟩ := kz_pushX (d := d + 2) z1 (nI m) (k.1.1.1.2 ++ [161] ++ [nI m]) (by rw [em]) (by simp; omega)
  (try dsimp only at z2)
  obtain ⟨u2, x2⟩ := z2.fa
  obtain ⟨M3, p3, z3, f3⟩ := kz_termX (d := d) z2 t (k.1.1.1.2 ++ [161] ++ [nI m] ++ (68 :: b4 t)) rfl (by simp [b4_len]; omega)
  (try dsimp only at z3)
  obtain ⟨u3, x3⟩ := z3.fa
  refine ⟨M3, ?_, ?_, (((f1).trs f2).trs f3)⟩
  · simp (disch := (first | omega | decide)) [c146, s146_0, s146_1, s146_4, s146_5, s146_6, s146_9, s146_10, s146_13, s146_14, s146_17, s146_18, s146_21, s146_22, s146_25, mq_k0s, mq_k1s, mq_k2s, mq_k4s, mq_k5s, mq_k5n, mq_k5as, mq_k6s, mj_pu, mj_lo, mj_br, mj_hr, mj_hw, mq_gf, mq_len, mq_al, mq_pf, mq_ok, mj_re, mq_lkm, mq_lkn, mj_ldi, mj_ldl, mj_lda, mj_ii, mj_ll, mj_li, mj_i1, ms_1, ms_2, f1_n, f1_i, f1_r, f1_u, f1_l, f2_n, f2_i, f2_r, f2_u, f2_l, mj_tg, mj_c1, mj_c2, mj_ar, mj_aw, mq_cb, mq_oi, mj_rm, Value.category, -getElem?_pos, List.getElem?_cons_zero, decide_eq_true, decide_eq_false, nl_lt, nl_le, ln_lt, ln_le, nl_eq, ln_eq, nl_add, ln_add, nl_sub, ln_mul, nI_sub, nI_mul, nI_add, nI_lt_iff, nI_le_iff, nI_inj, nI_num, mq_ix, nI_1, nl_mul, nl_div, x0, p1, x1, p2, x2, p3]
  · have e : k.1.1.1.2 ++ (161 :: nI m :: 68 :: b4 t) = k.1.1.1.2 ++ [161] ++ [nI m] ++ (68 :: b4 t) := by simp
    rw [e]; exact z3
theorem ky_setf (z : kz A κ M k T row) : mj_V (d + 1) 148 [.ref κ] M = some (some (.int (pn_set k)), M) := by
  obtain ⟨u0, x0⟩ := z.fa
  unfold pn_set
  by_cases h : k.1.1.1.1.2.2.2.2.2.2.2.2.1 = 0 <;> simp (disch := (first | omega | decide)) [c148, s148_0, s148_1, s148_4, s148_7, s148_10, s148_12, s148_15, s148_16, mq_k0s, mq_k1s, mq_k2s, mq_k4s, mq_k5s, mq_k5n, mq_k5as, mq_k6s, mj_pu, mj_lo, mj_br, mj_hr, mj_hw, mq_gf, mq_len, mq_al, mq_pf, mq_ok, mj_re, mq_lkm, mq_lkn, mj_ldi, mj_ldl, mj_lda, mj_ii, mj_ll, mj_li, mj_i1, ms_1, ms_2, f1_n, f1_i, f1_r, f1_u, f1_l, f2_n, f2_i, f2_r, f2_u, f2_l, mj_tg, mj_c1, mj_c2, mj_ar, mj_aw, mq_cb, mq_oi, mj_rm, Value.category, -getElem?_pos, List.getElem?_cons_zero, decide_eq_true, decide_eq_false, nl_lt, nl_le, ln_lt, ln_le, nl_eq, ln_eq, nl_add, ln_add, nl_sub, ln_mul, nI_sub, nI_mul, nI_add, nI_lt_iff, nI_le_iff, nI_inj, nI_num, mq_ix, nI_1, nl_mul, nl_div, x0, h, narrow]
theorem ky_tryf (z : kz A κ M k T row) (hw : k.2.1.1.2 ≤ 3) : mj_V (d + 1) 149 [.ref κ] M = some (some (.int (pn_try k)), M) := by
  obtain ⟨u0, x0⟩ := z.fa
  unfold pn_try
  by_cases h : k.1.1.1.1.2.2.2.2.2.2.2.2.1 = 0
  · simp (disch := (first | omega | decide)) [c149, s149_0, s149_1, s149_4, s149_7, s149_10, s149_12, s149_13, s149_14, s149_17, s149_20, s149_23, s149_25, s149_26, s149_27, s149_30, s149_31, s149_34, s149_36, s149_39, s149_40, mq_k0s, mq_k1s, mq_k2s, mq_k4s, mq_k5s, mq_k5n, mq_k5as, mq_k6s, mj_pu, mj_lo, mj_br, mj_hr, mj_hw, mq_gf, mq_len, mq_al, mq_pf, mq_ok, mj_re, mq_lkm, mq_lkn, mj_ldi, mj_ldl, mj_lda, mj_ii, mj_ll, mj_li, mj_i1, ms_1, ms_2, f1_n, f1_i, f1_r, f1_u, f1_l, f2_n, f2_i, f2_r, f2_u, f2_l, mj_tg, mj_c1, mj_c2, mj_ar, mj_aw, mq_cb, mq_oi, mj_rm, Value.category, -getElem?_pos, List.getElem?_cons_zero, decide_eq_true, decide_eq_false, nl_lt, nl_le, ln_lt, ln_le, nl_eq, ln_eq, nl_add, ln_add, nl_sub, ln_mul, nI_sub, nI_mul, nI_add, nI_lt_iff, nI_le_iff, nI_inj, nI_num, mq_ix, nI_1, nl_mul, nl_div, x0, h, narrow]
  · by_cases h2 : k.1.1.1.1.2.2.2.2.2.2.2.2.2.1 = 0
    · simp (disch := (first | omega | decide)) [c149, s149_0, s149_1, s149_4, s149_7, s149_10, s149_12, s149_13, s149_14, s149_17, s149_20, s149_23, s149_25, s149_26, s149_27, s149_30, s149_31, s149_34, s149_36, s149_39, s149_40, mq_k0s, mq_k1s, mq_k2s, mq_k4s, mq_k5s, mq_k5n, mq_k5as, mq_k6s, mj_pu, mj_lo, mj_br, mj_hr, mj_hw, mq_gf, mq_len, mq_al, mq_pf, mq_ok, mj_re, mq_lkm, mq_lkn, mj_ldi, mj_ldl, mj_lda, mj_ii, mj_ll, mj_li, mj_i1, ms_1, ms_2, f1_n, f1_i, f1_r, f1_u, f1_l, f2_n, f2_i, f2_r, f2_u, f2_l, mj_tg, mj_c1, mj_c2, mj_ar, mj_aw, mq_cb, mq_oi, mj_rm, Value.category, -getElem?_pos, List.getElem?_cons_zero, decide_eq_true, decide_eq_false, nl_lt, nl_le, ln_lt, ln_le, nl_eq, ln_eq, nl_add, ln_add, nl_sub, ln_mul, nI_sub, nI_mul, nI_add, nI_lt_iff, nI_le_iff, nI_inj, nI_num, mq_ix, nI_1, nl_mul, nl_div, x0, h, h2, narrow]
    · by_cases h3 : 3 ≤ k.2.1.1.2 <;> simp (disch := (first | omega | decide)) [c149, s149_0, s149_1, s149_4, s149_7, s149_10, s149_12, s149_13, s149_14, s149_17, s149_20, s149_23, s149_25, s149_26, s149_27, s149_30, s149_31, s149_34, s149_36, s149_39, s149_40, mq_k0s, mq_k1s, mq_k2s, mq_k4s, mq_k5s, mq_k5n, mq_k5as, mq_k6s, mj_pu, mj_lo, mj_br, mj_hr, mj_hw, mq_gf, mq_len, mq_al, mq_pf, mq_ok, mj_re, mq_lkm, mq_lkn, mj_ldi, mj_ldl, mj_lda, mj_ii, mj_ll, mj_li, mj_i1, ms_1, ms_2, f1_n, f1_i, f1_r, f1_u, f1_l, f2_n, f2_i, f2_r, f2_u, f2_l, mj_tg, mj_c1, mj_c2, mj_ar, mj_aw, mq_cb, mq_oi, mj_rm, Value.category, -getElem?_pos, List.getElem?_cons_zero, decide_eq_true, decide_eq_false, nl_lt, nl_le, ln_lt, ln_le, nl_eq, ln_eq, nl_add, ln_add, nl_sub, ln_mul, nI_sub, nI_mul, nI_add, nI_lt_iff, nI_le_iff, nI_inj, nI_num, mq_ix, nI_1, nl_mul, nl_div, x0, h, h2, h3, narrow]
theorem ky_prov {shared : Int32} {six : Bool} {p5 : Nat} (z : kz A κ M k T row) (hI : iT M ms n S V H E N) (h5 : mem ms 5 = some p5) (hs5 : cbS ms p5 = 2) (h6 : six = true → ∃ p6, mem ms 6 = some p6 ∧ cbS ms p6 = 2) : ∃ M' row', mj_V (d + 6) 150 [.ref κ, .int shared, .int (on1 six)] M = some (some (.int (on1 (kn_as T (pn_mac shared ms six) (o4 ms (mem ms 4))))), M') ∧ kz A κ M' k T row' ∧ fx (kS A κ) M M' := by
  obtain ⟨u0, x0⟩ := z.fa
  have hb := hI.b
  have hbl := hb.len
  have hlo := z.lo
  obtain ⟨M1, p1, z1, f1⟩ := kz_begin (d := d + 3) z 5
  obtain ⟨u1, x1⟩ := z1.fa
  obtain ⟨M2, p2, z2, f2⟩ := kz_add (d := d + 4) z1 (by simp) shared
  obtain ⟨u2, x2⟩ := z2.fa
  have hI2 := z.it ((f1).trs f2) hI
  have ho2 := hI2.u.ob
  obtain ⟨y5, v5, a5⟩ := q_mem (d := d + 3) (num := 5) (by decide) hI2
  rw [h5] at a5
  obtain ⟨c5, b5⟩ := q_cont (d := d + 4) hI2 a5 (Or.inl hs5)
  have w5 := q_val (d := d + 4) hI2 a5
  simp only [oV] at w5
  have A8 := z2.aA 28 (by omega)
  have A9 := z2.aA 29 (by omega)
  obtain ⟨M3, p3, z3, f3⟩ := kz_addBytes (d := d + 3) (q := cbC ms p5) (n := cbV ms p5) z2 hI2.b A8 A9 b5 (by simp; omega)
  obtain ⟨u3, x3⟩ := z3.fa
  have hI3 := z.it (((f1).trs f2).trs f3) hI
  have ho3 := hI3.u.ob
  cases six with
  | false =>
    obtain ⟨y4, v4, a4⟩ := q_mem (d := d + 3) (num := 4) (by decide) hI3
    have w4 := ky_kas (d := d + 1) z3 hI3 a4
    refine ⟨M3, _, ?_, z3, (((f1).trs f2).trs f3)⟩
    have e : [5] ++ [shared] ++ (ms.drop (cbC ms p5)).take (cbV ms p5) = pn_mac shared ms false := by simp [pn_mac, h5, oBy]
    rw [e] at w4
    rw [show nI 5 = 5 from rfl] at v5
    rw [show nI 4 = 4 from rfl] at v4
    rw [on1_f]
    cases hq : kn_as T (pn_mac shared ms false) (o4 ms (mem ms 4)) <;> (rw [hq] at w4; simp (disch := (first | omega | decide)) [c150, s150_0, s150_1, s150_4, s150_5, s150_8, s150_9, s150_12, s150_13, s150_16, s150_17, s150_18, s150_19, s150_20, s150_23, s150_25, s150_28, s150_29, s150_32, s150_33, s150_36, s150_37, s150_38, s150_41, s150_43, s150_44, s150_47, s150_48, s150_51, s150_54, s150_55, s150_58, s150_60, s150_63, s150_64, s150_67, s150_69, s150_72, s150_75, s150_78, s150_81, s150_82, s150_83, s150_86, s150_87, s150_88, s150_91, s150_94, mq_k0s, mq_k1s, mq_k2s, mq_k4s, mq_k5s, mq_k5n, mq_k5as, mq_k6s, mj_pu, mj_lo, mj_br, mj_hr, mj_hw, mq_gf, mq_len, mq_al, mq_pf, mq_ok, mj_re, mq_lkm, mq_lkn, mj_ldi, mj_ldl, mj_lda, mj_ii, mj_ll, mj_li, mj_i1, ms_1, ms_2, f1_n, f1_i, f1_r, f1_u, f1_l, f2_n, f2_i, f2_r, f2_u, f2_l, mj_tg, mj_c1, mj_c2, mj_ar, mj_aw, mq_cb, mq_oi, mj_rm, Value.category, -getElem?_pos, List.getElem?_cons_zero, decide_eq_true, decide_eq_false, nl_lt, nl_le, ln_lt, ln_le, nl_eq, ln_eq, nl_add, ln_add, nl_sub, ln_mul, nI_sub, nI_mul, nI_add, nI_lt_iff, nI_le_iff, nI_inj, nI_num, mq_ix, nI_1, nl_mul, nl_div, x0, p1, x1, p2, x2, ho2, v5, c5, w5, p3, x3, ho3, v4, w4, on1, narrow_b0, narrow_b1])
  | true =>
    obtain ⟨p6, h6, hs6⟩ := h6 rfl
    obtain ⟨y6, v6, a6⟩ := q_mem (d := d + 3) (num := 6) (by decide) hI3
    rw [h6] at a6
    obtain ⟨c6, b6⟩ := q_cont (d := d + 4) hI3 a6 (Or.inl hs6)
    have w6 := q_val (d := d + 4) hI3 a6
    simp only [oV] at w6
    have hsum : cbV ms p5 + cbV ms p6 ≤ 400 := Nat.le_trans (mem_two hI.c (f := cbIs ms 5) (g := cbIs ms 6) (by intro p hp; simp only [cbIs, Bool.and_eq_true, decide_eq_true_eq] at hp; simp [cbIs, hp.2]) h5 h6 (Or.inl hs5) (Or.inl hs6)) hbl
    obtain ⟨M4, p4, z4, f4⟩ := kz_addBytes (d := d + 3) (q := cbC ms p6) (n := cbV ms p6) z3 hI3.b A8 A9 b6 (by simp; omega)
    obtain ⟨u4, x4⟩ := z4.fa
    have hI4 := z.it ((((f1).trs f2).trs f3).trs f4) hI
    have ho4 := hI4.u.ob
    obtain ⟨y4, v4, a4⟩ := q_mem (d := d + 3) (num := 4) (by decide) hI4
    have w4 := ky_kas (d := d + 1) z4 hI4 a4
    refine ⟨M4, _, ?_, z4, ((((f1).trs f2).trs f3).trs f4)⟩
    have e : [5] ++ [shared] ++ (ms.drop (cbC ms p5)).take (cbV ms p5) ++ (ms.drop (cbC ms p6)).take (cbV ms p6) = pn_mac shared ms true := by simp [pn_mac, h5, h6, oBy]
    rw [e] at w4
    rw [show nI 5 = 5 from rfl] at v5
    rw [show nI 6 = 6 from rfl] at v6
    rw [show nI 4 = 4 from rfl] at v4
    rw [on1_t]
    cases hq : kn_as T (pn_mac shared ms true) (o4 ms (mem ms 4)) <;> (rw [hq] at w4; simp (disch := (first | omega | decide)) [c150, s150_0, s150_1, s150_4, s150_5, s150_8, s150_9, s150_12, s150_13, s150_16, s150_17, s150_18, s150_19, s150_20, s150_23, s150_25, s150_28, s150_29, s150_32, s150_33, s150_36, s150_37, s150_38, s150_41, s150_43, s150_44, s150_47, s150_48, s150_51, s150_54, s150_55, s150_58, s150_60, s150_63, s150_64, s150_67, s150_69, s150_72, s150_75, s150_78, s150_81, s150_82, s150_83, s150_86, s150_87, s150_88, s150_91, s150_94, mq_k0s, mq_k1s, mq_k2s, mq_k4s, mq_k5s, mq_k5n, mq_k5as, mq_k6s, mj_pu, mj_lo, mj_br, mj_hr, mj_hw, mq_gf, mq_len, mq_al, mq_pf, mq_ok, mj_re, mq_lkm, mq_lkn, mj_ldi, mj_ldl, mj_lda, mj_ii, mj_ll, mj_li, mj_i1, ms_1, ms_2, f1_n, f1_i, f1_r, f1_u, f1_l, f2_n, f2_i, f2_r, f2_u, f2_l, mj_tg, mj_c1, mj_c2, mj_ar, mj_aw, mq_cb, mq_oi, mj_rm, Value.category, -getElem?_pos, List.getElem?_cons_zero, decide_eq_true, decide_eq_false, nl_lt, nl_le, ln_lt, ln_le, nl_eq, ln_eq, nl_add, ln_add, nl_sub, ln_mul, nI_sub, nI_mul, nI_add, nI_lt_iff, nI_le_iff, nI_inj, nI_num, mq_ix, nI_1, nl_mul, nl_div, x0, p1, x1, p2, x2, ho2, v5, c5, w5, p3, x3, ho3, v6, c6, w6, p4, x4, ho4, v4, w4, on1, narrow_b0, narrow_b1])
theorem ky_try {shared : Int32} (z : kz A κ M k T row) (hI : iT M ms n S V H E N) (hw : fw k.1.1.1.1) (hw2 : (fs_wr (rcn 3 (k.1.1.1.1.2.2.2.2.2.2.2.2.2.1 - 1) 0) k.1.1.1.1).2 = true → fw (pn_k1 k).1.1.1.1 ∧ (pn_k1 k).1.1.1.1.2.1 = true) (hon : k.1.1.1.1.2.1 = true) (hwr : k.2.1.1.2 ≤ 3) : ∃ M' row', mj_V (d + 6) 151 [.ref κ, .int shared] M = some (some (.int (ky_tryPin ms k T shared).1), M') ∧ kz A κ M' (ky_tryPin ms k T shared).2.1 (ky_tryPin ms k T shared).2.2 row' ∧ fx (kS A κ) M M' := by
  obtain ⟨u0, x0⟩ := z.fa
  have hlo := z.lo
  have hh : ¬ κ < 25 := by omega
  obtain ⟨M1, p1, z1, f1⟩ := ky_wr0 (d := d) (kk := 3) (a := k.1.1.1.1.2.2.2.2.2.2.2.2.2.1 - 1) (b := 0) z hw hon (Or.inr (Or.inl rfl))
  obtain ⟨u1, x1⟩ := z1.fa
  unfold ky_tryPin
  cases hq : (fs_wr (rcn 3 (k.1.1.1.1.2.2.2.2.2.2.2.2.2.1 - 1) 0) k.1.1.1.1).2 with
  | false =>
    rw [hq] at p1
    refine ⟨M1, _, ?_, by rw [if_pos rfl]; exact z1, f1⟩
    simp (disch := (first | omega | decide)) [c151, s151_0, s151_1, s151_4, s151_5, s151_6, s151_9, s151_12, s151_13, s151_14, s151_15, s151_16, s151_19, s151_22, s151_23, s151_24, s151_25, s151_28, s151_29, s151_32, s151_33, s151_36, s151_37, s151_40, s151_41, s151_44, s151_45, s151_48, s151_51, s151_54, s151_55, s151_56, s151_59, s151_60, s151_62, s151_65, s151_68, s151_71, s151_72, s151_75, s151_76, s151_78, s151_79, s151_80, s151_83, s151_84, s151_85, s151_86, s151_89, s151_90, s151_91, s151_92, s151_93, s151_96, s151_99, s151_102, s151_103, s151_104, s151_107, s151_108, s151_109, s151_112, s151_113, s151_116, s151_119, s151_122, s151_124, s151_125, s151_126, s151_129, s151_130, s151_133, s151_135, s151_138, s151_140, mq_k0s, mq_k1s, mq_k2s, mq_k4s, mq_k5s, mq_k5n, mq_k5as, mq_k6s, mj_pu, mj_lo, mj_br, mj_hr, mj_hw, mq_gf, mq_len, mq_al, mq_pf, mq_ok, mj_re, mq_lkm, mq_lkn, mj_ldi, mj_ldl, mj_lda, mj_ii, mj_ll, mj_li, mj_i1, ms_1, ms_2, f1_n, f1_i, f1_r, f1_u, f1_l, f2_n, f2_i, f2_r, f2_u, f2_l, mj_tg, mj_c1, mj_c2, mj_ar, mj_aw, mq_cb, mq_oi, mj_rm, Value.category, -getElem?_pos, List.getElem?_cons_zero, decide_eq_true, decide_eq_false, nl_lt, nl_le, ln_lt, ln_le, nl_eq, ln_eq, nl_add, ln_add, nl_sub, ln_mul, nI_sub, nI_mul, nI_add, nI_lt_iff, nI_le_iff, nI_inj, nI_num, mq_ix, nI_1, nl_mul, nl_div, x0, p1, on1, narrow]
  | true =>
  rw [hq] at p1
  rw [if_neg (by simp)]
  obtain ⟨hw1, hon1⟩ := hw2 hq
  change kz A κ M1 (pn_k1 k) T row at z1
  have x1' := x1
  have hs1 : (ky_w k (rcn 3 (k.1.1.1.1.2.2.2.2.2.2.2.2.2.1 - 1) 0)) = pn_k1 k := rfl
  rw [hs1] at x1
  generalize hk1 : pn_k1 k = k1 at *
  obtain ⟨M2, p2, z2, f2⟩ := kz_begin (d := d + 3) z1 4
  obtain ⟨u2, x2⟩ := z2.fa
  obtain ⟨M3, p3, z3, f3⟩ := kz_add (d := d + 4) z2 (by simp) shared
  obtain ⟨u3, x3⟩ := z3.fa
  obtain ⟨M4, p4, z4, f4⟩ := kz_addFour (d := d + 3) z3 (by simp) k1.1.1.1.1.2.2.2.2.2.2.2.2.1
  obtain ⟨u4, x4⟩ := z4.fa
  have e4 : [4] ++ [shared] ++ b4 k1.1.1.1.1.2.2.2.2.2.2.2.2.1 = 4 :: shared :: b4 k1.1.1.1.1.2.2.2.2.2.2.2.2.1 := by simp
  rw [e4] at z4
  have hI4 := z.it ((((f1).trs f2).trs f3).trs f4) hI
  have ho4 := hI4.u.ob
  obtain ⟨y6, v6, a6⟩ := q_mem (d := d + 3) (num := 6) (by decide) hI4
  have w6 := ky_kas (d := d + 1) z4 hI4 a6
  rw [show nI 6 = 6 from rfl] at v6
  cases hkn : kn_as T (4 :: shared :: b4 k1.1.1.1.1.2.2.2.2.2.2.2.2.1) (o4 ms (mem ms 6)) with
  | true =>
    rw [hkn] at w6
    obtain ⟨M5, p5, z5, f5⟩ := ky_wr0 (d := d) (kk := 3) (a := 8) (b := 0) z4 hw1 hon1 (Or.inr (Or.inl rfl))
    obtain ⟨u5, x5⟩ := z5.fa
    obtain ⟨z6, f6⟩ := z5.mk_o ((((((ky_w k1 (rcn 3 8 0)).1.1.1.1, (ky_w k1 (rcn 3 8 0)).1.1.1.2), ((ky_w k1 (rcn 3 8 0)).1.1.2.1, (ky_w k1 (rcn 3 8 0)).1.1.2.2)), (((ky_w k1 (rcn 3 8 0)).1.2.1.1, (ky_w k1 (rcn 3 8 0)).1.2.1.2), ((ky_w k1 (rcn 3 8 0)).1.2.2.1, (ky_w k1 (rcn 3 8 0)).1.2.2.2))), ((((ky_w k1 (rcn 3 8 0)).2.1.1.1, 0), ((ky_w k1 (rcn 3 8 0)).2.1.2.1, (ky_w k1 (rcn 3 8 0)).2.1.2.2)), (((ky_w k1 (rcn 3 8 0)).2.2.1.1, (ky_w k1 (rcn 3 8 0)).2.2.1.2), (ky_w k1 (rcn 3 8 0)).2.2.2))) : Ky) rfl rfl rfl rfl
    refine ⟨_, _, ?_, by simpa using z6, ((((((f1).trs f2).trs f3).trs f4).trs f5).trs f6)⟩
    have l5 := mq_lt z5.ob
    simp (disch := (first | omega | decide)) [c151, s151_0, s151_1, s151_4, s151_5, s151_6, s151_9, s151_12, s151_13, s151_14, s151_15, s151_16, s151_19, s151_22, s151_23, s151_24, s151_25, s151_28, s151_29, s151_32, s151_33, s151_36, s151_37, s151_40, s151_41, s151_44, s151_45, s151_48, s151_51, s151_54, s151_55, s151_56, s151_59, s151_60, s151_62, s151_65, s151_68, s151_71, s151_72, s151_75, s151_76, s151_78, s151_79, s151_80, s151_83, s151_84, s151_85, s151_86, s151_89, s151_90, s151_91, s151_92, s151_93, s151_96, s151_99, s151_102, s151_103, s151_104, s151_107, s151_108, s151_109, s151_112, s151_113, s151_116, s151_119, s151_122, s151_124, s151_125, s151_126, s151_129, s151_130, s151_133, s151_135, s151_138, s151_140, mq_k0s, mq_k1s, mq_k2s, mq_k4s, mq_k5s, mq_k5n, mq_k5as, mq_k6s, mj_pu, mj_lo, mj_br, mj_hr, mj_hw, mq_gf, mq_len, mq_al, mq_pf, mq_ok, mj_re, mq_lkm, mq_lkn, mj_ldi, mj_ldl, mj_lda, mj_ii, mj_ll, mj_li, mj_i1, ms_1, ms_2, f1_n, f1_i, f1_r, f1_u, f1_l, f2_n, f2_i, f2_r, f2_u, f2_l, mj_tg, mj_c1, mj_c2, mj_ar, mj_aw, mq_cb, mq_oi, mj_rm, Value.category, -getElem?_pos, List.getElem?_cons_zero, decide_eq_true, decide_eq_false, nl_lt, nl_le, ln_lt, ln_le, nl_eq, ln_eq, nl_add, ln_add, nl_sub, ln_mul, nI_sub, nI_mul, nI_add, nI_lt_iff, nI_le_iff, nI_inj, nI_num, mq_ix, nI_1, nl_mul, nl_div, x0, p1, on1, x1, p2, x2, p3, x3, p4, x4, ho4, v6, w6, p5, x5, narrow, mj_E, hh, l5, ko]
    rfl
  | false =>
    rw [hkn] at w6
    obtain ⟨M5, p5, z5, f5⟩ := kz_newSecret (d := d + 4) z4
    obtain ⟨u5, x5⟩ := z5.fa
    obtain ⟨z6, f6⟩ := z5.mk_o (((((k1.1.1.1.1, k1.1.1.1.2), (k1.1.1.2.1, k1.1.1.2.2)), ((k1.1.2.1.1, k1.1.2.1.2), (k1.1.2.2.1, T.2.2 + 1))), (((k1.2.1.1.1, k1.2.1.1.2), (k1.2.1.2.1, k1.2.1.2.2)), ((k1.2.2.1.1, k1.2.2.1.2), k1.2.2.2))) : Ky) rfl rfl rfl rfl
    obtain ⟨z7, f7⟩ := z6.mk_o (((((k1.1.1.1.1, k1.1.1.1.2), (k1.1.1.2.1, k1.1.1.2.2)), ((k1.1.2.1.1, k1.1.2.1.2), (k1.1.2.2.1, T.2.2 + 1))), (((k1.2.1.1.1, k.2.1.1.2 + 1), (k1.2.1.2.1, k1.2.1.2.2)), ((k1.2.2.1.1, k1.2.2.1.2), k1.2.2.2))) : Ky) rfl rfl rfl rfl
    obtain ⟨u7, x7⟩ := z7.fa
    have hwk : k1.2.1.1.2 = k.2.1.1.2 := by rw [← hk1]; rfl
    have l5 := mq_lt z5.ob
    have l5' : κ + 1 ≠ κ := by omega
    rw [List.set_set] at z7 x7 f7
    refine ⟨_, _, ?_, by simpa using z7, (((((((f1).trs f2).trs f3).trs f4).trs f5).trs f6).trs f7)⟩
    unfold ko at x7
    dsimp only at x7
    rw [hwk] at x5
    by_cases c1 : k1.1.1.1.1.2.2.2.2.2.2.2.2.2.1 = 0
    · simp (disch := (first | omega | decide)) [c151, s151_0, s151_1, s151_4, s151_5, s151_6, s151_9, s151_12, s151_13, s151_14, s151_15, s151_16, s151_19, s151_22, s151_23, s151_24, s151_25, s151_28, s151_29, s151_32, s151_33, s151_36, s151_37, s151_40, s151_41, s151_44, s151_45, s151_48, s151_51, s151_54, s151_55, s151_56, s151_59, s151_60, s151_62, s151_65, s151_68, s151_71, s151_72, s151_75, s151_76, s151_78, s151_79, s151_80, s151_83, s151_84, s151_85, s151_86, s151_89, s151_90, s151_91, s151_92, s151_93, s151_96, s151_99, s151_102, s151_103, s151_104, s151_107, s151_108, s151_109, s151_112, s151_113, s151_116, s151_119, s151_122, s151_124, s151_125, s151_126, s151_129, s151_130, s151_133, s151_135, s151_138, s151_140, mq_k0s, mq_k1s, mq_k2s, mq_k4s, mq_k5s, mq_k5n, mq_k5as, mq_k6s, mj_pu, mj_lo, mj_br, mj_hr, mj_hw, mq_gf, mq_len, mq_al, mq_pf, mq_ok, mj_re, mq_lkm, mq_lkn, mj_ldi, mj_ldl, mj_lda, mj_ii, mj_ll, mj_li, mj_i1, ms_1, ms_2, f1_n, f1_i, f1_r, f1_u, f1_l, f2_n, f2_i, f2_r, f2_u, f2_l, mj_tg, mj_c1, mj_c2, mj_ar, mj_aw, mq_cb, mq_oi, mj_rm, Value.category, -getElem?_pos, List.getElem?_cons_zero, decide_eq_true, decide_eq_false, nl_lt, nl_le, ln_lt, ln_le, nl_eq, ln_eq, nl_add, ln_add, nl_sub, ln_mul, nI_sub, nI_mul, nI_add, nI_lt_iff, nI_le_iff, nI_inj, nI_num, mq_ix, nI_1, nl_mul, nl_div, x0, p1, on1, x1, p2, x2, p3, x3, p4, x4, ho4, v6, w6, p5, x5, narrow, mj_E, hh, l5, ko, c1, List.getElem?_set]
    · by_cases c2 : 3 ≤ k.2.1.1.2 + 1
      · simp (disch := (first | omega | decide)) [c151, s151_0, s151_1, s151_4, s151_5, s151_6, s151_9, s151_12, s151_13, s151_14, s151_15, s151_16, s151_19, s151_22, s151_23, s151_24, s151_25, s151_28, s151_29, s151_32, s151_33, s151_36, s151_37, s151_40, s151_41, s151_44, s151_45, s151_48, s151_51, s151_54, s151_55, s151_56, s151_59, s151_60, s151_62, s151_65, s151_68, s151_71, s151_72, s151_75, s151_76, s151_78, s151_79, s151_80, s151_83, s151_84, s151_85, s151_86, s151_89, s151_90, s151_91, s151_92, s151_93, s151_96, s151_99, s151_102, s151_103, s151_104, s151_107, s151_108, s151_109, s151_112, s151_113, s151_116, s151_119, s151_122, s151_124, s151_125, s151_126, s151_129, s151_130, s151_133, s151_135, s151_138, s151_140, mq_k0s, mq_k1s, mq_k2s, mq_k4s, mq_k5s, mq_k5n, mq_k5as, mq_k6s, mj_pu, mj_lo, mj_br, mj_hr, mj_hw, mq_gf, mq_len, mq_al, mq_pf, mq_ok, mj_re, mq_lkm, mq_lkn, mj_ldi, mj_ldl, mj_lda, mj_ii, mj_ll, mj_li, mj_i1, ms_1, ms_2, f1_n, f1_i, f1_r, f1_u, f1_l, f2_n, f2_i, f2_r, f2_u, f2_l, mj_tg, mj_c1, mj_c2, mj_ar, mj_aw, mq_cb, mq_oi, mj_rm, Value.category, -getElem?_pos, List.getElem?_cons_zero, decide_eq_true, decide_eq_false, nl_lt, nl_le, ln_lt, ln_le, nl_eq, ln_eq, nl_add, ln_add, nl_sub, ln_mul, nI_sub, nI_mul, nI_add, nI_lt_iff, nI_le_iff, nI_inj, nI_num, mq_ix, nI_1, nl_mul, nl_div, x0, p1, on1, x1, p2, x2, p3, x3, p4, x4, ho4, v6, w6, p5, x5, narrow, mj_E, hh, l5, ko, c1, c2, List.getElem?_set]
      · simp (disch := (first | omega | decide)) [c151, s151_0, s151_1, s151_4, s151_5, s151_6, s151_9, s151_12, s151_13, s151_14, s151_15, s151_16, s151_19, s151_22, s151_23, s151_24, s151_25, s151_28, s151_29, s151_32, s151_33, s151_36, s151_37, s151_40, s151_41, s151_44, s151_45, s151_48, s151_51, s151_54, s151_55, s151_56, s151_59, s151_60, s151_62, s151_65, s151_68, s151_71, s151_72, s151_75, s151_76, s151_78, s151_79, s151_80, s151_83, s151_84, s151_85, s151_86, s151_89, s151_90, s151_91, s151_92, s151_93, s151_96, s151_99, s151_102, s151_103, s151_104, s151_107, s151_108, s151_109, s151_112, s151_113, s151_116, s151_119, s151_122, s151_124, s151_125, s151_126, s151_129, s151_130, s151_133, s151_135, s151_138, s151_140, mq_k0s, mq_k1s, mq_k2s, mq_k4s, mq_k5s, mq_k5n, mq_k5as, mq_k6s, mj_pu, mj_lo, mj_br, mj_hr, mj_hw, mq_gf, mq_len, mq_al, mq_pf, mq_ok, mj_re, mq_lkm, mq_lkn, mj_ldi, mj_ldl, mj_lda, mj_ii, mj_ll, mj_li, mj_i1, ms_1, ms_2, f1_n, f1_i, f1_r, f1_u, f1_l, f2_n, f2_i, f2_r, f2_u, f2_l, mj_tg, mj_c1, mj_c2, mj_ar, mj_aw, mq_cb, mq_oi, mj_rm, Value.category, -getElem?_pos, List.getElem?_cons_zero, decide_eq_true, decide_eq_false, nl_lt, nl_le, ln_lt, ln_le, nl_eq, ln_eq, nl_add, ln_add, nl_sub, ln_mul, nI_sub, nI_mul, nI_add, nI_lt_iff, nI_le_iff, nI_inj, nI_num, mq_ix, nI_1, nl_mul, nl_div, x0, p1, on1, x1, p2, x2, p3, x3, p4, x4, ho4, v6, w6, p5, x5, narrow, mj_E, hh, l5, ko, c1, c2, List.getElem?_set]
end KZ
end
/- 92.inv -/
section
set_option maxRecDepth 512
/-! The store stays sound. -/
theorem fs_lay_all (bs : List Int32) (p : Nat) (s : Fl) : (fs_lay bs p s).1.1.length = s.1.length ∧ (fs_lay bs p s).1.2.2.2.2.2.2.2 = s.2.2.2.2.2.2.2 ∧ (fs_lay bs p s).1.2.2.2.2.1 = s.2.2.2.2.1 ∧ (fs_lay bs p s).1.2.2.2.2.2.1 = s.2.2.2.2.2.1 ∧ (fs_lay bs p s).1.2.2.2.2.2.2.1 = s.2.2.2.2.2.2.1 := ⟨fs_lay_len bs p s, fs_lay_st bs p s⟩
theorem fs_era_all (k p : Nat) (s : Fl) : (fs_era k p s).1.1.length = s.1.length ∧ (fs_era k p s).1.2.2.2.2.2.2.2 = s.2.2.2.2.2.2.2 ∧ (fs_era k p s).1.2.2.2.2.1 = s.2.2.2.2.1 ∧ (fs_era k p s).1.2.2.2.2.2.1 = s.2.2.2.2.2.1 ∧ (fs_era k p s).1.2.2.2.2.2.2.1 = s.2.2.2.2.2.2.1 := by
  have := fs_era_st k p s
  exact ⟨fs_era_len k p s, this.1, this.2.1, this.2.2.1, this.2.2.2.1⟩
/-- a move: all stands, but the area, the number and the end -/
theorem fs_move_all (s : Fl) : (fs_move s).1.1.length = s.1.length ∧ (fs_move s).1.2.2.2.2.2.2.2 = s.2.2.2.2.2.2.2 ∧ (((fs_move s).2 = false ∧ (fs_move s).1.2.2.2.2.1 = s.2.2.2.2.1 ∧ (fs_move s).1.2.2.2.2.2.1 = s.2.2.2.2.2.1 ∧ (fs_move s).1.2.2.2.2.2.2.1 = s.2.2.2.2.2.2.1) ∨ ((fs_move s).2 = true ∧ (fs_move s).1.2.2.2.2.1 = 1 - s.2.2.2.2.1 ∧ (fs_move s).1.2.2.2.2.2.1 = s.2.2.2.2.2.1 + 1 ∧ (fs_move s).1.2.2.2.2.2.2.1 = 4 + s.2.2.2.2.2.2.2.recs.length)) := by
  unfold fs_move
  dsimp only
  have h1 := fs_era_all 4 ((1 - s.2.2.2.2.1) * 256) s
  generalize fs_era 4 ((1 - s.2.2.2.2.1) * 256) s = e at *
  split
  · next he => exact ⟨h1.1, h1.2.1, Or.inl ⟨he, h1.2.2⟩⟩
  · have h2 := fs_lay_all s.2.2.2.2.2.2.2.recs ((1 - s.2.2.2.2.1) * 256 + 4) e.1
    generalize fs_lay s.2.2.2.2.2.2.2.recs ((1 - s.2.2.2.2.1) * 256 + 4) e.1 = l at *
    split
    · next hl => exact ⟨h2.1.trans h1.1, h2.2.1.trans h1.2.1, Or.inl ⟨hl, h2.2.2.1.trans h1.2.2.1, h2.2.2.2.1.trans h1.2.2.2.1, h2.2.2.2.2.trans h1.2.2.2.2⟩⟩
    · have h3 := fs_lay_all (hdr (s.2.2.2.2.2.1 + 1)) ((1 - s.2.2.2.2.1) * 256) l.1
      generalize fs_lay (hdr (s.2.2.2.2.2.1 + 1)) ((1 - s.2.2.2.2.1) * 256) l.1 = h at *
      split
      · next hh => exact ⟨h3.1.trans (h2.1.trans h1.1), h3.2.1.trans (h2.2.1.trans h1.2.1), Or.inl ⟨hh, h3.2.2.1.trans (h2.2.2.1.trans h1.2.2.1), h3.2.2.2.1.trans (h2.2.2.2.1.trans h1.2.2.2.1), h3.2.2.2.2.trans (h2.2.2.2.2.trans h1.2.2.2.2)⟩⟩
      · exact ⟨h3.1.trans (h2.1.trans h1.1), h3.2.1.trans (h2.2.1.trans h1.2.1), Or.inr ⟨rfl, rfl, rfl, rfl⟩⟩
theorem fs_put_all (r : List Int32) (s : Fl) : (fs_put r s).1.1.length = s.1.length ∧ (fs_put r s).1.2.2.2.2.1 = s.2.2.2.2.1 ∧ (fs_put r s).1.2.2.2.2.2.1 = s.2.2.2.2.2.1 ∧ (((fs_put r s).2 = false ∧ (fs_put r s).1.2.2.2.2.2.2.2 = s.2.2.2.2.2.2.2 ∧ (fs_put r s).1.2.2.2.2.2.2.1 = s.2.2.2.2.2.2.1) ∨ ((fs_put r s).2 = true ∧ (fs_put r s).1.2.2.2.2.2.2.2 = fs_lrn s.2.2.2.2.2.2.2 r ∧ (fs_put r s).1.2.2.2.2.2.2.1 = s.2.2.2.2.2.2.1 + r.length)) := by
  unfold fs_put
  dsimp only
  have h1 := fs_lay_all r (s.2.2.2.2.1 * 256 + s.2.2.2.2.2.2.1) s
  generalize fs_lay r (s.2.2.2.2.1 * 256 + s.2.2.2.2.2.2.1) s = l at *
  split
  · next hl => exact ⟨h1.1, h1.2.2.1, h1.2.2.2.1, Or.inl ⟨hl, h1.2.1, h1.2.2.2.2⟩⟩
  · exact ⟨h1.1, h1.2.2.1, h1.2.2.2.1, Or.inr ⟨rfl, rfl, rfl⟩⟩
/-- whatever becomes of a write -/
theorem fs_wr_all (r : List Int32) (s : Fl) (hl : r.length ≤ 24) (hw : fw s) : (fs_wr r s).1.1.length = s.1.length ∧ (fs_wr r s).1.2.2.2.2.1 ≤ 1 ∧ s.2.2.2.2.2.1 ≤ (fs_wr r s).1.2.2.2.2.2.1 ∧ (fs_wr r s).1.2.2.2.2.2.1 ≤ s.2.2.2.2.2.1 + 1 ∧ (fs_wr r s).1.2.2.2.2.2.2.1 ≤ 256 ∧ (((fs_wr r s).2 = false ∧ (fs_wr r s).1.2.2.2.2.2.2.2 = s.2.2.2.2.2.2.2) ∨ ((fs_wr r s).2 = true ∧ (fs_wr r s).1.2.2.2.2.2.2.2 = fs_lrn s.2.2.2.2.2.2.2 r)) := by
  have ha := hw.a
  have he := hw.e
  have hr := recs_len s.2.2.2.2.2.2.2
  have hr2 := hw.r
  unfold fs_wr
  split
  · dsimp only
    have h1 := fs_move_all s
    split
    · next hm =>
      rcases h1.2.2 with h2 | h2
      · exact ⟨h1.1, by omega, by omega, by omega, by omega, Or.inl ⟨hm, h1.2.1⟩⟩
      · rw [hm] at h2; cases h2.1
    · next hm =>
      rcases h1.2.2 with h2 | h2
      · exact absurd h2.1 hm
      · have h3 := fs_put_all r (fs_move s).1
        refine ⟨h3.1.trans h1.1, by omega, by omega, by omega, ?_, ?_⟩
        · rcases h3.2.2.2 with h4 | h4 <;> omega
        · rcases h3.2.2.2 with h4 | h4
          · exact Or.inl ⟨h4.1, h4.2.1.trans h1.2.1⟩
          · exact Or.inr ⟨h4.1, by rw [h4.2.1, h1.2.1]⟩
  · next hn =>
    have h3 := fs_put_all r s
    refine ⟨h3.1, by omega, by omega, by omega, ?_, ?_⟩
    · rcases h3.2.2.2 with h4 | h4 <;> omega
    · rcases h3.2.2.2 with h4 | h4
      · exact Or.inl ⟨h4.1, h4.2.1⟩
      · exact Or.inr ⟨h4.1, h4.2.1⟩
theorem fs_lay_onk : ∀ (bs : List Int32) (p : Nat) (s : Fl), ((fs_lay bs p s).2 = true ∧ (fs_lay bs p s).1.2.1 = s.2.1) ∨ ((fs_lay bs p s).2 = false ∧ (fs_lay bs p s).1.2.1 = false) := by
  intro bs
  induction bs with
  | nil => intro p s; exact Or.inl ⟨rfl, rfl⟩
  | cons b bs ih =>
    intro p s
    unfold fs_lay
    split
    · exact Or.inr ⟨rfl, rfl⟩
    · exact ih _ _
theorem fs_era_onk : ∀ (k p : Nat) (s : Fl), ((fs_era k p s).2 = true ∧ (fs_era k p s).1.2.1 = s.2.1) ∨ ((fs_era k p s).2 = false ∧ (fs_era k p s).1.2.1 = false) := by
  intro k
  induction k with
  | zero => intro p s; exact Or.inl ⟨rfl, rfl⟩
  | succ k ih =>
    intro p s
    unfold fs_era
    split
    · exact Or.inr ⟨rfl, rfl⟩
    · exact ih _ _
theorem fs_move_onk (s : Fl) : ((fs_move s).2 = true ∧ (fs_move s).1.2.1 = s.2.1) ∨ ((fs_move s).2 = false ∧ (fs_move s).1.2.1 = false) := by
  unfold fs_move
  dsimp only
  have h1 := fs_era_onk 4 ((1 - s.2.2.2.2.1) * 256) s
  generalize fs_era 4 ((1 - s.2.2.2.2.1) * 256) s = e at *
  split
  · next he =>
    rcases h1 with h1 | h1
    · rw [he] at h1; cases h1.1
    · exact Or.inr h1
  · next he =>
    have h1 : e.1.2.1 = s.2.1 := by
      rcases h1 with h1 | h1
      · exact h1.2
      · exact absurd h1.1 he
    have h2 := fs_lay_onk s.2.2.2.2.2.2.2.recs ((1 - s.2.2.2.2.1) * 256 + 4) e.1
    generalize fs_lay s.2.2.2.2.2.2.2.recs ((1 - s.2.2.2.2.1) * 256 + 4) e.1 = l at *
    split
    · next hl =>
      rcases h2 with h2 | h2
      · rw [hl] at h2; cases h2.1
      · exact Or.inr h2
    · next hl =>
      have h2 : l.1.2.1 = e.1.2.1 := by
        rcases h2 with h2 | h2
        · exact h2.2
        · exact absurd h2.1 hl
      have h3 := fs_lay_onk (hdr (s.2.2.2.2.2.1 + 1)) ((1 - s.2.2.2.2.1) * 256) l.1
      generalize fs_lay (hdr (s.2.2.2.2.2.1 + 1)) ((1 - s.2.2.2.2.1) * 256) l.1 = h at *
      split
      · next hh =>
        rcases h3 with h3 | h3
        · rw [hh] at h3; cases h3.1
        · exact Or.inr h3
      · next hh =>
        rcases h3 with h3 | h3
        · exact Or.inl ⟨rfl, h3.2.trans (h2.trans h1)⟩
        · exact absurd h3.1 hh
theorem fs_wr_onk (r : List Int32) (s : Fl) : ((fs_wr r s).2 = true ∧ (fs_wr r s).1.2.1 = s.2.1) ∨ ((fs_wr r s).2 = false ∧ (fs_wr r s).1.2.1 = false) := by
  have hp : ∀ s : Fl, ((fs_put r s).2 = true ∧ (fs_put r s).1.2.1 = s.2.1) ∨ ((fs_put r s).2 = false ∧ (fs_put r s).1.2.1 = false) := by
    intro s
    unfold fs_put
    dsimp only
    have h := fs_lay_onk r (s.2.2.2.2.1 * 256 + s.2.2.2.2.2.2.1) s
    generalize fs_lay r (s.2.2.2.2.1 * 256 + s.2.2.2.2.2.2.1) s = l at *
    split
    · next hl =>
      rcases h with h | h
      · rw [hl] at h; cases h.1
      · exact Or.inr h
    · next hl =>
      rcases h with h | h
      · exact Or.inl ⟨rfl, h.2⟩
      · exact absurd h.1 hl
  unfold fs_wr
  split
  · dsimp only
    have h := fs_move_onk s
    split
    · next hm =>
      rcases h with h | h
      · rw [hm] at h; cases h.1
      · exact Or.inr h
    · next hm =>
      have h : (fs_move s).1.2.1 = s.2.1 := by
        rcases h with h | h
        · exact h.2
        · exact absurd h.1 hm
      rcases hp (fs_move s).1 with h1 | h1
      · exact Or.inl ⟨h1.1, h1.2.trans h⟩
      · exact Or.inr h1
  · exact hp s
theorem bt_low_by8 (w : Int64) (n : Nat) : ∀ v ∈ bt_low w n, v &&& 255 = v := bt_low_by w n
theorem rc_by {k : Int32} {b : List Int32} (hk : k &&& 255 = k) (hl : b.length < 256) (hb : ∀ v ∈ b, v &&& 255 = v) : ∀ v ∈ rc k b, v &&& 255 = v := by
  intro v hv
  unfold rc ck2 at hv
  rcases List.mem_append.mp hv with h | h
  · rcases List.mem_cons.mp h with rfl | h
    · exact hk
    · rcases List.mem_cons.mp h with rfl | h
      · exact by_nat _ hl
      · exact hb _ h
  · exact bt_low_by _ _ _ h
theorem rcn_by {kk a b : Int32} (hk : kk = 2 ∨ kk = 3 ∨ kk = 4) : ∀ v ∈ rcn kk a b, v &&& 255 = v := by
  rcases hk with rfl | rfl | rfl
  · exact rc_by (by decide) (by rw [b4_len]; decide) (b4_by a)
  · exact rc_by (by decide) (by simp) (by intro v hv; simp only [List.mem_singleton] at hv; subst hv; exact bt_255 a)
  · refine rc_by (by decide) (by simp [b4_len]) ?_
    intro v hv
    rcases List.mem_append.mp hv with h | h
    · exact b4_by _ _ h
    · exact b4_by _ _ h
theorem rcn_rec {kk a b : Int32} (hk : kk = 2 ∨ kk = 3 ∨ kk = 4) : isRec (rcn kk a b) ∧ (rcn kk a b).length ≤ 24 := by
  rcases hk with rfl | rfl | rfl
  · exact ⟨isRec_rc rfl, by show (rc 2 (b4 a)).length ≤ 24; rw [rc_len, b4_len]; omega⟩
  · exact ⟨isRec_rc rfl, by show (rc 3 [a &&& 255]).length ≤ 24; rw [rc_len]; simp⟩
  · exact ⟨isRec_rc rfl, by show (rc 4 (b4 a ++ b4 b)).length ≤ 24; rw [rc_len, List.length_append, b4_len, b4_len]; omega⟩
theorem cnt_room (s : St) (id n : Int32) : fs_room (fs_count s id n).2.2.2.2 = fs_room s.2.2.2.2 := by
  unfold fs_count fs_room
  split
  · rfl
  · dsimp only
    rw [List.map_map]
    congr 1
    apply List.map_congr_left
    intro c _
    simp only [Function.comp]
    split <;> rfl
/-- what the key's own records say leaves the room of credentials as it is -/
theorem rcn_room (s : St) {kk a b : Int32} (hk : kk = 2 ∨ kk = 3 ∨ kk = 4) : fs_room (fs_lrn s (rcn kk a b)).2.2.2.2 = fs_room s.2.2.2.2 := by
  rcases hk with rfl | rfl | rfl
  · rfl
  · rfl
  · rw [show rcn 4 a b = rcCount a b from rfl, lrn_cnt]; exact cnt_room s a b
theorem fw_wr {s : Fl} {r : List Int32} (hw : fw s) (hg : s.2.2.2.2.2.1 + 1 < 2 ^ 29) (hr : isRec r) (hl : r.length ≤ 24) (h8 : ∀ v ∈ r, v &&& 255 = v) (hroom : fs_room (fs_lrn s.2.2.2.2.2.2.2 r).2.2.2.2 ≤ 195) : fw (fs_wr r s).1 := by
  obtain ⟨h1, h2, h3, h4, h5, h6⟩ := fs_wr_all r s hl hw
  refine (fw_mk_ (h1.trans hw.l) h2 (by omega) h5 ?_ ?_)
  · rcases h6 with h | h
    · rw [h.2]; exact hw.u
    · rw [h.2]; exact okU_lrn hw.u hr h8
  · rcases h6 with h | h
    · rw [h.2]; exact hw.r
    · rw [h.2]; exact hroom
theorem fw_rcn {s : Fl} {kk a b : Int32} (hw : fw s) (hg : s.2.2.2.2.2.1 + 1 < 2 ^ 29) (hk : kk = 2 ∨ kk = 3 ∨ kk = 4) : fw (fs_wr (rcn kk a b) s).1 := by
  obtain ⟨h1, h2⟩ := rcn_rec (a := a) (b := b) hk
  exact fw_wr hw hg h1 h2 (rcn_by hk) (by rw [rcn_room _ hk]; exact hw.r)
end
/- 93.key12 -/
section
set_option maxRecDepth 512
/-! Class: Key: PIN, the whole. -/
/- 142 PasskeyHouse$Key.doPin()I -/
theorem s142_0 {d : Nat} {ls : mj_L} {st : List Value} {M : mj_H} : mj_Rn d mj_m142 0 ls st M = mq_k0 d mj_m142 1 ls M (mj_lda (mj_lk ls 0) st) := mj_R0 (r := (.aload_n 0, 1, 0, 0, 0)) rfl rfl
theorem s142_1 {d : Nat} {ls : mj_L} {st : List Value} {M : mj_H} : mj_Rn d mj_m142 1 ls st M = mq_k0 d mj_m142 4 ls M (mq_gf 5 1 st M) := (mj_R3 (r := (.getfield 15, 3, 5, 1, 16598)) rfl rfl).trans (congrArg (mq_k0 d mj_m142 4 ls M) mq_gf_eq)
theorem s142_4 {d : Nat} {ls : mj_L} {st : List Value} {M : mj_H} : mj_Rn d mj_m142 4 ls st M = mq_k0 d mj_m142 5 ls M (mj_lda (mj_lk ls 0) st) := mj_R0 (r := (.aload_n 0, 1, 0, 0, 0)) rfl rfl
theorem s142_5 {d : Nat} {ls : mj_L} {st : List Value} {M : mj_H} : mj_Rn d mj_m142 5 ls st M = mq_k0 d mj_m142 8 ls M (mq_gf 5 1 st M) := (mj_R3 (r := (.getfield 15, 3, 5, 1, 16598)) rfl rfl).trans (congrArg (mq_k0 d mj_m142 8 ls M) mq_gf_eq)
theorem s142_8 {d : Nat} {ls : mj_L} {st : List Value} {M : mj_H} : mj_Rn d mj_m142 8 ls st M = mj_Rn d mj_m142 9 ls (.int 0 :: st) M := mj_R0 (r := (.iconst 0, 1, 0, 0, 0)) rfl rfl
theorem s142_9 {d : Nat} {ls : mj_L} {st : List Value} {M : mj_H} : mj_Rn d mj_m142 9 ls st M = mj_Rn d mj_m142 10 ls (.int 2 :: st) M := mj_R0 (r := (.iconst 2, 1, 0, 0, 0)) rfl rfl
theorem s142_10 {d : Nat} {ls : mj_L} {st : List Value} {M : mj_H} : mj_Rn (d + 1) mj_m142 10 ls st M = mq_k5a (d + 1) mj_m142 13 ls M 87 (mq_cb 0 2 4 st M) := mj_R5e (r := (.invokevirtual 209, 3, 0, 87, 12485)) (z := mj_m87) rfl rfl (by decide) (by decide) rfl
theorem s142_13 {d : Nat} {ls : mj_L} {st : List Value} {M : mj_H} : mj_Rn (d + 1) mj_m142 13 ls st M = mq_k5a (d + 1) mj_m142 16 ls M 88 (mq_cb 0 1 4 st M) := mj_R5e (r := (.invokevirtual 154, 3, 0, 88, 16458)) (z := mj_m88) rfl rfl (by decide) (by decide) rfl
theorem s142_16 {d : Nat} {ls : mj_L} {st : List Value} {M : mj_H} : mj_Rn d mj_m142 16 ls st M = mq_k1 d mj_m142 17 M (mj_lo 5 (.istore 1) ls st) := (mj_R1 (r := (.istore_n 1, 1, 0, 0, 0)) rfl rfl).trans (congrArg (mq_k1 d mj_m142 17 M) (mq_sti (k := 1)))
theorem s142_17 {d : Nat} {ls : mj_L} {st : List Value} {M : mj_H} : mj_Rn d mj_m142 17 ls st M = mq_k0 d mj_m142 18 ls M (mj_lda (mj_lk ls 0) st) := mj_R0 (r := (.aload_n 0, 1, 0, 0, 0)) rfl rfl
theorem s142_18 {d : Nat} {ls : mj_L} {st : List Value} {M : mj_H} : mj_Rn d mj_m142 18 ls st M = mq_k0 d mj_m142 19 ls M (mj_ldi (mj_lk ls 1) st) := mj_R0 (r := (.iload_n 1, 1, 0, 0, 0)) rfl rfl
theorem s142_19 {d : Nat} {ls : mj_L} {st : List Value} {M : mj_H} : mj_Rn (d + 1) mj_m142 19 ls st M = mq_k5a (d + 1) mj_m142 22 ls M 143 (mq_cb 0 1 5 st M) := mj_R5e (r := (.invokevirtual 379, 3, 0, 143, 16601)) (z := mj_m143) rfl rfl (by decide) (by decide) rfl
theorem s142_22 {d : Nat} {ls : mj_L} {st : List Value} {M : mj_H} : mj_Rn d mj_m142 22 ls st M = mq_k1 d mj_m142 23 M (mj_lo 5 (.istore 2) ls st) := (mj_R1 (r := (.istore_n 2, 1, 0, 0, 0)) rfl rfl).trans (congrArg (mq_k1 d mj_m142 23 M) (mq_sti (k := 2)))
theorem s142_23 {d : Nat} {ls : mj_L} {st : List Value} {M : mj_H} : mj_Rn d mj_m142 23 ls st M = mq_k0 d mj_m142 24 ls M (mj_ldi (mj_lk ls 2) st) := mj_R0 (r := (.iload_n 2, 1, 0, 0, 0)) rfl rfl
theorem s142_24 {d : Nat} {ls : mj_L} {st : List Value} {M : mj_H} : mj_Rn d mj_m142 24 ls st M = mq_k2 d mj_m142 ls M (mj_br (.ifCond .eq 5) 24 st) := mj_R2 (r := (.ifCond .eq 5, 3, 0, 0, 0)) rfl rfl
theorem s142_27 {d : Nat} {ls : mj_L} {st : List Value} {M : mj_H} : mj_Rn d mj_m142 27 ls st M = mq_k0 d mj_m142 28 ls M (mj_ldi (mj_lk ls 2) st) := mj_R0 (r := (.iload_n 2, 1, 0, 0, 0)) rfl rfl
theorem s142_28 {d : Nat} {ls : mj_L} {st : List Value} {M : mj_H} : mj_Rn d mj_m142 28 ls st M = mq_k6 M (mj_re (some .int) (.ireturn) st) := mj_R6 (r := (.ireturn, 1, 0, 0, 0)) rfl rfl
theorem s142_29 {d : Nat} {ls : mj_L} {st : List Value} {M : mj_H} : mj_Rn d mj_m142 29 ls st M = mq_k0 d mj_m142 30 ls M (mj_ldi (mj_lk ls 1) st) := mj_R0 (r := (.iload_n 1, 1, 0, 0, 0)) rfl rfl
theorem s142_30 {d : Nat} {ls : mj_L} {st : List Value} {M : mj_H} : mj_Rn d mj_m142 30 ls st M = mj_Rn d mj_m142 31 ls (.int 1 :: st) M := mj_R0 (r := (.iconst 1, 1, 0, 0, 0)) rfl rfl
theorem s142_31 {d : Nat} {ls : mj_L} {st : List Value} {M : mj_H} : mj_Rn d mj_m142 31 ls st M = mq_k2 d mj_m142 ls M (mj_br (.if_icmp .ne 37) 31 st) := mj_R2 (r := (.if_icmp .ne 37, 3, 0, 0, 0)) rfl rfl
theorem s142_34 {d : Nat} {ls : mj_L} {st : List Value} {M : mj_H} : mj_Rn d mj_m142 34 ls st M = mq_k0 d mj_m142 35 ls M (mj_lda (mj_lk ls 0) st) := mj_R0 (r := (.aload_n 0, 1, 0, 0, 0)) rfl rfl
theorem s142_35 {d : Nat} {ls : mj_L} {st : List Value} {M : mj_H} : mj_Rn d mj_m142 35 ls st M = mq_k0 d mj_m142 38 ls M (mq_gf 5 3 st M) := (mj_R3 (r := (.getfield 31, 3, 5, 3, 16604)) rfl rfl).trans (congrArg (mq_k0 d mj_m142 38 ls M) mq_gf_eq)
theorem s142_38 {d : Nat} {ls : mj_L} {st : List Value} {M : mj_H} : mj_Rn d mj_m142 38 ls st M = mj_Rn d mj_m142 39 ls (.int 5 :: st) M := mj_R0 (r := (.iconst 5, 1, 0, 0, 0)) rfl rfl
theorem s142_39 {d : Nat} {ls : mj_L} {st : List Value} {M : mj_H} : mj_Rn d mj_m142 39 ls st M = mj_Rn d mj_m142 40 ls (.int 1 :: st) M := mj_R0 (r := (.iconst 1, 1, 0, 0, 0)) rfl rfl
theorem s142_40 {d : Nat} {ls : mj_L} {st : List Value} {M : mj_H} : mj_Rn (d + 1) mj_m142 40 ls st M = mq_k5a (d + 1) mj_m142 43 ls M 131 (mq_cb 0 2 1 st M) := mj_R5e (r := (.invokevirtual 313, 3, 0, 131, 16540)) (z := mj_m131) rfl rfl (by decide) (by decide) rfl
theorem s142_43 {d : Nat} {ls : mj_L} {st : List Value} {M : mj_H} : mj_Rn d mj_m142 43 ls st M = mq_k0 d mj_m142 44 ls M (mj_lda (mj_lk ls 0) st) := mj_R0 (r := (.aload_n 0, 1, 0, 0, 0)) rfl rfl
theorem s142_44 {d : Nat} {ls : mj_L} {st : List Value} {M : mj_H} : mj_Rn d mj_m142 44 ls st M = mq_k0 d mj_m142 47 ls M (mq_gf 5 3 st M) := (mj_R3 (r := (.getfield 31, 3, 5, 3, 16604)) rfl rfl).trans (congrArg (mq_k0 d mj_m142 47 ls M) mq_gf_eq)
theorem s142_47 {d : Nat} {ls : mj_L} {st : List Value} {M : mj_H} : mj_Rn d mj_m142 47 ls st M = mj_Rn d mj_m142 48 ls (.int 3 :: st) M := mj_R0 (r := (.iconst 3, 1, 0, 0, 0)) rfl rfl
theorem s142_48 {d : Nat} {ls : mj_L} {st : List Value} {M : mj_H} : mj_Rn (d + 1) mj_m142 48 ls st M = mq_k5a (d + 1) mj_m142 51 ls M 45 (mq_cb 0 1 1 st M) := mj_R5e (r := (.invokevirtual 102, 3, 0, 45, 12442)) (z := mj_m45) rfl rfl (by decide) (by decide) rfl
theorem s142_51 {d : Nat} {ls : mj_L} {st : List Value} {M : mj_H} : mj_Rn d mj_m142 51 ls st M = mq_k0 d mj_m142 52 ls M (mj_lda (mj_lk ls 0) st) := mj_R0 (r := (.aload_n 0, 1, 0, 0, 0)) rfl rfl
theorem s142_52 {d : Nat} {ls : mj_L} {st : List Value} {M : mj_H} : mj_Rn d mj_m142 52 ls st M = mq_k0 d mj_m142 55 ls M (mq_gf 5 3 st M) := (mj_R3 (r := (.getfield 31, 3, 5, 3, 16604)) rfl rfl).trans (congrArg (mq_k0 d mj_m142 55 ls M) mq_gf_eq)
theorem s142_55 {d : Nat} {ls : mj_L} {st : List Value} {M : mj_H} : mj_Rn d mj_m142 55 ls st M = mj_Rn d mj_m142 56 ls (.int 0 :: st) M := mj_R0 (r := (.iconst 0, 1, 0, 0, 0)) rfl rfl
theorem s142_56 {d : Nat} {ls : mj_L} {st : List Value} {M : mj_H} : mj_Rn d mj_m142 56 ls st M = mq_k0 d mj_m142 57 ls M (mj_lda (mj_lk ls 0) st) := mj_R0 (r := (.aload_n 0, 1, 0, 0, 0)) rfl rfl
theorem s142_57 {d : Nat} {ls : mj_L} {st : List Value} {M : mj_H} : mj_Rn d mj_m142 57 ls st M = mq_k0 d mj_m142 60 ls M (mq_gf 5 2 st M) := (mj_R3 (r := (.getfield 22, 3, 5, 2, 16600)) rfl rfl).trans (congrArg (mq_k0 d mj_m142 60 ls M) mq_gf_eq)
theorem s142_60 {d : Nat} {ls : mj_L} {st : List Value} {M : mj_H} : mj_Rn d mj_m142 60 ls st M = mq_k0 d mj_m142 63 ls M (mq_gf 8 12 st M) := (mj_R3 (r := (.getfield 382, 3, 8, 12, 16521)) rfl rfl).trans (congrArg (mq_k0 d mj_m142 63 ls M) mq_gf_eq)
theorem s142_63 {d : Nat} {ls : mj_L} {st : List Value} {M : mj_H} : mj_Rn (d + 1) mj_m142 63 ls st M = mq_k5a (d + 1) mj_m142 66 ls M 131 (mq_cb 0 2 1 st M) := mj_R5e (r := (.invokevirtual 313, 3, 0, 131, 16540)) (z := mj_m131) rfl rfl (by decide) (by decide) rfl
theorem s142_66 {d : Nat} {ls : mj_L} {st : List Value} {M : mj_H} : mj_Rn d mj_m142 66 ls st M = mj_Rn d mj_m142 67 ls (.int 0 :: st) M := mj_R0 (r := (.iconst 0, 1, 0, 0, 0)) rfl rfl
theorem s142_67 {d : Nat} {ls : mj_L} {st : List Value} {M : mj_H} : mj_Rn d mj_m142 67 ls st M = mq_k6 M (mj_re (some .int) (.ireturn) st) := mj_R6 (r := (.ireturn, 1, 0, 0, 0)) rfl rfl
theorem s142_68 {d : Nat} {ls : mj_L} {st : List Value} {M : mj_H} : mj_Rn d mj_m142 68 ls st M = mq_k0 d mj_m142 69 ls M (mj_ldi (mj_lk ls 1) st) := mj_R0 (r := (.iload_n 1, 1, 0, 0, 0)) rfl rfl
theorem s142_69 {d : Nat} {ls : mj_L} {st : List Value} {M : mj_H} : mj_Rn d mj_m142 69 ls st M = mj_Rn d mj_m142 70 ls (.int 2 :: st) M := mj_R0 (r := (.iconst 2, 1, 0, 0, 0)) rfl rfl
theorem s142_70 {d : Nat} {ls : mj_L} {st : List Value} {M : mj_H} : mj_Rn d mj_m142 70 ls st M = mq_k2 d mj_m142 ls M (mj_br (.if_icmp .ne 21) 70 st) := mj_R2 (r := (.if_icmp .ne 21, 3, 0, 0, 0)) rfl rfl
theorem s142_73 {d : Nat} {ls : mj_L} {st : List Value} {M : mj_H} : mj_Rn d mj_m142 73 ls st M = mq_k0 d mj_m142 74 ls M (mj_lda (mj_lk ls 0) st) := mj_R0 (r := (.aload_n 0, 1, 0, 0, 0)) rfl rfl
theorem s142_74 {d : Nat} {ls : mj_L} {st : List Value} {M : mj_H} : mj_Rn d mj_m142 74 ls st M = mj_Rn d mj_m142 75 ls (.int 1 :: st) M := mj_R0 (r := (.iconst 1, 1, 0, 0, 0)) rfl rfl
theorem s142_75 {d : Nat} {ls : mj_L} {st : List Value} {M : mj_H} : mj_Rn d mj_m142 75 ls st M = mq_k0 d mj_m142 76 ls M (mj_lda (mj_lk ls 0) st) := mj_R0 (r := (.aload_n 0, 1, 0, 0, 0)) rfl rfl
theorem s142_76 {d : Nat} {ls : mj_L} {st : List Value} {M : mj_H} : mj_Rn d mj_m142 76 ls st M = mq_k0 d mj_m142 79 ls M (mq_gf 5 0 st M) := (mj_R3 (r := (.getfield 9, 3, 5, 0, 16596)) rfl rfl).trans (congrArg (mq_k0 d mj_m142 79 ls M) mq_gf_eq)
theorem s142_79 {d : Nat} {ls : mj_L} {st : List Value} {M : mj_H} : mj_Rn d mj_m142 79 ls st M = mq_k0 d mj_m142 80 ls M (mj_lda (mj_lk ls 0) st) := mj_R0 (r := (.aload_n 0, 1, 0, 0, 0)) rfl rfl
theorem s142_80 {d : Nat} {ls : mj_L} {st : List Value} {M : mj_H} : mj_Rn d mj_m142 80 ls st M = mq_k0 d mj_m142 83 ls M (mq_gf 5 8 st M) := (mj_R3 (r := (.getfield 68, 3, 5, 8, 16616)) rfl rfl).trans (congrArg (mq_k0 d mj_m142 83 ls M) mq_gf_eq)
theorem s142_83 {d : Nat} {ls : mj_L} {st : List Value} {M : mj_H} : mj_Rn (d + 1) mj_m142 83 ls st M = mq_k5a (d + 1) mj_m142 86 ls M 130 (mq_cb 0 1 9 st M) := mj_R5e (r := (.invokevirtual 310, 3, 0, 130, 16536)) (z := mj_m130) rfl rfl (by decide) (by decide) rfl
theorem s142_86 {d : Nat} {ls : mj_L} {st : List Value} {M : mj_H} : mj_Rn (d + 1) mj_m142 86 ls st M = mq_k5a (d + 1) mj_m142 89 ls M 146 (mq_cb 0 2 5 st M) := mj_R5e (r := (.invokevirtual 385, 3, 0, 146, 16614)) (z := mj_m146) rfl rfl (by decide) (by decide) rfl
theorem s142_89 {d : Nat} {ls : mj_L} {st : List Value} {M : mj_H} : mj_Rn d mj_m142 89 ls st M = mj_Rn d mj_m142 90 ls (.int 0 :: st) M := mj_R0 (r := (.iconst 0, 1, 0, 0, 0)) rfl rfl
theorem s142_90 {d : Nat} {ls : mj_L} {st : List Value} {M : mj_H} : mj_Rn d mj_m142 90 ls st M = mq_k6 M (mj_re (some .int) (.ireturn) st) := mj_R6 (r := (.ireturn, 1, 0, 0, 0)) rfl rfl
theorem s142_91 {d : Nat} {ls : mj_L} {st : List Value} {M : mj_H} : mj_Rn d mj_m142 91 ls st M = mq_k0 d mj_m142 92 ls M (mj_lda (mj_lk ls 0) st) := mj_R0 (r := (.aload_n 0, 1, 0, 0, 0)) rfl rfl
theorem s142_92 {d : Nat} {ls : mj_L} {st : List Value} {M : mj_H} : mj_Rn d mj_m142 92 ls st M = mq_k0 d mj_m142 95 ls M (mq_gf 5 0 st M) := (mj_R3 (r := (.getfield 9, 3, 5, 0, 16596)) rfl rfl).trans (congrArg (mq_k0 d mj_m142 95 ls M) mq_gf_eq)
theorem s142_95 {d : Nat} {ls : mj_L} {st : List Value} {M : mj_H} : mj_Rn d mj_m142 95 ls st M = mq_k0 d mj_m142 96 ls M (mj_lda (mj_lk ls 0) st) := mj_R0 (r := (.aload_n 0, 1, 0, 0, 0)) rfl rfl
theorem s142_96 {d : Nat} {ls : mj_L} {st : List Value} {M : mj_H} : mj_Rn d mj_m142 96 ls st M = mq_k0 d mj_m142 99 ls M (mq_gf 5 8 st M) := (mj_R3 (r := (.getfield 68, 3, 5, 8, 16616)) rfl rfl).trans (congrArg (mq_k0 d mj_m142 99 ls M) mq_gf_eq)
theorem s142_99 {d : Nat} {ls : mj_L} {st : List Value} {M : mj_H} : mj_Rn d mj_m142 99 ls st M = mq_k0 d mj_m142 100 ls M (mj_lda (mj_lk ls 0) st) := mj_R0 (r := (.aload_n 0, 1, 0, 0, 0)) rfl rfl
theorem s142_100 {d : Nat} {ls : mj_L} {st : List Value} {M : mj_H} : mj_Rn d mj_m142 100 ls st M = mq_k0 d mj_m142 103 ls M (mq_gf 5 0 st M) := (mj_R3 (r := (.getfield 9, 3, 5, 0, 16596)) rfl rfl).trans (congrArg (mq_k0 d mj_m142 103 ls M) mq_gf_eq)
theorem s142_103 {d : Nat} {ls : mj_L} {st : List Value} {M : mj_H} : mj_Rn d mj_m142 103 ls st M = mq_k0 d mj_m142 104 ls M (mj_lda (mj_lk ls 0) st) := mj_R0 (r := (.aload_n 0, 1, 0, 0, 0)) rfl rfl
theorem s142_104 {d : Nat} {ls : mj_L} {st : List Value} {M : mj_H} : mj_Rn d mj_m142 104 ls st M = mq_k0 d mj_m142 107 ls M (mq_gf 5 1 st M) := (mj_R3 (r := (.getfield 15, 3, 5, 1, 16598)) rfl rfl).trans (congrArg (mq_k0 d mj_m142 107 ls M) mq_gf_eq)
theorem s142_107 {d : Nat} {ls : mj_L} {st : List Value} {M : mj_H} : mj_Rn d mj_m142 107 ls st M = mq_k0 d mj_m142 108 ls M (mj_lda (mj_lk ls 0) st) := mj_R0 (r := (.aload_n 0, 1, 0, 0, 0)) rfl rfl
theorem s142_108 {d : Nat} {ls : mj_L} {st : List Value} {M : mj_H} : mj_Rn d mj_m142 108 ls st M = mq_k0 d mj_m142 111 ls M (mq_gf 5 1 st M) := (mj_R3 (r := (.getfield 15, 3, 5, 1, 16598)) rfl rfl).trans (congrArg (mq_k0 d mj_m142 111 ls M) mq_gf_eq)
theorem s142_111 {d : Nat} {ls : mj_L} {st : List Value} {M : mj_H} : mj_Rn d mj_m142 111 ls st M = mj_Rn d mj_m142 112 ls (.int 0 :: st) M := mj_R0 (r := (.iconst 0, 1, 0, 0, 0)) rfl rfl
theorem s142_112 {d : Nat} {ls : mj_L} {st : List Value} {M : mj_H} : mj_Rn d mj_m142 112 ls st M = mj_Rn d mj_m142 113 ls (.int 3 :: st) M := mj_R0 (r := (.iconst 3, 1, 0, 0, 0)) rfl rfl
theorem s142_113 {d : Nat} {ls : mj_L} {st : List Value} {M : mj_H} : mj_Rn (d + 1) mj_m142 113 ls st M = mq_k5a (d + 1) mj_m142 116 ls M 87 (mq_cb 0 2 4 st M) := mj_R5e (r := (.invokevirtual 209, 3, 0, 87, 12485)) (z := mj_m87) rfl rfl (by decide) (by decide) rfl
theorem s142_116 {d : Nat} {ls : mj_L} {st : List Value} {M : mj_H} : mj_Rn (d + 1) mj_m142 116 ls st M = mq_k5a (d + 1) mj_m142 119 ls M 109 (mq_cb 0 1 4 st M) := mj_R5e (r := (.invokevirtual 177, 3, 0, 109, 16440)) (z := mj_m109) rfl rfl (by decide) (by decide) rfl
theorem s142_119 {d : Nat} {ls : mj_L} {st : List Value} {M : mj_H} : mj_Rn (d + 1) mj_m142 119 ls st M = mq_k5a (d + 1) mj_m142 122 ls M 145 (mq_cb 0 1 9 st M) := mj_R5e (r := (.invokevirtual 388, 3, 0, 145, 16609)) (z := mj_m145) rfl rfl (by decide) (by decide) rfl
theorem s142_122 {d : Nat} {ls : mj_L} {st : List Value} {M : mj_H} : mj_Rn (d + 1) mj_m142 122 ls st M = mq_k5a (d + 1) mj_m142 125 ls M 147 (mq_cb 0 2 9 st M) := mj_R5e (r := (.invokevirtual 391, 3, 0, 147, 16618)) (z := mj_m147) rfl rfl (by decide) (by decide) rfl
theorem s142_125 {d : Nat} {ls : mj_L} {st : List Value} {M : mj_H} : mj_Rn d mj_m142 125 ls st M = mq_k0 d mj_m142 126 ls M (mj_lda (mj_lk ls 0) st) := mj_R0 (r := (.aload_n 0, 1, 0, 0, 0)) rfl rfl
theorem s142_126 {d : Nat} {ls : mj_L} {st : List Value} {M : mj_H} : mj_Rn d mj_m142 126 ls st M = mq_k0 d mj_m142 129 ls M (mq_gf 5 0 st M) := (mj_R3 (r := (.getfield 9, 3, 5, 0, 16596)) rfl rfl).trans (congrArg (mq_k0 d mj_m142 129 ls M) mq_gf_eq)
theorem s142_129 {d : Nat} {ls : mj_L} {st : List Value} {M : mj_H} : mj_Rn (d + 1) mj_m142 129 ls st M = mq_k5a (d + 1) mj_m142 132 ls M 31 (mq_cb 0 0 9 st M) := mj_R5e (r := (.invokevirtual 142, 3, 0, 31, 16464)) (z := mj_m31) rfl rfl (by decide) (by decide) rfl
theorem s142_132 {d : Nat} {ls : mj_L} {st : List Value} {M : mj_H} : mj_Rn d mj_m142 132 ls st M = mq_k1 d mj_m142 133 M (mj_lo 5 (.istore 3) ls st) := (mj_R1 (r := (.istore_n 3, 1, 0, 0, 0)) rfl rfl).trans (congrArg (mq_k1 d mj_m142 133 M) (mq_sti (k := 3)))
theorem s142_133 {d : Nat} {ls : mj_L} {st : List Value} {M : mj_H} : mj_Rn d mj_m142 133 ls st M = mq_k0 d mj_m142 134 ls M (mj_ldi (mj_lk ls 1) st) := mj_R0 (r := (.iload_n 1, 1, 0, 0, 0)) rfl rfl
theorem s142_134 {d : Nat} {ls : mj_L} {st : List Value} {M : mj_H} : mj_Rn d mj_m142 134 ls st M = mj_Rn d mj_m142 135 ls (.int 3 :: st) M := mj_R0 (r := (.iconst 3, 1, 0, 0, 0)) rfl rfl
theorem s142_135 {d : Nat} {ls : mj_L} {st : List Value} {M : mj_H} : mj_Rn d mj_m142 135 ls st M = mq_k2 d mj_m142 ls M (mj_br (.if_icmp .ne 10) 135 st) := mj_R2 (r := (.if_icmp .ne 10, 3, 0, 0, 0)) rfl rfl
theorem s142_138 {d : Nat} {ls : mj_L} {st : List Value} {M : mj_H} : mj_Rn d mj_m142 138 ls st M = mq_k0 d mj_m142 139 ls M (mj_lda (mj_lk ls 0) st) := mj_R0 (r := (.aload_n 0, 1, 0, 0, 0)) rfl rfl
theorem s142_139 {d : Nat} {ls : mj_L} {st : List Value} {M : mj_H} : mj_Rn (d + 1) mj_m142 139 ls st M = mq_k5a (d + 1) mj_m142 142 ls M 148 (mq_cb 0 0 5 st M) := mj_R5e (r := (.invokevirtual 394, 3, 0, 148, 20480)) (z := mj_m148) rfl rfl (by decide) (by decide) rfl
theorem s142_142 {d : Nat} {ls : mj_L} {st : List Value} {M : mj_H} : mj_Rn d mj_m142 142 ls st M = mj_Rn d mj_m142 149 ls st M := mj_R2 (r := (.goto 7, 3, 0, 0, 0)) rfl rfl
theorem s142_145 {d : Nat} {ls : mj_L} {st : List Value} {M : mj_H} : mj_Rn d mj_m142 145 ls st M = mq_k0 d mj_m142 146 ls M (mj_lda (mj_lk ls 0) st) := mj_R0 (r := (.aload_n 0, 1, 0, 0, 0)) rfl rfl
theorem s142_146 {d : Nat} {ls : mj_L} {st : List Value} {M : mj_H} : mj_Rn (d + 1) mj_m142 146 ls st M = mq_k5a (d + 1) mj_m142 149 ls M 149 (mq_cb 0 0 5 st M) := mj_R5e (r := (.invokevirtual 397, 3, 0, 149, 20484)) (z := mj_m149) rfl rfl (by decide) (by decide) rfl
theorem s142_149 {d : Nat} {ls : mj_L} {st : List Value} {M : mj_H} : mj_Rn d mj_m142 149 ls st M = mq_k1 d mj_m142 151 M (mj_lo 5 (.istore 4) ls st) := mj_R1 (r := (.istore 4, 2, 0, 0, 0)) rfl rfl
theorem s142_151 {d : Nat} {ls : mj_L} {st : List Value} {M : mj_H} : mj_Rn d mj_m142 151 ls st M = mq_k0 d mj_m142 153 ls M (mj_ldi (mj_lk ls 4) st) := mj_R0 (r := (.iload 4, 2, 0, 0, 0)) rfl rfl
theorem s142_153 {d : Nat} {ls : mj_L} {st : List Value} {M : mj_H} : mj_Rn d mj_m142 153 ls st M = mq_k2 d mj_m142 ls M (mj_br (.ifCond .eq 6) 153 st) := mj_R2 (r := (.ifCond .eq 6, 3, 0, 0, 0)) rfl rfl
theorem s142_156 {d : Nat} {ls : mj_L} {st : List Value} {M : mj_H} : mj_Rn d mj_m142 156 ls st M = mq_k0 d mj_m142 158 ls M (mj_ldi (mj_lk ls 4) st) := mj_R0 (r := (.iload 4, 2, 0, 0, 0)) rfl rfl
theorem s142_158 {d : Nat} {ls : mj_L} {st : List Value} {M : mj_H} : mj_Rn d mj_m142 158 ls st M = mq_k6 M (mj_re (some .int) (.ireturn) st) := mj_R6 (r := (.ireturn, 1, 0, 0, 0)) rfl rfl
theorem s142_159 {d : Nat} {ls : mj_L} {st : List Value} {M : mj_H} : mj_Rn d mj_m142 159 ls st M = mq_k0 d mj_m142 160 ls M (mj_ldi (mj_lk ls 1) st) := mj_R0 (r := (.iload_n 1, 1, 0, 0, 0)) rfl rfl
theorem s142_160 {d : Nat} {ls : mj_L} {st : List Value} {M : mj_H} : mj_Rn d mj_m142 160 ls st M = mj_Rn d mj_m142 161 ls (.int 5 :: st) M := mj_R0 (r := (.iconst 5, 1, 0, 0, 0)) rfl rfl
theorem s142_161 {d : Nat} {ls : mj_L} {st : List Value} {M : mj_H} : mj_Rn d mj_m142 161 ls st M = mq_k2 d mj_m142 ls M (mj_br (.if_icmp .eq 24) 161 st) := mj_R2 (r := (.if_icmp .eq 24, 3, 0, 0, 0)) rfl rfl
theorem s142_164 {d : Nat} {ls : mj_L} {st : List Value} {M : mj_H} : mj_Rn d mj_m142 164 ls st M = mq_k0 d mj_m142 165 ls M (mj_lda (mj_lk ls 0) st) := mj_R0 (r := (.aload_n 0, 1, 0, 0, 0)) rfl rfl
theorem s142_165 {d : Nat} {ls : mj_L} {st : List Value} {M : mj_H} : mj_Rn d mj_m142 165 ls st M = mq_k0 d mj_m142 166 ls M (mj_ldi (mj_lk ls 3) st) := mj_R0 (r := (.iload_n 3, 1, 0, 0, 0)) rfl rfl
theorem s142_166 {d : Nat} {ls : mj_L} {st : List Value} {M : mj_H} : mj_Rn d mj_m142 166 ls st M = mq_k0 d mj_m142 167 ls M (mj_ldi (mj_lk ls 1) st) := mj_R0 (r := (.iload_n 1, 1, 0, 0, 0)) rfl rfl
theorem s142_167 {d : Nat} {ls : mj_L} {st : List Value} {M : mj_H} : mj_Rn d mj_m142 167 ls st M = mj_Rn d mj_m142 168 ls (.int 4 :: st) M := mj_R0 (r := (.iconst 4, 1, 0, 0, 0)) rfl rfl
theorem s142_168 {d : Nat} {ls : mj_L} {st : List Value} {M : mj_H} : mj_Rn d mj_m142 168 ls st M = mq_k2 d mj_m142 ls M (mj_br (.if_icmp .ne 7) 168 st) := mj_R2 (r := (.if_icmp .ne 7, 3, 0, 0, 0)) rfl rfl
theorem s142_171 {d : Nat} {ls : mj_L} {st : List Value} {M : mj_H} : mj_Rn d mj_m142 171 ls st M = mj_Rn d mj_m142 172 ls (.int 1 :: st) M := mj_R0 (r := (.iconst 1, 1, 0, 0, 0)) rfl rfl
theorem s142_172 {d : Nat} {ls : mj_L} {st : List Value} {M : mj_H} : mj_Rn d mj_m142 172 ls st M = mj_Rn d mj_m142 176 ls st M := mj_R2 (r := (.goto 4, 3, 0, 0, 0)) rfl rfl
theorem s142_175 {d : Nat} {ls : mj_L} {st : List Value} {M : mj_H} : mj_Rn d mj_m142 175 ls st M = mj_Rn d mj_m142 176 ls (.int 0 :: st) M := mj_R0 (r := (.iconst 0, 1, 0, 0, 0)) rfl rfl
theorem s142_176 {d : Nat} {ls : mj_L} {st : List Value} {M : mj_H} : mj_Rn (d + 1) mj_m142 176 ls st M = mq_k5a (d + 1) mj_m142 179 ls M 150 (mq_cb 0 2 5 st M) := mj_R5e (r := (.invokevirtual 400, 3, 0, 150, 20488)) (z := mj_m150) rfl rfl (by decide) (by decide) rfl
theorem s142_179 {d : Nat} {ls : mj_L} {st : List Value} {M : mj_H} : mj_Rn d mj_m142 179 ls st M = mq_k2 d mj_m142 ls M (mj_br (.ifCond .ne 6) 179 st) := mj_R2 (r := (.ifCond .ne 6, 3, 0, 0, 0)) rfl rfl
theorem s142_182 {d : Nat} {ls : mj_L} {st : List Value} {M : mj_H} : mj_Rn d mj_m142 182 ls st M = mj_Rn d mj_m142 184 ls (.int 51 :: st) M := mj_R0 (r := (.bipush 51, 2, 0, 0, 0)) rfl rfl
theorem s142_184 {d : Nat} {ls : mj_L} {st : List Value} {M : mj_H} : mj_Rn d mj_m142 184 ls st M = mq_k6 M (mj_re (some .int) (.ireturn) st) := mj_R6 (r := (.ireturn, 1, 0, 0, 0)) rfl rfl
theorem s142_185 {d : Nat} {ls : mj_L} {st : List Value} {M : mj_H} : mj_Rn d mj_m142 185 ls st M = mq_k0 d mj_m142 186 ls M (mj_ldi (mj_lk ls 1) st) := mj_R0 (r := (.iload_n 1, 1, 0, 0, 0)) rfl rfl
theorem s142_186 {d : Nat} {ls : mj_L} {st : List Value} {M : mj_H} : mj_Rn d mj_m142 186 ls st M = mj_Rn d mj_m142 187 ls (.int 3 :: st) M := mj_R0 (r := (.iconst 3, 1, 0, 0, 0)) rfl rfl
theorem s142_187 {d : Nat} {ls : mj_L} {st : List Value} {M : mj_H} : mj_Rn d mj_m142 187 ls st M = mq_k2 d mj_m142 ls M (mj_br (.if_icmp .eq 28) 187 st) := mj_R2 (r := (.if_icmp .eq 28, 3, 0, 0, 0)) rfl rfl
theorem s142_190 {d : Nat} {ls : mj_L} {st : List Value} {M : mj_H} : mj_Rn d mj_m142 190 ls st M = mq_k0 d mj_m142 191 ls M (mj_lda (mj_lk ls 0) st) := mj_R0 (r := (.aload_n 0, 1, 0, 0, 0)) rfl rfl
theorem s142_191 {d : Nat} {ls : mj_L} {st : List Value} {M : mj_H} : mj_Rn d mj_m142 191 ls st M = mq_k0 d mj_m142 192 ls M (mj_ldi (mj_lk ls 3) st) := mj_R0 (r := (.iload_n 3, 1, 0, 0, 0)) rfl rfl
theorem s142_192 {d : Nat} {ls : mj_L} {st : List Value} {M : mj_H} : mj_Rn (d + 1) mj_m142 192 ls st M = mq_k5a (d + 1) mj_m142 195 ls M 151 (mq_cb 0 1 5 st M) := mj_R5e (r := (.invokevirtual 404, 3, 0, 151, 20492)) (z := mj_m151) rfl rfl (by decide) (by decide) rfl
theorem s142_195 {d : Nat} {ls : mj_L} {st : List Value} {M : mj_H} : mj_Rn d mj_m142 195 ls st M = mq_k1 d mj_m142 197 M (mj_lo 5 (.istore 4) ls st) := mj_R1 (r := (.istore 4, 2, 0, 0, 0)) rfl rfl
theorem s142_197 {d : Nat} {ls : mj_L} {st : List Value} {M : mj_H} : mj_Rn d mj_m142 197 ls st M = mq_k0 d mj_m142 199 ls M (mj_ldi (mj_lk ls 4) st) := mj_R0 (r := (.iload 4, 2, 0, 0, 0)) rfl rfl
theorem s142_199 {d : Nat} {ls : mj_L} {st : List Value} {M : mj_H} : mj_Rn d mj_m142 199 ls st M = mq_k2 d mj_m142 ls M (mj_br (.ifCond .ne 13) 199 st) := mj_R2 (r := (.ifCond .ne 13, 3, 0, 0, 0)) rfl rfl
theorem s142_202 {d : Nat} {ls : mj_L} {st : List Value} {M : mj_H} : mj_Rn d mj_m142 202 ls st M = mq_k0 d mj_m142 203 ls M (mj_lda (mj_lk ls 0) st) := mj_R0 (r := (.aload_n 0, 1, 0, 0, 0)) rfl rfl
theorem s142_203 {d : Nat} {ls : mj_L} {st : List Value} {M : mj_H} : mj_Rn d mj_m142 203 ls st M = mq_k0 d mj_m142 206 ls M (mq_gf 5 2 st M) := (mj_R3 (r := (.getfield 22, 3, 5, 2, 16600)) rfl rfl).trans (congrArg (mq_k0 d mj_m142 206 ls M) mq_gf_eq)
theorem s142_206 {d : Nat} {ls : mj_L} {st : List Value} {M : mj_H} : mj_Rn d mj_m142 206 ls st M = mq_k0 d mj_m142 209 ls M (mq_gf 8 4 st M) := (mj_R3 (r := (.getfield 50, 3, 8, 4, 16495)) rfl rfl).trans (congrArg (mq_k0 d mj_m142 209 ls M) mq_gf_eq)
theorem s142_209 {d : Nat} {ls : mj_L} {st : List Value} {M : mj_H} : mj_Rn d mj_m142 209 ls st M = mq_k2 d mj_m142 ls M (mj_br (.ifCond .ne 6) 209 st) := mj_R2 (r := (.ifCond .ne 6, 3, 0, 0, 0)) rfl rfl
theorem s142_212 {d : Nat} {ls : mj_L} {st : List Value} {M : mj_H} : mj_Rn d mj_m142 212 ls st M = mq_k0 d mj_m142 214 ls M (mj_ldi (mj_lk ls 4) st) := mj_R0 (r := (.iload 4, 2, 0, 0, 0)) rfl rfl
theorem s142_214 {d : Nat} {ls : mj_L} {st : List Value} {M : mj_H} : mj_Rn d mj_m142 214 ls st M = mq_k6 M (mj_re (some .int) (.ireturn) st) := mj_R6 (r := (.ireturn, 1, 0, 0, 0)) rfl rfl
theorem s142_215 {d : Nat} {ls : mj_L} {st : List Value} {M : mj_H} : mj_Rn d mj_m142 215 ls st M = mq_k0 d mj_m142 216 ls M (mj_ldi (mj_lk ls 1) st) := mj_R0 (r := (.iload_n 1, 1, 0, 0, 0)) rfl rfl
theorem s142_216 {d : Nat} {ls : mj_L} {st : List Value} {M : mj_H} : mj_Rn d mj_m142 216 ls st M = mj_Rn d mj_m142 217 ls (.int 5 :: st) M := mj_R0 (r := (.iconst 5, 1, 0, 0, 0)) rfl rfl
theorem s142_217 {d : Nat} {ls : mj_L} {st : List Value} {M : mj_H} : mj_Rn d mj_m142 217 ls st M = mq_k2 d mj_m142 ls M (mj_br (.if_icmp .eq 9) 217 st) := mj_R2 (r := (.if_icmp .eq 9, 3, 0, 0, 0)) rfl rfl
theorem s142_220 {d : Nat} {ls : mj_L} {st : List Value} {M : mj_H} : mj_Rn d mj_m142 220 ls st M = mq_k0 d mj_m142 221 ls M (mj_lda (mj_lk ls 0) st) := mj_R0 (r := (.aload_n 0, 1, 0, 0, 0)) rfl rfl
theorem s142_221 {d : Nat} {ls : mj_L} {st : List Value} {M : mj_H} : mj_Rn d mj_m142 221 ls st M = mq_k0 d mj_m142 222 ls M (mj_ldi (mj_lk ls 3) st) := mj_R0 (r := (.iload_n 3, 1, 0, 0, 0)) rfl rfl
theorem s142_222 {d : Nat} {ls : mj_L} {st : List Value} {M : mj_H} : mj_Rn (d + 1) mj_m142 222 ls st M = mq_k5a (d + 1) mj_m142 225 ls M 152 (mq_cb 0 1 5 st M) := mj_R5e (r := (.invokevirtual 407, 3, 0, 152, 20496)) (z := mj_m152) rfl rfl (by decide) (by decide) rfl
theorem s142_225 {d : Nat} {ls : mj_L} {st : List Value} {M : mj_H} : mj_Rn d mj_m142 225 ls st M = mq_k6 M (mj_re (some .int) (.ireturn) st) := mj_R6 (r := (.ireturn, 1, 0, 0, 0)) rfl rfl
theorem s142_226 {d : Nat} {ls : mj_L} {st : List Value} {M : mj_H} : mj_Rn d mj_m142 226 ls st M = mq_k0 d mj_m142 227 ls M (mj_lda (mj_lk ls 0) st) := mj_R0 (r := (.aload_n 0, 1, 0, 0, 0)) rfl rfl
theorem s142_227 {d : Nat} {ls : mj_L} {st : List Value} {M : mj_H} : mj_Rn d mj_m142 227 ls st M = mq_k0 d mj_m142 230 ls M (mq_gf 5 0 st M) := (mj_R3 (r := (.getfield 9, 3, 5, 0, 16596)) rfl rfl).trans (congrArg (mq_k0 d mj_m142 230 ls M) mq_gf_eq)
theorem s142_230 {d : Nat} {ls : mj_L} {st : List Value} {M : mj_H} : mj_Rn d mj_m142 230 ls st M = mj_Rn d mj_m142 232 ls (.int 9 :: st) M := mj_R0 (r := (.bipush 9, 2, 0, 0, 0)) rfl rfl
theorem s142_232 {d : Nat} {ls : mj_L} {st : List Value} {M : mj_H} : mj_Rn (d + 1) mj_m142 232 ls st M = mq_k5a (d + 1) mj_m142 235 ls M 28 (mq_cb 0 1 9 st M) := mj_R5e (r := (.invokevirtual 145, 3, 0, 28, 16456)) (z := mj_m28) rfl rfl (by decide) (by decide) rfl
theorem s142_235 {d : Nat} {ls : mj_L} {st : List Value} {M : mj_H} : mj_Rn d mj_m142 235 ls st M = mq_k0 d mj_m142 236 ls M (mj_lda (mj_lk ls 0) st) := mj_R0 (r := (.aload_n 0, 1, 0, 0, 0)) rfl rfl
theorem s142_236 {d : Nat} {ls : mj_L} {st : List Value} {M : mj_H} : mj_Rn d mj_m142 236 ls st M = mq_k0 d mj_m142 239 ls M (mq_gf 5 0 st M) := (mj_R3 (r := (.getfield 9, 3, 5, 0, 16596)) rfl rfl).trans (congrArg (mq_k0 d mj_m142 239 ls M) mq_gf_eq)
theorem s142_239 {d : Nat} {ls : mj_L} {st : List Value} {M : mj_H} : mj_Rn d mj_m142 239 ls st M = mq_k0 d mj_m142 240 ls M (mj_ldi (mj_lk ls 3) st) := mj_R0 (r := (.iload_n 3, 1, 0, 0, 0)) rfl rfl
theorem s142_240 {d : Nat} {ls : mj_L} {st : List Value} {M : mj_H} : mj_Rn (d + 1) mj_m142 240 ls st M = mq_k5a (d + 1) mj_m142 243 ls M 29 (mq_cb 0 1 9 st M) := mj_R5e (r := (.invokevirtual 197, 3, 0, 29, 16500)) (z := mj_m29) rfl rfl (by decide) (by decide) rfl
theorem s142_243 {d : Nat} {ls : mj_L} {st : List Value} {M : mj_H} : mj_Rn d mj_m142 243 ls st M = mq_k0 d mj_m142 244 ls M (mj_lda (mj_lk ls 0) st) := mj_R0 (r := (.aload_n 0, 1, 0, 0, 0)) rfl rfl
theorem s142_244 {d : Nat} {ls : mj_L} {st : List Value} {M : mj_H} : mj_Rn d mj_m142 244 ls st M = mq_k0 d mj_m142 247 ls M (mq_gf 5 0 st M) := (mj_R3 (r := (.getfield 9, 3, 5, 0, 16596)) rfl rfl).trans (congrArg (mq_k0 d mj_m142 247 ls M) mq_gf_eq)
theorem s142_247 {d : Nat} {ls : mj_L} {st : List Value} {M : mj_H} : mj_Rn d mj_m142 247 ls st M = mq_k0 d mj_m142 248 ls M (mj_lda (mj_lk ls 0) st) := mj_R0 (r := (.aload_n 0, 1, 0, 0, 0)) rfl rfl
theorem s142_248 {d : Nat} {ls : mj_L} {st : List Value} {M : mj_H} : mj_Rn d mj_m142 248 ls st M = mq_k0 d mj_m142 251 ls M (mq_gf 5 9 st M) := (mj_R3 (r := (.getfield 71, 3, 5, 9, 16618)) rfl rfl).trans (congrArg (mq_k0 d mj_m142 251 ls M) mq_gf_eq)
theorem s142_251 {d : Nat} {ls : mj_L} {st : List Value} {M : mj_H} : mj_Rn (d + 1) mj_m142 251 ls st M = mq_k5a (d + 1) mj_m142 254 ls M 29 (mq_cb 0 1 9 st M) := mj_R5e (r := (.invokevirtual 197, 3, 0, 29, 16500)) (z := mj_m29) rfl rfl (by decide) (by decide) rfl
theorem s142_254 {d : Nat} {ls : mj_L} {st : List Value} {M : mj_H} : mj_Rn d mj_m142 254 ls st M = mq_k0 d mj_m142 255 ls M (mj_lda (mj_lk ls 0) st) := mj_R0 (r := (.aload_n 0, 1, 0, 0, 0)) rfl rfl
theorem s142_255 {d : Nat} {ls : mj_L} {st : List Value} {M : mj_H} : mj_Rn d mj_m142 255 ls st M = mj_Rn d mj_m142 256 ls (.int 2 :: st) M := mj_R0 (r := (.iconst 2, 1, 0, 0, 0)) rfl rfl
theorem s142_256 {d : Nat} {ls : mj_L} {st : List Value} {M : mj_H} : mj_Rn d mj_m142 256 ls st M = mq_k0 d mj_m142 257 ls M (mj_lda (mj_lk ls 0) st) := mj_R0 (r := (.aload_n 0, 1, 0, 0, 0)) rfl rfl
theorem s142_257 {d : Nat} {ls : mj_L} {st : List Value} {M : mj_H} : mj_Rn d mj_m142 257 ls st M = mq_k0 d mj_m142 260 ls M (mq_gf 5 0 st M) := (mj_R3 (r := (.getfield 9, 3, 5, 0, 16596)) rfl rfl).trans (congrArg (mq_k0 d mj_m142 260 ls M) mq_gf_eq)
theorem s142_260 {d : Nat} {ls : mj_L} {st : List Value} {M : mj_H} : mj_Rn (d + 1) mj_m142 260 ls st M = mq_k5a (d + 1) mj_m142 263 ls M 30 (mq_cb 0 0 9 st M) := mj_R5e (r := (.invokevirtual 283, 3, 0, 30, 16518)) (z := mj_m30) rfl rfl (by decide) (by decide) rfl
theorem s142_263 {d : Nat} {ls : mj_L} {st : List Value} {M : mj_H} : mj_Rn (d + 1) mj_m142 263 ls st M = mq_k5a (d + 1) mj_m142 266 ls M 146 (mq_cb 0 2 5 st M) := mj_R5e (r := (.invokevirtual 385, 3, 0, 146, 16614)) (z := mj_m146) rfl rfl (by decide) (by decide) rfl
theorem s142_266 {d : Nat} {ls : mj_L} {st : List Value} {M : mj_H} : mj_Rn d mj_m142 266 ls st M = mj_Rn d mj_m142 267 ls (.int 0 :: st) M := mj_R0 (r := (.iconst 0, 1, 0, 0, 0)) rfl rfl
theorem s142_267 {d : Nat} {ls : mj_L} {st : List Value} {M : mj_H} : mj_Rn d mj_m142 267 ls st M = mq_k6 M (mj_re (some .int) (.ireturn) st) := mj_R6 (r := (.ireturn, 1, 0, 0, 0)) rfl rfl
theorem c142 {d : Nat} {a0 : Nat} {M : mj_H} : mj_V (d + 1) 142 [.ref a0] M = mj_Rn d mj_m142 0 [(0, .ref a0)] [] M := mj_V_go rfl (Nat.le_of_ble_eq_true rfl)
def pn_sh (k : Ky) (T : Tm) (ms : List Int32) : Nat := tm_ix T.1 (tm_agr (nI k.1.2.2.2) (tm_sec T.1 (o4 ms (mem ms 3))))
def pn_tok (k : Ky) (T : Tm) (sh : Nat) : Int32 × Ky × Tm := (0, (((((k.1.1.1.1, k.1.1.1.2 ++ (161 :: nI 2 :: 68 :: b4 (nI (tm_no T [9, nI sh, nI k.2.1.1.1])))), (k.1.1.2.1, k.1.1.2.2)), ((k.1.2.1.1, k.1.2.1.2), (k.1.2.2.1, k.1.2.2.2))), (((k.2.1.1.1, k.2.1.1.2), (k.2.1.2.1, k.2.1.2.2)), ((k.2.2.1.1, k.2.2.1.2), k.2.2.2))) : Ky), tm_mk T [9, nI sh, nI k.2.1.1.1])
def pn_then (ms : List Int32) (step sh : Nat) (q : Int32 × Ky × Tm) : Int32 × Ky × Tm :=
  if q.1 ≠ 0 ∨ q.2.1.1.1.1.1.2.1 = false then q
  else if step = 4 then ky_newPin ms q.2.1 q.2.2 (nI sh) else pn_tok q.2.1 q.2.2 sh
def pn_late (ms : List Int32) (step : Nat) (k : Ky) (T : Tm) (sh : Nat) : Int32 × Ky × Tm :=
  if (if step = 3 then pn_set k else pn_try k) ≠ 0 then (if step = 3 then pn_set k else pn_try k, k, T)
  else if step ≠ 5 ∧ kn_as T (pn_mac (nI sh) ms (decide (step = 4))) (o4 ms (mem ms 4)) = false then (51, k, T)
  else if step = 3 then ky_newPin ms k T (nI sh) else pn_then ms step sh (ky_tryPin ms k T (nI sh))
def ky_doPin (ms : List Int32) (k : Ky) (T : Tm) : Int32 × Ky × Tm :=
  if pnFault T ms (oVn ms (mem ms 2)) ≠ 0 then (pnFault T ms (oVn ms (mem ms 2)), k, T)
  else if oVn ms (mem ms 2) = 1 then (0, (((((k.1.1.1.1, k.1.1.1.2 ++ (161 :: 3 :: bt_hd 0 k.1.1.1.1.2.2.2.2.2.2.2.2.2.1)), (k.1.1.2.1, k.1.1.2.2)), ((k.1.2.1.1, k.1.2.1.2), (k.1.2.2.1, k.1.2.2.2))), (((k.2.1.1.1, k.2.1.1.2), (k.2.1.2.1, k.2.1.2.2)), ((k.2.2.1.1, k.2.2.1.2), k.2.2.2))) : Ky), T)
  else if oVn ms (mem ms 2) = 2 then (0, (((((k.1.1.1.1, k.1.1.1.2 ++ (161 :: nI 1 :: 68 :: b4 (nI (tm_no T [2, nI k.1.2.2.2])))), (k.1.1.2.1, k.1.1.2.2)), ((k.1.2.1.1, k.1.2.1.2), (k.1.2.2.1, k.1.2.2.2))), (((k.2.1.1.1, k.2.1.1.2), (k.2.1.2.1, k.2.1.2.2)), ((k.2.2.1.1, k.2.2.1.2), k.2.2.2))) : Ky), tm_mk T [2, nI k.1.2.2.2])
  else pn_late ms (oVn ms (mem ms 2)) k T (pn_sh k T ms)
theorem pnFault_ok {T : Tm} {ms : List Int32} {step : Nat} (h : pnFault T ms step = 0) : 1 ≤ step ∧ step ≤ 5 ∧ (3 ≤ step → (∀ i, 3 ≤ i → i ≤ 6 → wantd i step = true → ∃ p, mem ms i = some p ∧ cbS ms p = 2)) := by
  unfold pnFault at h
  split at h
  · cases h
  · next hf =>
    split at h
    · cases h
    · split at h
      · cases h
      · next hs =>
        simp only [not_or] at hs
        refine ⟨by omega, by omega, fun h3 => ?_⟩
        rw [if_neg (by omega)] at h
        split at h
        · cases h
        · next hm =>
          intro i hi3 hi6 hwt
          simp only [pnFit, Bool.and_eq_true, Bool.not_eq_false] at hf
          obtain ⟨-, -, f3, f4, f5, f6⟩ := hf
          have hfi : oFit ms 2 (mem ms i) = true := by
            rcases (show i = 3 ∨ i = 4 ∨ i = 5 ∨ i = 6 by omega) with rfl | rfl | rfl | rfl <;> assumption
          cases hc : mem ms i with
          | none => exact absurd ⟨i, hi3, hi6, hwt, hc⟩ hm
          | some p =>
            rw [hc] at hfi
            exact ⟨p, rfl, by simpa [oFit] using hfi⟩
theorem tm_sh_le (k : Ky) (T : Tm) (ms : List Int32) : pn_sh k T ms ≤ T.1.length := tm_ix_le _ _
section KZ
variable {A : Nat → Prop} {κ : Nat} {M M' : mj_H} {k : Ky} {T T' : Tm} {row row' : List Int32} {d : Nat} {ms : List Int32} {n : Nat} {S V H E N : List Int32} {i : Int32} {o : Option Nat}
theorem tx.wd {t : Int32} (h : tx A M T row) : (tm_row T.1 t).length ≤ 410 := by
  obtain ⟨⟨p, e, o, ht, -⟩, -⟩ := h
  unfold tm_row
  split
  · simp
  · by_cases hl : t.toNatClampNeg - 1 < T.1.length
    · rw [List.getD_eq_getElem?_getD, List.getElem?_eq_getElem hl]
      exact (ht.tbl.wide _ (List.getElem_mem hl)).2
    · rw [List.getD_eq_getElem?_getD, List.getElem?_eq_none (by omega)]; simp
theorem ky_new {sh : Nat} (z : kz A κ M k T row) (hI : iT M ms n S V H E N) (hw : fw k.1.1.1.1) (hon : k.1.1.1.1.2.1 = true) (hf : T.1.length < 1000) (hsh : sh ≤ 1000) : ∃ M' row', mj_V (d + 6) 152 [.ref κ, .int (nI sh)] M = some (some (.int (ky_newPin ms k T (nI sh)).1), M') ∧ kz A κ M' (ky_newPin ms k T (nI sh)).2.1 (ky_newPin ms k T (nI sh)).2.2 row' ∧ fx (kS A κ) M M' := by
  obtain ⟨u0, x0⟩ := z.fa
  have ho := hI.u.ob
  obtain ⟨y5, v5, a5⟩ := q_mem (d := d + 3) (num := 5) (by decide) hI
  have w5 := q_four (d := d + 2) hI a5
  have vw := tx_width (d := d + 4) z.t (o4 ms (mem ms 5))
  have v0 := tx_part (d := d + 3) z.t (o4 ms (mem ms 5)) 0
  have v1 := tx_part (d := d + 3) z.t (o4 ms (mem ms 5)) 1
  have hwd := tx.wd (t := o4 ms (mem ms 5)) z.t
  rw [show nI 5 = 5 from rfl] at v5
  unfold ky_newPin
  generalize hrw : tm_row T.1 (o4 ms (mem ms 5)) = rw5 at *
  by_cases hq : nI sh ≠ 0 ∧ bt_at rw5 0 = 4 ∧ bt_at rw5 1 = nI sh
  · obtain ⟨q1, q2, q3⟩ := hq
    have q1' : sh ≠ 0 := fun e => q1 (by rw [e, nI_0])
    have hl2 : 2 ≤ rw5.length := by
      false_or_by_contra
      rename_i hc
      rw [show (1 : Int32) = nI 1 from rfl, bt_at_nI (by decide), List.getD_eq_getElem?_getD, List.getElem?_eq_none (by omega)] at q3
      have := congrArg Int32.toInt q3
      rw [nI_toInt (by omega)] at this
      simp at this
    by_cases hl : 6 ≤ rw5.length ∧ rw5.length ≤ 14
    · rw [if_pos ⟨q1, q2, q3, hl⟩]
      obtain ⟨M1, p1, z1, f1⟩ := kz_begin (d := d + 3) z 7
      obtain ⟨u1, x1⟩ := z1.fa
      obtain ⟨M2, p2, z2, f2⟩ := kz_addParts (d := d + 2) (t := o4 ms (mem ms 5)) (q := 2) z1 (by rw [hrw]; omega) (by rw [hrw]; simp; omega)
      obtain ⟨u2, x2⟩ := z2.fa
      obtain ⟨M3, p3, z3, f3⟩ := kz_made (d := d + 1) z2 (by simp) hf
      obtain ⟨u3, x3⟩ := z3.fa
      have e : [7] ++ (tm_row T.1 (o4 ms (mem ms 5))).drop 2 = pn_new ms T := by simp [pn_new]
      rw [e] at z3 p3
      obtain ⟨M4, p4, z4, f4⟩ := ky_wr0 (d := d) (kk := 2) (a := nI (tm_no T (pn_new ms T))) (b := 0) z3 hw hon (Or.inl rfl)
      refine ⟨M4, _, ?_, z4, ((((f1).trs f2).trs f3).trs f4)⟩
      rw [show nI 2 = 2 from rfl] at p2
      simp (disch := (first | omega | decide)) [c152, s152_0, s152_1, s152_4, s152_5, s152_8, s152_9, s152_10, s152_13, s152_16, s152_17, s152_18, s152_21, s152_22, s152_25, s152_26, s152_27, s152_28, s152_29, s152_32, s152_33, s152_36, s152_37, s152_38, s152_41, s152_42, s152_45, s152_46, s152_49, s152_50, s152_51, s152_54, s152_55, s152_58, s152_59, s152_62, s152_63, s152_65, s152_67, s152_70, s152_71, s152_72, s152_75, s152_76, s152_78, s152_81, s152_83, s152_84, s152_85, s152_88, s152_90, s152_93, s152_94, s152_97, s152_98, s152_99, s152_102, s152_103, s152_106, s152_107, s152_108, s152_111, s152_114, s152_115, s152_116, s152_119, s152_120, s152_121, mq_k0s, mq_k1s, mq_k2s, mq_k4s, mq_k5s, mq_k5n, mq_k5as, mq_k6s, mj_pu, mj_lo, mj_br, mj_hr, mj_hw, mq_gf, mq_len, mq_al, mq_pf, mq_ok, mj_re, mq_lkm, mq_lkn, mj_ldi, mj_ldl, mj_lda, mj_ii, mj_ll, mj_li, mj_i1, ms_1, ms_2, f1_n, f1_i, f1_r, f1_u, f1_l, f2_n, f2_i, f2_r, f2_u, f2_l, mj_tg, mj_c1, mj_c2, mj_ar, mj_aw, mq_cb, mq_oi, mj_rm, Value.category, -getElem?_pos, List.getElem?_cons_zero, decide_eq_true, decide_eq_false, nl_lt, nl_le, ln_lt, ln_le, nl_eq, ln_eq, nl_add, ln_add, nl_sub, ln_mul, nI_sub, nI_mul, nI_add, nI_lt_iff, nI_le_iff, nI_inj, nI_num, mq_ix, nI_1, nl_mul, nl_div, x0, ho, v5, w5, vw, v0, v1, q1, q1', q2, q3, hl, p1, x1, p2, x2, p3, x3, p4, narrow]
    · rw [if_neg (fun z => hl z.2.2.2)]
      refine ⟨M, row, ?_, z, fx.rf⟩
      by_cases hl6 : 6 ≤ rw5.length
      · simp (disch := (first | omega | decide)) [c152, s152_0, s152_1, s152_4, s152_5, s152_8, s152_9, s152_10, s152_13, s152_16, s152_17, s152_18, s152_21, s152_22, s152_25, s152_26, s152_27, s152_28, s152_29, s152_32, s152_33, s152_36, s152_37, s152_38, s152_41, s152_42, s152_45, s152_46, s152_49, s152_50, s152_51, s152_54, s152_55, s152_58, s152_59, s152_62, s152_63, s152_65, s152_67, s152_70, s152_71, s152_72, s152_75, s152_76, s152_78, s152_81, s152_83, s152_84, s152_85, s152_88, s152_90, s152_93, s152_94, s152_97, s152_98, s152_99, s152_102, s152_103, s152_106, s152_107, s152_108, s152_111, s152_114, s152_115, s152_116, s152_119, s152_120, s152_121, mq_k0s, mq_k1s, mq_k2s, mq_k4s, mq_k5s, mq_k5n, mq_k5as, mq_k6s, mj_pu, mj_lo, mj_br, mj_hr, mj_hw, mq_gf, mq_len, mq_al, mq_pf, mq_ok, mj_re, mq_lkm, mq_lkn, mj_ldi, mj_ldl, mj_lda, mj_ii, mj_ll, mj_li, mj_i1, ms_1, ms_2, f1_n, f1_i, f1_r, f1_u, f1_l, f2_n, f2_i, f2_r, f2_u, f2_l, mj_tg, mj_c1, mj_c2, mj_ar, mj_aw, mq_cb, mq_oi, mj_rm, Value.category, -getElem?_pos, List.getElem?_cons_zero, decide_eq_true, decide_eq_false, nl_lt, nl_le, ln_lt, ln_le, nl_eq, ln_eq, nl_add, ln_add, nl_sub, ln_mul, nI_sub, nI_mul, nI_add, nI_lt_iff, nI_le_iff, nI_inj, nI_num, mq_ix, nI_1, nl_mul, nl_div, x0, ho, v5, w5, vw, v0, v1, q1, q1', q2, q3, hl6, narrow]
      · simp (disch := (first | omega | decide)) [c152, s152_0, s152_1, s152_4, s152_5, s152_8, s152_9, s152_10, s152_13, s152_16, s152_17, s152_18, s152_21, s152_22, s152_25, s152_26, s152_27, s152_28, s152_29, s152_32, s152_33, s152_36, s152_37, s152_38, s152_41, s152_42, s152_45, s152_46, s152_49, s152_50, s152_51, s152_54, s152_55, s152_58, s152_59, s152_62, s152_63, s152_65, s152_67, s152_70, s152_71, s152_72, s152_75, s152_76, s152_78, s152_81, s152_83, s152_84, s152_85, s152_88, s152_90, s152_93, s152_94, s152_97, s152_98, s152_99, s152_102, s152_103, s152_106, s152_107, s152_108, s152_111, s152_114, s152_115, s152_116, s152_119, s152_120, s152_121, mq_k0s, mq_k1s, mq_k2s, mq_k4s, mq_k5s, mq_k5n, mq_k5as, mq_k6s, mj_pu, mj_lo, mj_br, mj_hr, mj_hw, mq_gf, mq_len, mq_al, mq_pf, mq_ok, mj_re, mq_lkm, mq_lkn, mj_ldi, mj_ldl, mj_lda, mj_ii, mj_ll, mj_li, mj_i1, ms_1, ms_2, f1_n, f1_i, f1_r, f1_u, f1_l, f2_n, f2_i, f2_r, f2_u, f2_l, mj_tg, mj_c1, mj_c2, mj_ar, mj_aw, mq_cb, mq_oi, mj_rm, Value.category, -getElem?_pos, List.getElem?_cons_zero, decide_eq_true, decide_eq_false, nl_lt, nl_le, ln_lt, ln_le, nl_eq, ln_eq, nl_add, ln_add, nl_sub, ln_mul, nI_sub, nI_mul, nI_add, nI_lt_iff, nI_le_iff, nI_inj, nI_num, mq_ix, nI_1, nl_mul, nl_div, x0, ho, v5, w5, vw, v0, v1, q1, q1', q2, q3, hl6, narrow]
  · rw [if_neg (fun z => hq ⟨z.1, z.2.1, z.2.2.1⟩)]
    refine ⟨M, row, ?_, z, fx.rf⟩
    by_cases q1 : sh = 0
    · subst q1
      rw [nI_0]
      simp (disch := (first | omega | decide)) [c152, s152_0, s152_1, s152_4, s152_5, s152_8, s152_9, s152_10, s152_13, s152_16, s152_17, s152_18, s152_21, s152_22, s152_25, s152_26, s152_27, s152_28, s152_29, s152_32, s152_33, s152_36, s152_37, s152_38, s152_41, s152_42, s152_45, s152_46, s152_49, s152_50, s152_51, s152_54, s152_55, s152_58, s152_59, s152_62, s152_63, s152_65, s152_67, s152_70, s152_71, s152_72, s152_75, s152_76, s152_78, s152_81, s152_83, s152_84, s152_85, s152_88, s152_90, s152_93, s152_94, s152_97, s152_98, s152_99, s152_102, s152_103, s152_106, s152_107, s152_108, s152_111, s152_114, s152_115, s152_116, s152_119, s152_120, s152_121, mq_k0s, mq_k1s, mq_k2s, mq_k4s, mq_k5s, mq_k5n, mq_k5as, mq_k6s, mj_pu, mj_lo, mj_br, mj_hr, mj_hw, mq_gf, mq_len, mq_al, mq_pf, mq_ok, mj_re, mq_lkm, mq_lkn, mj_ldi, mj_ldl, mj_lda, mj_ii, mj_ll, mj_li, mj_i1, ms_1, ms_2, f1_n, f1_i, f1_r, f1_u, f1_l, f2_n, f2_i, f2_r, f2_u, f2_l, mj_tg, mj_c1, mj_c2, mj_ar, mj_aw, mq_cb, mq_oi, mj_rm, Value.category, -getElem?_pos, List.getElem?_cons_zero, decide_eq_true, decide_eq_false, nl_lt, nl_le, ln_lt, ln_le, nl_eq, ln_eq, nl_add, ln_add, nl_sub, ln_mul, nI_sub, nI_mul, nI_add, nI_lt_iff, nI_le_iff, nI_inj, nI_num, mq_ix, nI_1, nl_mul, nl_div, x0, ho, v5, w5, vw, narrow]
    · by_cases q2 : bt_at rw5 0 = 4
      · have q3 : ¬ bt_at rw5 1 = nI sh := fun q3 => hq ⟨fun e => q1 (by have := (nl_eq (a := sh) (n := 0) (by omega) rfl).mp e; exact this), q2, q3⟩
        simp (disch := (first | omega | decide)) [c152, s152_0, s152_1, s152_4, s152_5, s152_8, s152_9, s152_10, s152_13, s152_16, s152_17, s152_18, s152_21, s152_22, s152_25, s152_26, s152_27, s152_28, s152_29, s152_32, s152_33, s152_36, s152_37, s152_38, s152_41, s152_42, s152_45, s152_46, s152_49, s152_50, s152_51, s152_54, s152_55, s152_58, s152_59, s152_62, s152_63, s152_65, s152_67, s152_70, s152_71, s152_72, s152_75, s152_76, s152_78, s152_81, s152_83, s152_84, s152_85, s152_88, s152_90, s152_93, s152_94, s152_97, s152_98, s152_99, s152_102, s152_103, s152_106, s152_107, s152_108, s152_111, s152_114, s152_115, s152_116, s152_119, s152_120, s152_121, mq_k0s, mq_k1s, mq_k2s, mq_k4s, mq_k5s, mq_k5n, mq_k5as, mq_k6s, mj_pu, mj_lo, mj_br, mj_hr, mj_hw, mq_gf, mq_len, mq_al, mq_pf, mq_ok, mj_re, mq_lkm, mq_lkn, mj_ldi, mj_ldl, mj_lda, mj_ii, mj_ll, mj_li, mj_i1, ms_1, ms_2, f1_n, f1_i, f1_r, f1_u, f1_l, f2_n, f2_i, f2_r, f2_u, f2_l, mj_tg, mj_c1, mj_c2, mj_ar, mj_aw, mq_cb, mq_oi, mj_rm, Value.category, -getElem?_pos, List.getElem?_cons_zero, decide_eq_true, decide_eq_false, nl_lt, nl_le, ln_lt, ln_le, nl_eq, ln_eq, nl_add, ln_add, nl_sub, ln_mul, nI_sub, nI_mul, nI_add, nI_lt_iff, nI_le_iff, nI_inj, nI_num, mq_ix, nI_1, nl_mul, nl_div, x0, ho, v5, w5, vw, v0, v1, q1, q2, q3, narrow]
      · simp (disch := (first | omega | decide)) [c152, s152_0, s152_1, s152_4, s152_5, s152_8, s152_9, s152_10, s152_13, s152_16, s152_17, s152_18, s152_21, s152_22, s152_25, s152_26, s152_27, s152_28, s152_29, s152_32, s152_33, s152_36, s152_37, s152_38, s152_41, s152_42, s152_45, s152_46, s152_49, s152_50, s152_51, s152_54, s152_55, s152_58, s152_59, s152_62, s152_63, s152_65, s152_67, s152_70, s152_71, s152_72, s152_75, s152_76, s152_78, s152_81, s152_83, s152_84, s152_85, s152_88, s152_90, s152_93, s152_94, s152_97, s152_98, s152_99, s152_102, s152_103, s152_106, s152_107, s152_108, s152_111, s152_114, s152_115, s152_116, s152_119, s152_120, s152_121, mq_k0s, mq_k1s, mq_k2s, mq_k4s, mq_k5s, mq_k5n, mq_k5as, mq_k6s, mj_pu, mj_lo, mj_br, mj_hr, mj_hw, mq_gf, mq_len, mq_al, mq_pf, mq_ok, mj_re, mq_lkm, mq_lkn, mj_ldi, mj_ldl, mj_lda, mj_ii, mj_ll, mj_li, mj_i1, ms_1, ms_2, f1_n, f1_i, f1_r, f1_u, f1_l, f2_n, f2_i, f2_r, f2_u, f2_l, mj_tg, mj_c1, mj_c2, mj_ar, mj_aw, mq_cb, mq_oi, mj_rm, Value.category, -getElem?_pos, List.getElem?_cons_zero, decide_eq_true, decide_eq_false, nl_lt, nl_le, ln_lt, ln_le, nl_eq, ln_eq, nl_add, ln_add, nl_sub, ln_mul, nI_sub, nI_mul, nI_add, nI_lt_iff, nI_le_iff, nI_inj, nI_num, mq_ix, nI_1, nl_mul, nl_div, x0, ho, v5, w5, vw, v0, q1, q2, narrow]
theorem try_fw {sh : Int32} (hw : fw k.1.1.1.1) (hg : k.1.1.1.1.2.2.2.2.2.1 + 2 < 2 ^ 29) : fw (ky_tryPin ms k T sh).2.1.1.1.1.1 ∧ (ky_tryPin ms k T sh).2.2.1 = T.1 ∧ (ky_tryPin ms k T sh).2.1.1.1.1.2 = k.1.1.1.2 := by
  have h1 := fw_rcn (a := k.1.1.1.1.2.2.2.2.2.2.2.2.2.1 - 1) (b := 0) hw (by omega) (Or.inr (Or.inl rfl) : (3 : Int32) = 2 ∨ _)
  have h2 := (fs_wr_all (rcn 3 (k.1.1.1.1.2.2.2.2.2.2.2.2.2.1 - 1) 0) k.1.1.1.1 (rcn_rec (Or.inr (Or.inl rfl))).2 hw).2.2.2.1
  have h2' : (pn_k1 k).1.1.1.1.2.2.2.2.2.1 ≤ k.1.1.1.1.2.2.2.2.2.1 + 1 := h2
  unfold ky_tryPin
  split
  · exact ⟨h1, rfl, rfl⟩
  · split
    · exact ⟨fw_rcn (a := 8) (b := 0) h1 (by omega) (Or.inr (Or.inl rfl) : (3 : Int32) = 2 ∨ _), rfl, rfl⟩
    · exact ⟨h1, rfl, rfl⟩
theorem on1_ne (b : Bool) : (on1 b = 0) ↔ b = false := by cases b <;> simp [on1]
/-- from the fault of the PIN on -/
theorem pn_fin {step sh : Nat} {l2 : Int32} (z : kz A κ M k T row) (hI : iT M ms n S V H E N) (hw : fw k.1.1.1.1) (hg : k.1.1.1.1.2.2.2.2.2.1 + 3 < 2 ^ 29) (hon : k.1.1.1.1.2.1 = true) (hwr : k.2.1.1.2 ≤ 3) (hf : T.1.length + 2 < 1000) (hr : k.1.1.1.2.length ≤ 1) (hok : pnFault T ms step = 0) (h3 : 3 ≤ step) (hsh : sh ≤ 1000) :
    ∃ M' row', mj_Rn (d + 10) mj_m142 133 [(3, .int (nI sh)), (2, .int l2), (1, .int (nI step)), (0, .ref κ)] [] M = some (some (.int (pn_late ms step k T sh).1), M') ∧ kz A κ M' (pn_late ms step k T sh).2.1 (pn_late ms step k T sh).2.2 row' ∧ fx (kS A κ) M M' := by
  obtain ⟨u0, x0⟩ := z.fa
  obtain ⟨-, h5, hall⟩ := pnFault_ok hok
  have hall := hall h3
  have vs := ky_setf (d := d + 9) z
  have vt := ky_tryf (d := d + 9) z hwr
  unfold pn_late
  by_cases hs3 : step = 3
  · subst hs3
    simp only [if_true]
    by_cases c1 : pn_set k = 0; rotate_left
    · rw [if_pos c1]
      refine ⟨M, row, ?_, z, fx.rf⟩
      simp (disch := (first | omega | decide)) [s142_0, s142_1, s142_4, s142_5, s142_8, s142_9, s142_10, s142_13, s142_16, s142_17, s142_18, s142_19, s142_22, s142_23, s142_24, s142_27, s142_28, s142_29, s142_30, s142_31, s142_34, s142_35, s142_38, s142_39, s142_40, s142_43, s142_44, s142_47, s142_48, s142_51, s142_52, s142_55, s142_56, s142_57, s142_60, s142_63, s142_66, s142_67, s142_68, s142_69, s142_70, s142_73, s142_74, s142_75, s142_76, s142_79, s142_80, s142_83, s142_86, s142_89, s142_90, s142_91, s142_92, s142_95, s142_96, s142_99, s142_100, s142_103, s142_104, s142_107, s142_108, s142_111, s142_112, s142_113, s142_116, s142_119, s142_122, s142_125, s142_126, s142_129, s142_132, s142_133, s142_134, s142_135, s142_138, s142_139, s142_142, s142_145, s142_146, s142_149, s142_151, s142_153, s142_156, s142_158, s142_159, s142_160, s142_161, s142_164, s142_165, s142_166, s142_167, s142_168, s142_171, s142_172, s142_175, s142_176, s142_179, s142_182, s142_184, s142_185, s142_186, s142_187, s142_190, s142_191, s142_192, s142_195, s142_197, s142_199, s142_202, s142_203, s142_206, s142_209, s142_212, s142_214, s142_215, s142_216, s142_217, s142_220, s142_221, s142_222, s142_225, s142_226, s142_227, s142_230, s142_232, s142_235, s142_236, s142_239, s142_240, s142_243, s142_244, s142_247, s142_248, s142_251, s142_254, s142_255, s142_256, s142_257, s142_260, s142_263, s142_266, s142_267, mq_k0s, mq_k1s, mq_k2s, mq_k4s, mq_k5s, mq_k5n, mq_k5as, mq_k6s, mj_pu, mj_lo, mj_br, mj_hr, mj_hw, mq_gf, mq_len, mq_al, mq_pf, mq_ok, mj_re, mq_lkm, mq_lkn, mj_ldi, mj_ldl, mj_lda, mj_ii, mj_ll, mj_li, mj_i1, ms_1, ms_2, f1_n, f1_i, f1_r, f1_u, f1_l, f2_n, f2_i, f2_r, f2_u, f2_l, mj_tg, mj_c1, mj_c2, mj_ar, mj_aw, mq_cb, mq_oi, mj_rm, Value.category, -getElem?_pos, List.getElem?_cons_zero, decide_eq_true, decide_eq_false, nl_lt, nl_le, ln_lt, ln_le, nl_eq, ln_eq, nl_add, ln_add, nl_sub, ln_mul, nI_sub, nI_mul, nI_add, nI_lt_iff, nI_le_iff, nI_inj, nI_num, mq_ix, nI_1, nl_mul, nl_div, x0, vs, c1, narrow]
    rw [if_neg (by simp [c1])]
    rw [c1] at vs
    obtain ⟨p5, h5', hs5⟩ := hall 5 (by omega) (by omega) (by decide)
    obtain ⟨M1, row1, p1, z1, f1⟩ := ky_prov (d := d + 4) (shared := nI sh) (six := false) z hI h5' hs5 (by intro h; cases h)
    rw [show decide ((3 : Nat) = 4) = false from rfl]
    have hI1 := z.it f1 hI
    obtain ⟨u1, x1⟩ := z1.fa
    rw [on1_f] at p1
    cases c2 : kn_as T (pn_mac (nI sh) ms false) (o4 ms (mem ms 4)) with
    | false =>
      rw [if_pos ⟨by decide, rfl⟩]
      rw [c2, on1_f] at p1
      refine ⟨M1, row1, ?_, z1, f1⟩
      simp (disch := (first | omega | decide)) [s142_0, s142_1, s142_4, s142_5, s142_8, s142_9, s142_10, s142_13, s142_16, s142_17, s142_18, s142_19, s142_22, s142_23, s142_24, s142_27, s142_28, s142_29, s142_30, s142_31, s142_34, s142_35, s142_38, s142_39, s142_40, s142_43, s142_44, s142_47, s142_48, s142_51, s142_52, s142_55, s142_56, s142_57, s142_60, s142_63, s142_66, s142_67, s142_68, s142_69, s142_70, s142_73, s142_74, s142_75, s142_76, s142_79, s142_80, s142_83, s142_86, s142_89, s142_90, s142_91, s142_92, s142_95, s142_96, s142_99, s142_100, s142_103, s142_104, s142_107, s142_108, s142_111, s142_112, s142_113, s142_116, s142_119, s142_122, s142_125, s142_126, s142_129, s142_132, s142_133, s142_134, s142_135, s142_138, s142_139, s142_142, s142_145, s142_146, s142_149, s142_151, s142_153, s142_156, s142_158, s142_159, s142_160, s142_161, s142_164, s142_165, s142_166, s142_167, s142_168, s142_171, s142_172, s142_175, s142_176, s142_179, s142_182, s142_184, s142_185, s142_186, s142_187, s142_190, s142_191, s142_192, s142_195, s142_197, s142_199, s142_202, s142_203, s142_206, s142_209, s142_212, s142_214, s142_215, s142_216, s142_217, s142_220, s142_221, s142_222, s142_225, s142_226, s142_227, s142_230, s142_232, s142_235, s142_236, s142_239, s142_240, s142_243, s142_244, s142_247, s142_248, s142_251, s142_254, s142_255, s142_256, s142_257, s142_260, s142_263, s142_266, s142_267, mq_k0s, mq_k1s, mq_k2s, mq_k4s, mq_k5s, mq_k5n, mq_k5as, mq_k6s, mj_pu, mj_lo, mj_br, mj_hr, mj_hw, mq_gf, mq_len, mq_al, mq_pf, mq_ok, mj_re, mq_lkm, mq_lkn, mj_ldi, mj_ldl, mj_lda, mj_ii, mj_ll, mj_li, mj_i1, ms_1, ms_2, f1_n, f1_i, f1_r, f1_u, f1_l, f2_n, f2_i, f2_r, f2_u, f2_l, mj_tg, mj_c1, mj_c2, mj_ar, mj_aw, mq_cb, mq_oi, mj_rm, Value.category, -getElem?_pos, List.getElem?_cons_zero, decide_eq_true, decide_eq_false, nl_lt, nl_le, ln_lt, ln_le, nl_eq, ln_eq, nl_add, ln_add, nl_sub, ln_mul, nI_sub, nI_mul, nI_add, nI_lt_iff, nI_le_iff, nI_inj, nI_num, mq_ix, nI_1, nl_mul, nl_div, x0, vs, p1, narrow]
    | true =>
      rw [if_neg (by simp)]
      rw [c2, on1_t] at p1
      obtain ⟨M2, row2, p2, z2, f2⟩ := ky_new (d := d + 4) z1 hI1 hw hon (by omega) hsh
      refine ⟨M2, row2, ?_, z2, f1.trs f2⟩
      simp (disch := (first | omega | decide)) [s142_0, s142_1, s142_4, s142_5, s142_8, s142_9, s142_10, s142_13, s142_16, s142_17, s142_18, s142_19, s142_22, s142_23, s142_24, s142_27, s142_28, s142_29, s142_30, s142_31, s142_34, s142_35, s142_38, s142_39, s142_40, s142_43, s142_44, s142_47, s142_48, s142_51, s142_52, s142_55, s142_56, s142_57, s142_60, s142_63, s142_66, s142_67, s142_68, s142_69, s142_70, s142_73, s142_74, s142_75, s142_76, s142_79, s142_80, s142_83, s142_86, s142_89, s142_90, s142_91, s142_92, s142_95, s142_96, s142_99, s142_100, s142_103, s142_104, s142_107, s142_108, s142_111, s142_112, s142_113, s142_116, s142_119, s142_122, s142_125, s142_126, s142_129, s142_132, s142_133, s142_134, s142_135, s142_138, s142_139, s142_142, s142_145, s142_146, s142_149, s142_151, s142_153, s142_156, s142_158, s142_159, s142_160, s142_161, s142_164, s142_165, s142_166, s142_167, s142_168, s142_171, s142_172, s142_175, s142_176, s142_179, s142_182, s142_184, s142_185, s142_186, s142_187, s142_190, s142_191, s142_192, s142_195, s142_197, s142_199, s142_202, s142_203, s142_206, s142_209, s142_212, s142_214, s142_215, s142_216, s142_217, s142_220, s142_221, s142_222, s142_225, s142_226, s142_227, s142_230, s142_232, s142_235, s142_236, s142_239, s142_240, s142_243, s142_244, s142_247, s142_248, s142_251, s142_254, s142_255, s142_256, s142_257, s142_260, s142_263, s142_266, s142_267, mq_k0s, mq_k1s, mq_k2s, mq_k4s, mq_k5s, mq_k5n, mq_k5as, mq_k6s, mj_pu, mj_lo, mj_br, mj_hr, mj_hw, mq_gf, mq_len, mq_al, mq_pf, mq_ok, mj_re, mq_lkm, mq_lkn, mj_ldi, mj_ldl, mj_lda, mj_ii, mj_ll, mj_li, mj_i1, ms_1, ms_2, f1_n, f1_i, f1_r, f1_u, f1_l, f2_n, f2_i, f2_r, f2_u, f2_l, mj_tg, mj_c1, mj_c2, mj_ar, mj_aw, mq_cb, mq_oi, mj_rm, Value.category, -getElem?_pos, List.getElem?_cons_zero, decide_eq_true, decide_eq_false, nl_lt, nl_le, ln_lt, ln_le, nl_eq, ln_eq, nl_add, ln_add, nl_sub, ln_mul, nI_sub, nI_mul, nI_add, nI_lt_iff, nI_le_iff, nI_inj, nI_num, mq_ix, nI_1, nl_mul, nl_div, x0, vs, p1, x1, p2, narrow]
  rw [if_neg hs3, if_neg hs3]
  by_cases c1 : pn_try k = 0; rotate_left
  · rw [if_pos c1]
    refine ⟨M, row, ?_, z, fx.rf⟩
    simp (disch := (first | omega | decide)) [s142_0, s142_1, s142_4, s142_5, s142_8, s142_9, s142_10, s142_13, s142_16, s142_17, s142_18, s142_19, s142_22, s142_23, s142_24, s142_27, s142_28, s142_29, s142_30, s142_31, s142_34, s142_35, s142_38, s142_39, s142_40, s142_43, s142_44, s142_47, s142_48, s142_51, s142_52, s142_55, s142_56, s142_57, s142_60, s142_63, s142_66, s142_67, s142_68, s142_69, s142_70, s142_73, s142_74, s142_75, s142_76, s142_79, s142_80, s142_83, s142_86, s142_89, s142_90, s142_91, s142_92, s142_95, s142_96, s142_99, s142_100, s142_103, s142_104, s142_107, s142_108, s142_111, s142_112, s142_113, s142_116, s142_119, s142_122, s142_125, s142_126, s142_129, s142_132, s142_133, s142_134, s142_135, s142_138, s142_139, s142_142, s142_145, s142_146, s142_149, s142_151, s142_153, s142_156, s142_158, s142_159, s142_160, s142_161, s142_164, s142_165, s142_166, s142_167, s142_168, s142_171, s142_172, s142_175, s142_176, s142_179, s142_182, s142_184, s142_185, s142_186, s142_187, s142_190, s142_191, s142_192, s142_195, s142_197, s142_199, s142_202, s142_203, s142_206, s142_209, s142_212, s142_214, s142_215, s142_216, s142_217, s142_220, s142_221, s142_222, s142_225, s142_226, s142_227, s142_230, s142_232, s142_235, s142_236, s142_239, s142_240, s142_243, s142_244, s142_247, s142_248, s142_251, s142_254, s142_255, s142_256, s142_257, s142_260, s142_263, s142_266, s142_267, mq_k0s, mq_k1s, mq_k2s, mq_k4s, mq_k5s, mq_k5n, mq_k5as, mq_k6s, mj_pu, mj_lo, mj_br, mj_hr, mj_hw, mq_gf, mq_len, mq_al, mq_pf, mq_ok, mj_re, mq_lkm, mq_lkn, mj_ldi, mj_ldl, mj_lda, mj_ii, mj_ll, mj_li, mj_i1, ms_1, ms_2, f1_n, f1_i, f1_r, f1_u, f1_l, f2_n, f2_i, f2_r, f2_u, f2_l, mj_tg, mj_c1, mj_c2, mj_ar, mj_aw, mq_cb, mq_oi, mj_rm, Value.category, -getElem?_pos, List.getElem?_cons_zero, decide_eq_true, decide_eq_false, nl_lt, nl_le, ln_lt, ln_le, nl_eq, ln_eq, nl_add, ln_add, nl_sub, ln_mul, nI_sub, nI_mul, nI_add, nI_lt_iff, nI_le_iff, nI_inj, nI_num, mq_ix, nI_1, nl_mul, nl_div, x0, vt, c1, hs3, narrow]
  rw [if_neg (by simp [c1])]
  rw [c1] at vt
  have hw2 : (fs_wr (rcn 3 (k.1.1.1.1.2.2.2.2.2.2.2.2.2.1 - 1) 0) k.1.1.1.1).2 = true → fw (pn_k1 k).1.1.1.1 ∧ (pn_k1 k).1.1.1.1.2.1 = true := by
    intro hq
    refine ⟨fw_rcn hw (by omega) (Or.inr (Or.inl rfl)), ?_⟩
    rcases fs_wr_onk (rcn 3 (k.1.1.1.1.2.2.2.2.2.2.2.2.2.1 - 1) 0) k.1.1.1.1 with h | h
    · exact h.2.trans hon
    · rw [hq] at h; cases h.1
  obtain ⟨tw, trw, trp⟩ := try_fw (ms := ms) (T := T) (sh := nI sh) hw (by omega)
  by_cases hs4 : step = 4
  · subst hs4
    obtain ⟨p5, h5', hs5⟩ := hall 5 (by omega) (by omega) (by decide)
    obtain ⟨p6, h6', hs6⟩ := hall 6 (by omega) (by omega) (by decide)
    obtain ⟨M1, row1, p1, z1, f1⟩ := ky_prov (d := d + 4) (shared := nI sh) (six := true) z hI h5' hs5 (fun _ => ⟨p6, h6', hs6⟩)
    rw [show decide ((4 : Nat) = 4) = true from rfl]
    have hI1 := z.it f1 hI
    obtain ⟨u1, x1⟩ := z1.fa
    rw [on1_t] at p1
    cases c2 : kn_as T (pn_mac (nI sh) ms true) (o4 ms (mem ms 4)) with
    | false =>
      rw [if_pos ⟨by decide, rfl⟩]
      rw [c2, on1_f] at p1
      refine ⟨M1, row1, ?_, z1, f1⟩
      simp (disch := (first | omega | decide)) [s142_0, s142_1, s142_4, s142_5, s142_8, s142_9, s142_10, s142_13, s142_16, s142_17, s142_18, s142_19, s142_22, s142_23, s142_24, s142_27, s142_28, s142_29, s142_30, s142_31, s142_34, s142_35, s142_38, s142_39, s142_40, s142_43, s142_44, s142_47, s142_48, s142_51, s142_52, s142_55, s142_56, s142_57, s142_60, s142_63, s142_66, s142_67, s142_68, s142_69, s142_70, s142_73, s142_74, s142_75, s142_76, s142_79, s142_80, s142_83, s142_86, s142_89, s142_90, s142_91, s142_92, s142_95, s142_96, s142_99, s142_100, s142_103, s142_104, s142_107, s142_108, s142_111, s142_112, s142_113, s142_116, s142_119, s142_122, s142_125, s142_126, s142_129, s142_132, s142_133, s142_134, s142_135, s142_138, s142_139, s142_142, s142_145, s142_146, s142_149, s142_151, s142_153, s142_156, s142_158, s142_159, s142_160, s142_161, s142_164, s142_165, s142_166, s142_167, s142_168, s142_171, s142_172, s142_175, s142_176, s142_179, s142_182, s142_184, s142_185, s142_186, s142_187, s142_190, s142_191, s142_192, s142_195, s142_197, s142_199, s142_202, s142_203, s142_206, s142_209, s142_212, s142_214, s142_215, s142_216, s142_217, s142_220, s142_221, s142_222, s142_225, s142_226, s142_227, s142_230, s142_232, s142_235, s142_236, s142_239, s142_240, s142_243, s142_244, s142_247, s142_248, s142_251, s142_254, s142_255, s142_256, s142_257, s142_260, s142_263, s142_266, s142_267, mq_k0s, mq_k1s, mq_k2s, mq_k4s, mq_k5s, mq_k5n, mq_k5as, mq_k6s, mj_pu, mj_lo, mj_br, mj_hr, mj_hw, mq_gf, mq_len, mq_al, mq_pf, mq_ok, mj_re, mq_lkm, mq_lkn, mj_ldi, mj_ldl, mj_lda, mj_ii, mj_ll, mj_li, mj_i1, ms_1, ms_2, f1_n, f1_i, f1_r, f1_u, f1_l, f2_n, f2_i, f2_r, f2_u, f2_l, mj_tg, mj_c1, mj_c2, mj_ar, mj_aw, mq_cb, mq_oi, mj_rm, Value.category, -getElem?_pos, List.getElem?_cons_zero, decide_eq_true, decide_eq_false, nl_lt, nl_le, ln_lt, ln_le, nl_eq, ln_eq, nl_add, ln_add, nl_sub, ln_mul, nI_sub, nI_mul, nI_add, nI_lt_iff, nI_le_iff, nI_inj, nI_num, mq_ix, nI_1, nl_mul, nl_div, x0, vt, p1, narrow]
    | true =>
      rw [if_neg (by simp)]
      rw [c2, on1_t] at p1
      obtain ⟨M2, row2, p2, z2, f2⟩ := ky_try (d := d + 4) (shared := nI sh) z1 hI1 hw hw2 hon hwr
      have hI2 := z.it (f1.trs f2) hI
      obtain ⟨u2, x2⟩ := z2.fa
      unfold pn_then
      generalize ky_tryPin ms k T (nI sh) = tr at *
      by_cases c3 : tr.1 = 0; rotate_left
      · rw [if_pos (Or.inl c3)]
        refine ⟨M2, row2, ?_, z2, f1.trs f2⟩
        simp (disch := (first | omega | decide)) [s142_0, s142_1, s142_4, s142_5, s142_8, s142_9, s142_10, s142_13, s142_16, s142_17, s142_18, s142_19, s142_22, s142_23, s142_24, s142_27, s142_28, s142_29, s142_30, s142_31, s142_34, s142_35, s142_38, s142_39, s142_40, s142_43, s142_44, s142_47, s142_48, s142_51, s142_52, s142_55, s142_56, s142_57, s142_60, s142_63, s142_66, s142_67, s142_68, s142_69, s142_70, s142_73, s142_74, s142_75, s142_76, s142_79, s142_80, s142_83, s142_86, s142_89, s142_90, s142_91, s142_92, s142_95, s142_96, s142_99, s142_100, s142_103, s142_104, s142_107, s142_108, s142_111, s142_112, s142_113, s142_116, s142_119, s142_122, s142_125, s142_126, s142_129, s142_132, s142_133, s142_134, s142_135, s142_138, s142_139, s142_142, s142_145, s142_146, s142_149, s142_151, s142_153, s142_156, s142_158, s142_159, s142_160, s142_161, s142_164, s142_165, s142_166, s142_167, s142_168, s142_171, s142_172, s142_175, s142_176, s142_179, s142_182, s142_184, s142_185, s142_186, s142_187, s142_190, s142_191, s142_192, s142_195, s142_197, s142_199, s142_202, s142_203, s142_206, s142_209, s142_212, s142_214, s142_215, s142_216, s142_217, s142_220, s142_221, s142_222, s142_225, s142_226, s142_227, s142_230, s142_232, s142_235, s142_236, s142_239, s142_240, s142_243, s142_244, s142_247, s142_248, s142_251, s142_254, s142_255, s142_256, s142_257, s142_260, s142_263, s142_266, s142_267, mq_k0s, mq_k1s, mq_k2s, mq_k4s, mq_k5s, mq_k5n, mq_k5as, mq_k6s, mj_pu, mj_lo, mj_br, mj_hr, mj_hw, mq_gf, mq_len, mq_al, mq_pf, mq_ok, mj_re, mq_lkm, mq_lkn, mj_ldi, mj_ldl, mj_lda, mj_ii, mj_ll, mj_li, mj_i1, ms_1, ms_2, f1_n, f1_i, f1_r, f1_u, f1_l, f2_n, f2_i, f2_r, f2_u, f2_l, mj_tg, mj_c1, mj_c2, mj_ar, mj_aw, mq_cb, mq_oi, mj_rm, Value.category, -getElem?_pos, List.getElem?_cons_zero, decide_eq_true, decide_eq_false, nl_lt, nl_le, ln_lt, ln_le, nl_eq, ln_eq, nl_add, ln_add, nl_sub, ln_mul, nI_sub, nI_mul, nI_add, nI_lt_iff, nI_le_iff, nI_inj, nI_num, mq_ix, nI_1, nl_mul, nl_div, x0, vt, p1, x1, p2, c3, narrow]
      cases c4 : tr.2.1.1.1.1.1.2.1 with
      | false =>
        rw [if_pos (Or.inr rfl)]
        rw [c4] at x2
        refine ⟨M2, row2, ?_, z2, f1.trs f2⟩
        simp (disch := (first | omega | decide)) [s142_0, s142_1, s142_4, s142_5, s142_8, s142_9, s142_10, s142_13, s142_16, s142_17, s142_18, s142_19, s142_22, s142_23, s142_24, s142_27, s142_28, s142_29, s142_30, s142_31, s142_34, s142_35, s142_38, s142_39, s142_40, s142_43, s142_44, s142_47, s142_48, s142_51, s142_52, s142_55, s142_56, s142_57, s142_60, s142_63, s142_66, s142_67, s142_68, s142_69, s142_70, s142_73, s142_74, s142_75, s142_76, s142_79, s142_80, s142_83, s142_86, s142_89, s142_90, s142_91, s142_92, s142_95, s142_96, s142_99, s142_100, s142_103, s142_104, s142_107, s142_108, s142_111, s142_112, s142_113, s142_116, s142_119, s142_122, s142_125, s142_126, s142_129, s142_132, s142_133, s142_134, s142_135, s142_138, s142_139, s142_142, s142_145, s142_146, s142_149, s142_151, s142_153, s142_156, s142_158, s142_159, s142_160, s142_161, s142_164, s142_165, s142_166, s142_167, s142_168, s142_171, s142_172, s142_175, s142_176, s142_179, s142_182, s142_184, s142_185, s142_186, s142_187, s142_190, s142_191, s142_192, s142_195, s142_197, s142_199, s142_202, s142_203, s142_206, s142_209, s142_212, s142_214, s142_215, s142_216, s142_217, s142_220, s142_221, s142_222, s142_225, s142_226, s142_227, s142_230, s142_232, s142_235, s142_236, s142_239, s142_240, s142_243, s142_244, s142_247, s142_248, s142_251, s142_254, s142_255, s142_256, s142_257, s142_260, s142_263, s142_266, s142_267, mq_k0s, mq_k1s, mq_k2s, mq_k4s, mq_k5s, mq_k5n, mq_k5as, mq_k6s, mj_pu, mj_lo, mj_br, mj_hr, mj_hw, mq_gf, mq_len, mq_al, mq_pf, mq_ok, mj_re, mq_lkm, mq_lkn, mj_ldi, mj_ldl, mj_lda, mj_ii, mj_ll, mj_li, mj_i1, ms_1, ms_2, f1_n, f1_i, f1_r, f1_u, f1_l, f2_n, f2_i, f2_r, f2_u, f2_l, mj_tg, mj_c1, mj_c2, mj_ar, mj_aw, mq_cb, mq_oi, mj_rm, Value.category, -getElem?_pos, List.getElem?_cons_zero, decide_eq_true, decide_eq_false, nl_lt, nl_le, ln_lt, ln_le, nl_eq, ln_eq, nl_add, ln_add, nl_sub, ln_mul, nI_sub, nI_mul, nI_add, nI_lt_iff, nI_le_iff, nI_inj, nI_num, mq_ix, nI_1, nl_mul, nl_div, x0, vt, p1, x1, p2, c3, x2, narrow]
      | true =>
        rw [if_neg (by simp [c3]), if_pos rfl]
        obtain ⟨M3, row3, p3, z3, f3⟩ := ky_new (d := d + 4) z2 hI2 tw c4 (by rw [trw]; omega) hsh
        rw [c4] at x2
        refine ⟨M3, row3, ?_, z3, (f1.trs f2).trs f3⟩
        simp (disch := (first | omega | decide)) [s142_0, s142_1, s142_4, s142_5, s142_8, s142_9, s142_10, s142_13, s142_16, s142_17, s142_18, s142_19, s142_22, s142_23, s142_24, s142_27, s142_28, s142_29, s142_30, s142_31, s142_34, s142_35, s142_38, s142_39, s142_40, s142_43, s142_44, s142_47, s142_48, s142_51, s142_52, s142_55, s142_56, s142_57, s142_60, s142_63, s142_66, s142_67, s142_68, s142_69, s142_70, s142_73, s142_74, s142_75, s142_76, s142_79, s142_80, s142_83, s142_86, s142_89, s142_90, s142_91, s142_92, s142_95, s142_96, s142_99, s142_100, s142_103, s142_104, s142_107, s142_108, s142_111, s142_112, s142_113, s142_116, s142_119, s142_122, s142_125, s142_126, s142_129, s142_132, s142_133, s142_134, s142_135, s142_138, s142_139, s142_142, s142_145, s142_146, s142_149, s142_151, s142_153, s142_156, s142_158, s142_159, s142_160, s142_161, s142_164, s142_165, s142_166, s142_167, s142_168, s142_171, s142_172, s142_175, s142_176, s142_179, s142_182, s142_184, s142_185, s142_186, s142_187, s142_190, s142_191, s142_192, s142_195, s142_197, s142_199, s142_202, s142_203, s142_206, s142_209, s142_212, s142_214, s142_215, s142_216, s142_217, s142_220, s142_221, s142_222, s142_225, s142_226, s142_227, s142_230, s142_232, s142_235, s142_236, s142_239, s142_240, s142_243, s142_244, s142_247, s142_248, s142_251, s142_254, s142_255, s142_256, s142_257, s142_260, s142_263, s142_266, s142_267, mq_k0s, mq_k1s, mq_k2s, mq_k4s, mq_k5s, mq_k5n, mq_k5as, mq_k6s, mj_pu, mj_lo, mj_br, mj_hr, mj_hw, mq_gf, mq_len, mq_al, mq_pf, mq_ok, mj_re, mq_lkm, mq_lkn, mj_ldi, mj_ldl, mj_lda, mj_ii, mj_ll, mj_li, mj_i1, ms_1, ms_2, f1_n, f1_i, f1_r, f1_u, f1_l, f2_n, f2_i, f2_r, f2_u, f2_l, mj_tg, mj_c1, mj_c2, mj_ar, mj_aw, mq_cb, mq_oi, mj_rm, Value.category, -getElem?_pos, List.getElem?_cons_zero, decide_eq_true, decide_eq_false, nl_lt, nl_le, ln_lt, ln_le, nl_eq, ln_eq, nl_add, ln_add, nl_sub, ln_mul, nI_sub, nI_mul, nI_add, nI_lt_iff, nI_le_iff, nI_inj, nI_num, mq_ix, nI_1, nl_mul, nl_div, x0, vt, p1, x1, p2, c3, x2, p3, narrow]
  · have hs5 : step = 5 := by omega
    subst hs5
    rw [if_neg (by simp)]
    obtain ⟨M2, row2, p2, z2, f2⟩ := ky_try (d := d + 4) (shared := nI sh) z hI hw hw2 hon hwr
    obtain ⟨u2, x2⟩ := z2.fa
    unfold pn_then
    generalize ky_tryPin ms k T (nI sh) = tr at *
    by_cases c3 : tr.1 = 0; rotate_left
    · rw [if_pos (Or.inl c3)]
      refine ⟨M2, row2, ?_, z2, f2⟩
      simp (disch := (first | omega | decide)) [s142_0, s142_1, s142_4, s142_5, s142_8, s142_9, s142_10, s142_13, s142_16, s142_17, s142_18, s142_19, s142_22, s142_23, s142_24, s142_27, s142_28, s142_29, s142_30, s142_31, s142_34, s142_35, s142_38, s142_39, s142_40, s142_43, s142_44, s142_47, s142_48, s142_51, s142_52, s142_55, s142_56, s142_57, s142_60, s142_63, s142_66, s142_67, s142_68, s142_69, s142_70, s142_73, s142_74, s142_75, s142_76, s142_79, s142_80, s142_83, s142_86, s142_89, s142_90, s142_91, s142_92, s142_95, s142_96, s142_99, s142_100, s142_103, s142_104, s142_107, s142_108, s142_111, s142_112, s142_113, s142_116, s142_119, s142_122, s142_125, s142_126, s142_129, s142_132, s142_133, s142_134, s142_135, s142_138, s142_139, s142_142, s142_145, s142_146, s142_149, s142_151, s142_153, s142_156, s142_158, s142_159, s142_160, s142_161, s142_164, s142_165, s142_166, s142_167, s142_168, s142_171, s142_172, s142_175, s142_176, s142_179, s142_182, s142_184, s142_185, s142_186, s142_187, s142_190, s142_191, s142_192, s142_195, s142_197, s142_199, s142_202, s142_203, s142_206, s142_209, s142_212, s142_214, s142_215, s142_216, s142_217, s142_220, s142_221, s142_222, s142_225, s142_226, s142_227, s142_230, s142_232, s142_235, s142_236, s142_239, s142_240, s142_243, s142_244, s142_247, s142_248, s142_251, s142_254, s142_255, s142_256, s142_257, s142_260, s142_263, s142_266, s142_267, mq_k0s, mq_k1s, mq_k2s, mq_k4s, mq_k5s, mq_k5n, mq_k5as, mq_k6s, mj_pu, mj_lo, mj_br, mj_hr, mj_hw, mq_gf, mq_len, mq_al, mq_pf, mq_ok, mj_re, mq_lkm, mq_lkn, mj_ldi, mj_ldl, mj_lda, mj_ii, mj_ll, mj_li, mj_i1, ms_1, ms_2, f1_n, f1_i, f1_r, f1_u, f1_l, f2_n, f2_i, f2_r, f2_u, f2_l, mj_tg, mj_c1, mj_c2, mj_ar, mj_aw, mq_cb, mq_oi, mj_rm, Value.category, -getElem?_pos, List.getElem?_cons_zero, decide_eq_true, decide_eq_false, nl_lt, nl_le, ln_lt, ln_le, nl_eq, ln_eq, nl_add, ln_add, nl_sub, ln_mul, nI_sub, nI_mul, nI_add, nI_lt_iff, nI_le_iff, nI_inj, nI_num, mq_ix, nI_1, nl_mul, nl_div, x0, vt, p2, c3, narrow]
    cases c4 : tr.2.1.1.1.1.1.2.1 with
    | false =>
      rw [if_pos (Or.inr rfl)]
      rw [c4] at x2
      refine ⟨M2, row2, ?_, z2, f2⟩
      simp (disch := (first | omega | decide)) [s142_0, s142_1, s142_4, s142_5, s142_8, s142_9, s142_10, s142_13, s142_16, s142_17, s142_18, s142_19, s142_22, s142_23, s142_24, s142_27, s142_28, s142_29, s142_30, s142_31, s142_34, s142_35, s142_38, s142_39, s142_40, s142_43, s142_44, s142_47, s142_48, s142_51, s142_52, s142_55, s142_56, s142_57, s142_60, s142_63, s142_66, s142_67, s142_68, s142_69, s142_70, s142_73, s142_74, s142_75, s142_76, s142_79, s142_80, s142_83, s142_86, s142_89, s142_90, s142_91, s142_92, s142_95, s142_96, s142_99, s142_100, s142_103, s142_104, s142_107, s142_108, s142_111, s142_112, s142_113, s142_116, s142_119, s142_122, s142_125, s142_126, s142_129, s142_132, s142_133, s142_134, s142_135, s142_138, s142_139, s142_142, s142_145, s142_146, s142_149, s142_151, s142_153, s142_156, s142_158, s142_159, s142_160, s142_161, s142_164, s142_165, s142_166, s142_167, s142_168, s142_171, s142_172, s142_175, s142_176, s142_179, s142_182, s142_184, s142_185, s142_186, s142_187, s142_190, s142_191, s142_192, s142_195, s142_197, s142_199, s142_202, s142_203, s142_206, s142_209, s142_212, s142_214, s142_215, s142_216, s142_217, s142_220, s142_221, s142_222, s142_225, s142_226, s142_227, s142_230, s142_232, s142_235, s142_236, s142_239, s142_240, s142_243, s142_244, s142_247, s142_248, s142_251, s142_254, s142_255, s142_256, s142_257, s142_260, s142_263, s142_266, s142_267, mq_k0s, mq_k1s, mq_k2s, mq_k4s, mq_k5s, mq_k5n, mq_k5as, mq_k6s, mj_pu, mj_lo, mj_br, mj_hr, mj_hw, mq_gf, mq_len, mq_al, mq_pf, mq_ok, mj_re, mq_lkm, mq_lkn, mj_ldi, mj_ldl, mj_lda, mj_ii, mj_ll, mj_li, mj_i1, ms_1, ms_2, f1_n, f1_i, f1_r, f1_u, f1_l, f2_n, f2_i, f2_r, f2_u, f2_l, mj_tg, mj_c1, mj_c2, mj_ar, mj_aw, mq_cb, mq_oi, mj_rm, Value.category, -getElem?_pos, List.getElem?_cons_zero, decide_eq_true, decide_eq_false, nl_lt, nl_le, ln_lt, ln_le, nl_eq, ln_eq, nl_add, ln_add, nl_sub, ln_mul, nI_sub, nI_mul, nI_add, nI_lt_iff, nI_le_iff, nI_inj, nI_num, mq_ix, nI_1, nl_mul, nl_div, x0, vt, p2, c3, x2, narrow]
    | true =>
      rw [if_neg (by simp [c3]), if_neg (by decide)]
      rw [c4] at x2
      obtain ⟨M3, p3, z3, f3⟩ := kz_begin (d := d + 8) z2 9
      obtain ⟨u3, x3⟩ := z3.fa
      obtain ⟨M4, p4, z4, f4⟩ := kz_add (d := d + 9) z3 (by simp) (nI sh)
      obtain ⟨u4, x4⟩ := z4.fa
      obtain ⟨M5, p5, z5, f5⟩ := kz_add (d := d + 9) z4 (by simp) (nI tr.2.1.2.1.1.1)
      obtain ⟨u5, x5⟩ := z5.fa
      have e5 : [9] ++ [nI sh] ++ [nI tr.2.1.2.1.1.1] = [9, nI sh, nI tr.2.1.2.1.1.1] := rfl
      rw [e5] at z5
      obtain ⟨M6, p6, z6, f6⟩ := kz_made (d := d + 6) z5 (by simp) (by rw [trw]; omega)
      obtain ⟨u6, x6⟩ := z6.fa
      obtain ⟨M7, p7, z7, f7⟩ := ky_tt (d := d + 6) z6 2 (Or.inr rfl) (nI (tm_no tr.2.2 [9, nI sh, nI tr.2.1.2.1.1.1])) (by rw [trp]; exact hr)
      refine ⟨M7, _, ?_, z7, ((((((f2).trs f3).trs f4).trs f5).trs f6).trs f7)⟩
      rw [show nI 2 = 2 from rfl] at p7
      simp (disch := (first | omega | decide)) [s142_0, s142_1, s142_4, s142_5, s142_8, s142_9, s142_10, s142_13, s142_16, s142_17, s142_18, s142_19, s142_22, s142_23, s142_24, s142_27, s142_28, s142_29, s142_30, s142_31, s142_34, s142_35, s142_38, s142_39, s142_40, s142_43, s142_44, s142_47, s142_48, s142_51, s142_52, s142_55, s142_56, s142_57, s142_60, s142_63, s142_66, s142_67, s142_68, s142_69, s142_70, s142_73, s142_74, s142_75, s142_76, s142_79, s142_80, s142_83, s142_86, s142_89, s142_90, s142_91, s142_92, s142_95, s142_96, s142_99, s142_100, s142_103, s142_104, s142_107, s142_108, s142_111, s142_112, s142_113, s142_116, s142_119, s142_122, s142_125, s142_126, s142_129, s142_132, s142_133, s142_134, s142_135, s142_138, s142_139, s142_142, s142_145, s142_146, s142_149, s142_151, s142_153, s142_156, s142_158, s142_159, s142_160, s142_161, s142_164, s142_165, s142_166, s142_167, s142_168, s142_171, s142_172, s142_175, s142_176, s142_179, s142_182, s142_184, s142_185, s142_186, s142_187, s142_190, s142_191, s142_192, s142_195, s142_197, s142_199, s142_202, s142_203, s142_206, s142_209, s142_212, s142_214, s142_215, s142_216, s142_217, s142_220, s142_221, s142_222, s142_225, s142_226, s142_227, s142_230, s142_232, s142_235, s142_236, s142_239, s142_240, s142_243, s142_244, s142_247, s142_248, s142_251, s142_254, s142_255, s142_256, s142_257, s142_260, s142_263, s142_266, s142_267, mq_k0s, mq_k1s, mq_k2s, mq_k4s, mq_k5s, mq_k5n, mq_k5as, mq_k6s, mj_pu, mj_lo, mj_br, mj_hr, mj_hw, mq_gf, mq_len, mq_al, mq_pf, mq_ok, mj_re, mq_lkm, mq_lkn, mj_ldi, mj_ldl, mj_lda, mj_ii, mj_ll, mj_li, mj_i1, ms_1, ms_2, f1_n, f1_i, f1_r, f1_u, f1_l, f2_n, f2_i, f2_r, f2_u, f2_l, mj_tg, mj_c1, mj_c2, mj_ar, mj_aw, mq_cb, mq_oi, mj_rm, Value.category, -getElem?_pos, List.getElem?_cons_zero, decide_eq_true, decide_eq_false, nl_lt, nl_le, ln_lt, ln_le, nl_eq, ln_eq, nl_add, ln_add, nl_sub, ln_mul, nI_sub, nI_mul, nI_add, nI_lt_iff, nI_le_iff, nI_inj, nI_num, mq_ix, nI_1, nl_mul, nl_div, x0, vt, p2, c3, x2, p3, x3, p4, x4, p5, x5, p6, x6, p7, narrow, pn_tok]
theorem ky_pin (z : kz A κ M k T row) (hI : iT M ms n S V H E N) (hw : fw k.1.1.1.1) (hg : k.1.1.1.1.2.2.2.2.2.1 + 3 < 2 ^ 29) (hon : k.1.1.1.1.2.1 = true) (hwr : k.2.1.1.2 ≤ 3) (hf : T.1.length + 2 < 1000) (hr : k.1.1.1.2.length ≤ 1) : ∃ M' row', mj_V (d + 11) 142 [.ref κ] M = some (some (.int (ky_doPin ms k T).1), M') ∧ kz A κ M' (ky_doPin ms k T).2.1 (ky_doPin ms k T).2.2 row' ∧ fx (kS A κ) M M' := by
  obtain ⟨u0, x0⟩ := z.fa
  have ho := hI.u.ob
  obtain ⟨y2, v2, a2⟩ := q_mem (d := d + 8) (num := 2) (by decide) hI
  have w2 := q_val (d := d + 9) hI a2
  rw [oV_n] at w2
  have l2 := oVn_lt hI a2
  rw [show nI 2 = 2 from rfl] at v2
  have vf := ky_pf (d := d) z hI l2
  unfold ky_doPin
  by_cases hok : pnFault T ms (oVn ms (mem ms 2)) = 0; rotate_left
  · rw [if_pos hok]
    refine ⟨M, row, ?_, z, fx.rf⟩
    simp (disch := (first | omega | decide)) [c142, s142_0, s142_1, s142_4, s142_5, s142_8, s142_9, s142_10, s142_13, s142_16, s142_17, s142_18, s142_19, s142_22, s142_23, s142_24, s142_27, s142_28, s142_29, s142_30, s142_31, s142_34, s142_35, s142_38, s142_39, s142_40, s142_43, s142_44, s142_47, s142_48, s142_51, s142_52, s142_55, s142_56, s142_57, s142_60, s142_63, s142_66, s142_67, s142_68, s142_69, s142_70, s142_73, s142_74, s142_75, s142_76, s142_79, s142_80, s142_83, s142_86, s142_89, s142_90, s142_91, s142_92, s142_95, s142_96, s142_99, s142_100, s142_103, s142_104, s142_107, s142_108, s142_111, s142_112, s142_113, s142_116, s142_119, s142_122, s142_125, s142_126, s142_129, s142_132, s142_133, s142_134, s142_135, s142_138, s142_139, s142_142, s142_145, s142_146, s142_149, s142_151, s142_153, s142_156, s142_158, s142_159, s142_160, s142_161, s142_164, s142_165, s142_166, s142_167, s142_168, s142_171, s142_172, s142_175, s142_176, s142_179, s142_182, s142_184, s142_185, s142_186, s142_187, s142_190, s142_191, s142_192, s142_195, s142_197, s142_199, s142_202, s142_203, s142_206, s142_209, s142_212, s142_214, s142_215, s142_216, s142_217, s142_220, s142_221, s142_222, s142_225, s142_226, s142_227, s142_230, s142_232, s142_235, s142_236, s142_239, s142_240, s142_243, s142_244, s142_247, s142_248, s142_251, s142_254, s142_255, s142_256, s142_257, s142_260, s142_263, s142_266, s142_267, mq_k0s, mq_k1s, mq_k2s, mq_k4s, mq_k5s, mq_k5n, mq_k5as, mq_k6s, mj_pu, mj_lo, mj_br, mj_hr, mj_hw, mq_gf, mq_len, mq_al, mq_pf, mq_ok, mj_re, mq_lkm, mq_lkn, mj_ldi, mj_ldl, mj_lda, mj_ii, mj_ll, mj_li, mj_i1, ms_1, ms_2, f1_n, f1_i, f1_r, f1_u, f1_l, f2_n, f2_i, f2_r, f2_u, f2_l, mj_tg, mj_c1, mj_c2, mj_ar, mj_aw, mq_cb, mq_oi, mj_rm, Value.category, -getElem?_pos, List.getElem?_cons_zero, decide_eq_true, decide_eq_false, nl_lt, nl_le, ln_lt, ln_le, nl_eq, ln_eq, nl_add, ln_add, nl_sub, ln_mul, nI_sub, nI_mul, nI_add, nI_lt_iff, nI_le_iff, nI_inj, nI_num, mq_ix, nI_1, nl_mul, nl_div, x0, ho, v2, w2, vf, hok, narrow]
  rw [if_neg (by simp [hok])]
  rw [hok] at vf
  obtain ⟨s1, s5, -⟩ := pnFault_ok hok
  generalize hst : oVn ms (mem ms 2) = step at *
  by_cases c1 : step = 1
  · subst c1
    rw [if_pos rfl]
    have hbl := bt_hd_len 0 k.1.1.1.1.2.2.2.2.2.2.2.2.2.1
    obtain ⟨M1, p1, z1, f1⟩ := kz_headX (d := d + 8) z 5 1 (k.1.1.1.2 ++ [161]) (by rw [h_51]) (by simp; omega)
    (try dsimp only at z1)
    obtain ⟨u1, x1⟩ := z1.fa
    obtain ⟨M2, p2, z2, f2⟩ := kz_pushX (d := d + 9) z1 3 (k.1.1.1.2 ++ [161] ++ [3]) (by rw [aa_3]) (by simp; omega)
    (try dsimp only at z2)
    obtain ⟨u2, x2⟩ := z2.fa
    obtain ⟨M3, p3, z3, f3⟩ := kz_headX (d := d + 8) z2 0 k.1.1.1.1.2.2.2.2.2.2.2.2.2.1 (k.1.1.1.2 ++ [161] ++ [3] ++ bt_hd 0 k.1.1.1.1.2.2.2.2.2.2.2.2.2.1) rfl (by simp; omega)
    (try dsimp only at z3)
    obtain ⟨u3, x3⟩ := z3.fa
    have e : k.1.1.1.2 ++ (161 :: 3 :: bt_hd 0 k.1.1.1.1.2.2.2.2.2.2.2.2.2.1) = k.1.1.1.2 ++ [161] ++ [3] ++ bt_hd 0 k.1.1.1.1.2.2.2.2.2.2.2.2.2.1 := by simp
    refine ⟨M3, row, ?_, by rw [e]; exact z3, (((f1).trs f2).trs f3)⟩
    simp (disch := (first | omega | decide)) [c142, s142_0, s142_1, s142_4, s142_5, s142_8, s142_9, s142_10, s142_13, s142_16, s142_17, s142_18, s142_19, s142_22, s142_23, s142_24, s142_27, s142_28, s142_29, s142_30, s142_31, s142_34, s142_35, s142_38, s142_39, s142_40, s142_43, s142_44, s142_47, s142_48, s142_51, s142_52, s142_55, s142_56, s142_57, s142_60, s142_63, s142_66, s142_67, s142_68, s142_69, s142_70, s142_73, s142_74, s142_75, s142_76, s142_79, s142_80, s142_83, s142_86, s142_89, s142_90, s142_91, s142_92, s142_95, s142_96, s142_99, s142_100, s142_103, s142_104, s142_107, s142_108, s142_111, s142_112, s142_113, s142_116, s142_119, s142_122, s142_125, s142_126, s142_129, s142_132, s142_133, s142_134, s142_135, s142_138, s142_139, s142_142, s142_145, s142_146, s142_149, s142_151, s142_153, s142_156, s142_158, s142_159, s142_160, s142_161, s142_164, s142_165, s142_166, s142_167, s142_168, s142_171, s142_172, s142_175, s142_176, s142_179, s142_182, s142_184, s142_185, s142_186, s142_187, s142_190, s142_191, s142_192, s142_195, s142_197, s142_199, s142_202, s142_203, s142_206, s142_209, s142_212, s142_214, s142_215, s142_216, s142_217, s142_220, s142_221, s142_222, s142_225, s142_226, s142_227, s142_230, s142_232, s142_235, s142_236, s142_239, s142_240, s142_243, s142_244, s142_247, s142_248, s142_251, s142_254, s142_255, s142_256, s142_257, s142_260, s142_263, s142_266, s142_267, mq_k0s, mq_k1s, mq_k2s, mq_k4s, mq_k5s, mq_k5n, mq_k5as, mq_k6s, mj_pu, mj_lo, mj_br, mj_hr, mj_hw, mq_gf, mq_len, mq_al, mq_pf, mq_ok, mj_re, mq_lkm, mq_lkn, mj_ldi, mj_ldl, mj_lda, mj_ii, mj_ll, mj_li, mj_i1, ms_1, ms_2, f1_n, f1_i, f1_r, f1_u, f1_l, f2_n, f2_i, f2_r, f2_u, f2_l, mj_tg, mj_c1, mj_c2, mj_ar, mj_aw, mq_cb, mq_oi, mj_rm, Value.category, -getElem?_pos, List.getElem?_cons_zero, decide_eq_true, decide_eq_false, nl_lt, nl_le, ln_lt, ln_le, nl_eq, ln_eq, nl_add, ln_add, nl_sub, ln_mul, nI_sub, nI_mul, nI_add, nI_lt_iff, nI_le_iff, nI_inj, nI_num, mq_ix, nI_1, nl_mul, nl_div, x0, ho, v2, w2, vf, p1, x1, p2, x2, p3, narrow]
  rw [if_neg c1]
  by_cases c2 : step = 2
  · subst c2
    rw [if_pos rfl]
    obtain ⟨M1, p1, z1, f1⟩ := kz_public (d := d + 5) z (nI k.1.2.2.2) (by omega)
    obtain ⟨u1, x1⟩ := z1.fa
    obtain ⟨M2, p2, z2, f2⟩ := ky_tt (d := d + 6) z1 1 (Or.inl rfl) (nI (tm_no T [2, nI k.1.2.2.2])) hr
    refine ⟨M2, _, ?_, z2, f1.trs f2⟩
    rw [show nI 1 = 1 from rfl] at p2
    simp (disch := (first | omega | decide)) [c142, s142_0, s142_1, s142_4, s142_5, s142_8, s142_9, s142_10, s142_13, s142_16, s142_17, s142_18, s142_19, s142_22, s142_23, s142_24, s142_27, s142_28, s142_29, s142_30, s142_31, s142_34, s142_35, s142_38, s142_39, s142_40, s142_43, s142_44, s142_47, s142_48, s142_51, s142_52, s142_55, s142_56, s142_57, s142_60, s142_63, s142_66, s142_67, s142_68, s142_69, s142_70, s142_73, s142_74, s142_75, s142_76, s142_79, s142_80, s142_83, s142_86, s142_89, s142_90, s142_91, s142_92, s142_95, s142_96, s142_99, s142_100, s142_103, s142_104, s142_107, s142_108, s142_111, s142_112, s142_113, s142_116, s142_119, s142_122, s142_125, s142_126, s142_129, s142_132, s142_133, s142_134, s142_135, s142_138, s142_139, s142_142, s142_145, s142_146, s142_149, s142_151, s142_153, s142_156, s142_158, s142_159, s142_160, s142_161, s142_164, s142_165, s142_166, s142_167, s142_168, s142_171, s142_172, s142_175, s142_176, s142_179, s142_182, s142_184, s142_185, s142_186, s142_187, s142_190, s142_191, s142_192, s142_195, s142_197, s142_199, s142_202, s142_203, s142_206, s142_209, s142_212, s142_214, s142_215, s142_216, s142_217, s142_220, s142_221, s142_222, s142_225, s142_226, s142_227, s142_230, s142_232, s142_235, s142_236, s142_239, s142_240, s142_243, s142_244, s142_247, s142_248, s142_251, s142_254, s142_255, s142_256, s142_257, s142_260, s142_263, s142_266, s142_267, mq_k0s, mq_k1s, mq_k2s, mq_k4s, mq_k5s, mq_k5n, mq_k5as, mq_k6s, mj_pu, mj_lo, mj_br, mj_hr, mj_hw, mq_gf, mq_len, mq_al, mq_pf, mq_ok, mj_re, mq_lkm, mq_lkn, mj_ldi, mj_ldl, mj_lda, mj_ii, mj_ll, mj_li, mj_i1, ms_1, ms_2, f1_n, f1_i, f1_r, f1_u, f1_l, f2_n, f2_i, f2_r, f2_u, f2_l, mj_tg, mj_c1, mj_c2, mj_ar, mj_aw, mq_cb, mq_oi, mj_rm, Value.category, -getElem?_pos, List.getElem?_cons_zero, decide_eq_true, decide_eq_false, nl_lt, nl_le, ln_lt, ln_le, nl_eq, ln_eq, nl_add, ln_add, nl_sub, ln_mul, nI_sub, nI_mul, nI_add, nI_lt_iff, nI_le_iff, nI_inj, nI_num, mq_ix, nI_1, nl_mul, nl_div, x0, ho, v2, w2, vf, p1, x1, p2, narrow]
  rw [if_neg c2]
  obtain ⟨y3, v3, a3⟩ := q_mem (d := d + 8) (num := 3) (by decide) hI
  have w3 := q_four (d := d + 7) hI a3
  have t3 := tx_secretOf (d := d + 7) z.t (o4 ms (mem ms 3))
  rw [show nI 3 = 3 from rfl] at v3
  obtain ⟨M1, p1, z1, f1⟩ := kz_agreed (d := d + 7) z (nI k.1.2.2.2) (tm_sec T.1 (o4 ms (mem ms 3)))
  obtain ⟨u1, x1⟩ := z1.fa
  have t4 := tx_known (d := d + 8) z1.t
  rw [show tm_ix T.1 (tm_agr (nI k.1.2.2.2) (tm_sec T.1 (o4 ms (mem ms 3)))) = pn_sh k T ms from rfl] at t4
  have hI1 := z.it f1 hI
  have hsl := tm_sh_le k T ms
  obtain ⟨M2, row2, p2, z2, f2⟩ := pn_fin (d := d) (sh := pn_sh k T ms) (l2 := 0) z1 hI1 hw hg hon hwr hf hr hok (by omega) (by omega)
  refine ⟨M2, row2, ?_, z2, f1.trs f2⟩
  simp (disch := (first | omega | decide)) [c142, s142_0, s142_1, s142_4, s142_5, s142_8, s142_9, s142_10, s142_13, s142_16, s142_17, s142_18, s142_19, s142_22, s142_23, s142_24, s142_27, s142_28, s142_29, s142_30, s142_31, s142_34, s142_35, s142_38, s142_39, s142_40, s142_43, s142_44, s142_47, s142_48, s142_51, s142_52, s142_55, s142_56, s142_57, s142_60, s142_63, s142_66, s142_67, s142_68, s142_69, s142_70, s142_73, s142_74, s142_75, s142_76, s142_79, s142_80, s142_83, s142_86, s142_89, s142_90, s142_91, s142_92, s142_95, s142_96, s142_99, s142_100, s142_103, s142_104, s142_107, s142_108, s142_111, s142_112, s142_113, s142_116, s142_119, s142_122, s142_125, s142_126, s142_129, s142_132, s142_134, s142_135, s142_138, s142_139, s142_142, s142_145, s142_146, s142_149, s142_151, s142_153, s142_156, s142_158, s142_159, s142_160, s142_161, s142_164, s142_165, s142_166, s142_167, s142_168, s142_171, s142_172, s142_175, s142_176, s142_179, s142_182, s142_184, s142_185, s142_186, s142_187, s142_190, s142_191, s142_192, s142_195, s142_197, s142_199, s142_202, s142_203, s142_206, s142_209, s142_212, s142_214, s142_215, s142_216, s142_217, s142_220, s142_221, s142_222, s142_225, s142_226, s142_227, s142_230, s142_232, s142_235, s142_236, s142_239, s142_240, s142_243, s142_244, s142_247, s142_248, s142_251, s142_254, s142_255, s142_256, s142_257, s142_260, s142_263, s142_266, s142_267, mq_k0s, mq_k1s, mq_k2s, mq_k4s, mq_k5s, mq_k5n, mq_k5as, mq_k6s, mj_pu, mj_lo, mj_br, mj_hr, mj_hw, mq_gf, mq_len, mq_al, mq_pf, mq_ok, mj_re, mq_lkm, mq_lkn, mj_ldi, mj_ldl, mj_lda, mj_ii, mj_ll, mj_li, mj_i1, ms_1, ms_2, f1_n, f1_i, f1_r, f1_u, f1_l, f2_n, f2_i, f2_r, f2_u, f2_l, mj_tg, mj_c1, mj_c2, mj_ar, mj_aw, mq_cb, mq_oi, mj_rm, Value.category, -getElem?_pos, List.getElem?_cons_zero, decide_eq_true, decide_eq_false, nl_lt, nl_le, ln_lt, ln_le, nl_eq, ln_eq, nl_add, ln_add, nl_sub, ln_mul, nI_sub, nI_mul, nI_add, nI_lt_iff, nI_le_iff, nI_inj, nI_num, mq_ix, nI_1, nl_mul, nl_div, x0, ho, v2, w2, vf, c1, c2, v3, w3, t3, p1, x1, t4]
  exact p2
end KZ
end
