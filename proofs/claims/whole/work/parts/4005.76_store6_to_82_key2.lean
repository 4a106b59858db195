/- 76.store6 -/
section
set_option maxRecDepth 512
/-! Class: Store: learning a record; writing. -/
/- 126 PasskeyHouse$Store.write(IIILPasskeyHouse$Credential;)Z -/
theorem s126_0 {d : Nat} {ls : mj_L} {st : List Value} {M : mj_H} : mj_Rn d mj_m126 0 ls st M = mq_k0 d mj_m126 1 ls M (mj_lda (mj_lk ls 0) st) := mj_R0 (r := (.aload_n 0, 1, 0, 0, 0)) rfl rfl
theorem s126_1 {d : Nat} {ls : mj_L} {st : List Value} {M : mj_H} : mj_Rn d mj_m126 1 ls st M = mq_k0 d mj_m126 2 ls M (mj_ldi (mj_lk ls 1) st) := mj_R0 (r := (.iload_n 1, 1, 0, 0, 0)) rfl rfl
theorem s126_2 {d : Nat} {ls : mj_L} {st : List Value} {M : mj_H} : mj_Rn d mj_m126 2 ls st M = mq_k0 d mj_m126 3 ls M (mj_ldi (mj_lk ls 2) st) := mj_R0 (r := (.iload_n 2, 1, 0, 0, 0)) rfl rfl
theorem s126_3 {d : Nat} {ls : mj_L} {st : List Value} {M : mj_H} : mj_Rn d mj_m126 3 ls st M = mq_k0 d mj_m126 4 ls M (mj_ldi (mj_lk ls 3) st) := mj_R0 (r := (.iload_n 3, 1, 0, 0, 0)) rfl rfl
theorem s126_4 {d : Nat} {ls : mj_L} {st : List Value} {M : mj_H} : mj_Rn d mj_m126 4 ls st M = mq_k0 d mj_m126 6 ls M (mj_lda (mj_lk ls 4) st) := mj_R0 (r := (.aload 4, 2, 0, 0, 0)) rfl rfl
theorem s126_6 {d : Nat} {ls : mj_L} {st : List Value} {M : mj_H} : mj_Rn (d + 1) mj_m126 6 ls st M = mq_k5a (d + 1) mj_m126 9 ls M 44 (mq_cb 0 4 8 st M) := mj_R5e (r := (.invokevirtual 54, 3, 0, 44, 12291)) (z := mj_m44) rfl rfl (by decide) (by decide) rfl
theorem s126_9 {d : Nat} {ls : mj_L} {st : List Value} {M : mj_H} : mj_Rn d mj_m126 9 ls st M = mq_k0 d mj_m126 10 ls M (mj_lda (mj_lk ls 0) st) := mj_R0 (r := (.aload_n 0, 1, 0, 0, 0)) rfl rfl
theorem s126_10 {d : Nat} {ls : mj_L} {st : List Value} {M : mj_H} : mj_Rn d mj_m126 10 ls st M = mq_k0 d mj_m126 13 ls M (mq_gf 8 1 st M) := (mj_R3 (r := (.getfield 20, 3, 8, 1, 16484)) rfl rfl).trans (congrArg (mq_k0 d mj_m126 13 ls M) mq_gf_eq)
theorem s126_13 {d : Nat} {ls : mj_L} {st : List Value} {M : mj_H} : mj_Rn (d + 1) mj_m126 13 ls st M = mq_k5a (d + 1) mj_m126 16 ls M 9 (mq_cb 0 0 1 st M) := mj_R5e (r := (.invokevirtual 58, 3, 0, 9, 12288)) (z := mj_m9) rfl rfl (by decide) (by decide) rfl
theorem s126_16 {d : Nat} {ls : mj_L} {st : List Value} {M : mj_H} : mj_Rn d mj_m126 16 ls st M = mq_k1 d mj_m126 18 M (mj_lo 6 (.istore 5) ls st) := mj_R1 (r := (.istore 5, 2, 0, 0, 0)) rfl rfl
theorem s126_18 {d : Nat} {ls : mj_L} {st : List Value} {M : mj_H} : mj_Rn d mj_m126 18 ls st M = mq_k0 d mj_m126 19 ls M (mj_lda (mj_lk ls 0) st) := mj_R0 (r := (.aload_n 0, 1, 0, 0, 0)) rfl rfl
theorem s126_19 {d : Nat} {ls : mj_L} {st : List Value} {M : mj_H} : mj_Rn d mj_m126 19 ls st M = mq_k0 d mj_m126 22 ls M (mq_gf 8 9 st M) := (mj_R3 (r := (.getfield 88, 3, 8, 9, 16508)) rfl rfl).trans (congrArg (mq_k0 d mj_m126 22 ls M) mq_gf_eq)
theorem s126_22 {d : Nat} {ls : mj_L} {st : List Value} {M : mj_H} : mj_Rn d mj_m126 22 ls st M = mq_k0 d mj_m126 24 ls M (mj_ldi (mj_lk ls 5) st) := mj_R0 (r := (.iload 5, 2, 0, 0, 0)) rfl rfl
theorem s126_24 {d : Nat} {ls : mj_L} {st : List Value} {M : mj_H} : mj_Rn d mj_m126 24 ls st M = mq_k0 d mj_m126 25 ls M (mj_pu .iadd ls st) := mj_R0 (r := (.iadd, 1, 0, 0, 0)) rfl rfl
theorem s126_25 {d : Nat} {ls : mj_L} {st : List Value} {M : mj_H} : mj_Rn d mj_m126 25 ls st M = mj_Rn d mj_m126 28 ls (.int 256 :: st) M := mj_R0 (r := (.sipush 256, 3, 0, 0, 0)) rfl rfl
theorem s126_28 {d : Nat} {ls : mj_L} {st : List Value} {M : mj_H} : mj_Rn d mj_m126 28 ls st M = mq_k2 d mj_m126 ls M (mj_br (.if_icmp .le 21) 28 st) := mj_R2 (r := (.if_icmp .le 21, 3, 0, 0, 0)) rfl rfl
theorem s126_31 {d : Nat} {ls : mj_L} {st : List Value} {M : mj_H} : mj_Rn d mj_m126 31 ls st M = mq_k0 d mj_m126 32 ls M (mj_lda (mj_lk ls 0) st) := mj_R0 (r := (.aload_n 0, 1, 0, 0, 0)) rfl rfl
theorem s126_32 {d : Nat} {ls : mj_L} {st : List Value} {M : mj_H} : mj_Rn (d + 1) mj_m126 32 ls st M = mq_k5a (d + 1) mj_m126 35 ls M 58 (mq_cb 0 0 8 st M) := mj_R5e (r := (.invokevirtual 101, 3, 0, 58, 12353)) (z := mj_m58) rfl rfl (by decide) (by decide) rfl
theorem s126_35 {d : Nat} {ls : mj_L} {st : List Value} {M : mj_H} : mj_Rn d mj_m126 35 ls st M = mq_k2 d mj_m126 ls M (mj_br (.ifCond .ne 5) 35 st) := mj_R2 (r := (.ifCond .ne 5, 3, 0, 0, 0)) rfl rfl
theorem s126_38 {d : Nat} {ls : mj_L} {st : List Value} {M : mj_H} : mj_Rn d mj_m126 38 ls st M = mj_Rn d mj_m126 39 ls (.int 0 :: st) M := mj_R0 (r := (.iconst 0, 1, 0, 0, 0)) rfl rfl
theorem s126_39 {d : Nat} {ls : mj_L} {st : List Value} {M : mj_H} : mj_Rn d mj_m126 39 ls st M = mq_k6 M (mj_re (some .boolean) (.ireturn) st) := mj_R6 (r := (.ireturn, 1, 0, 0, 0)) rfl rfl
theorem s126_40 {d : Nat} {ls : mj_L} {st : List Value} {M : mj_H} : mj_Rn d mj_m126 40 ls st M = mq_k0 d mj_m126 41 ls M (mj_lda (mj_lk ls 0) st) := mj_R0 (r := (.aload_n 0, 1, 0, 0, 0)) rfl rfl
theorem s126_41 {d : Nat} {ls : mj_L} {st : List Value} {M : mj_H} : mj_Rn d mj_m126 41 ls st M = mq_k0 d mj_m126 42 ls M (mj_ldi (mj_lk ls 1) st) := mj_R0 (r := (.iload_n 1, 1, 0, 0, 0)) rfl rfl
theorem s126_42 {d : Nat} {ls : mj_L} {st : List Value} {M : mj_H} : mj_Rn d mj_m126 42 ls st M = mq_k0 d mj_m126 43 ls M (mj_ldi (mj_lk ls 2) st) := mj_R0 (r := (.iload_n 2, 1, 0, 0, 0)) rfl rfl
theorem s126_43 {d : Nat} {ls : mj_L} {st : List Value} {M : mj_H} : mj_Rn d mj_m126 43 ls st M = mq_k0 d mj_m126 44 ls M (mj_ldi (mj_lk ls 3) st) := mj_R0 (r := (.iload_n 3, 1, 0, 0, 0)) rfl rfl
theorem s126_44 {d : Nat} {ls : mj_L} {st : List Value} {M : mj_H} : mj_Rn d mj_m126 44 ls st M = mq_k0 d mj_m126 46 ls M (mj_lda (mj_lk ls 4) st) := mj_R0 (r := (.aload 4, 2, 0, 0, 0)) rfl rfl
theorem s126_46 {d : Nat} {ls : mj_L} {st : List Value} {M : mj_H} : mj_Rn (d + 1) mj_m126 46 ls st M = mq_k5a (d + 1) mj_m126 49 ls M 44 (mq_cb 0 4 8 st M) := mj_R5e (r := (.invokevirtual 54, 3, 0, 44, 12291)) (z := mj_m44) rfl rfl (by decide) (by decide) rfl
theorem s126_49 {d : Nat} {ls : mj_L} {st : List Value} {M : mj_H} : mj_Rn d mj_m126 49 ls st M = mq_k0 d mj_m126 50 ls M (mj_lda (mj_lk ls 0) st) := mj_R0 (r := (.aload_n 0, 1, 0, 0, 0)) rfl rfl
theorem s126_50 {d : Nat} {ls : mj_L} {st : List Value} {M : mj_H} : mj_Rn d mj_m126 50 ls st M = mq_k0 d mj_m126 53 ls M (mq_gf 8 9 st M) := (mj_R3 (r := (.getfield 88, 3, 8, 9, 16508)) rfl rfl).trans (congrArg (mq_k0 d mj_m126 53 ls M) mq_gf_eq)
theorem s126_53 {d : Nat} {ls : mj_L} {st : List Value} {M : mj_H} : mj_Rn d mj_m126 53 ls st M = mq_k0 d mj_m126 55 ls M (mj_ldi (mj_lk ls 5) st) := mj_R0 (r := (.iload 5, 2, 0, 0, 0)) rfl rfl
theorem s126_55 {d : Nat} {ls : mj_L} {st : List Value} {M : mj_H} : mj_Rn d mj_m126 55 ls st M = mq_k0 d mj_m126 56 ls M (mj_pu .iadd ls st) := mj_R0 (r := (.iadd, 1, 0, 0, 0)) rfl rfl
theorem s126_56 {d : Nat} {ls : mj_L} {st : List Value} {M : mj_H} : mj_Rn d mj_m126 56 ls st M = mj_Rn d mj_m126 59 ls (.int 256 :: st) M := mj_R0 (r := (.sipush 256, 3, 0, 0, 0)) rfl rfl
theorem s126_59 {d : Nat} {ls : mj_L} {st : List Value} {M : mj_H} : mj_Rn d mj_m126 59 ls st M = mq_k2 d mj_m126 ls M (mj_br (.if_icmp .gt 23) 59 st) := mj_R2 (r := (.if_icmp .gt 23, 3, 0, 0, 0)) rfl rfl
theorem s126_62 {d : Nat} {ls : mj_L} {st : List Value} {M : mj_H} : mj_Rn d mj_m126 62 ls st M = mq_k0 d mj_m126 63 ls M (mj_lda (mj_lk ls 0) st) := mj_R0 (r := (.aload_n 0, 1, 0, 0, 0)) rfl rfl
theorem s126_63 {d : Nat} {ls : mj_L} {st : List Value} {M : mj_H} : mj_Rn d mj_m126 63 ls st M = mq_k0 d mj_m126 64 ls M (mj_lda (mj_lk ls 0) st) := mj_R0 (r := (.aload_n 0, 1, 0, 0, 0)) rfl rfl
theorem s126_64 {d : Nat} {ls : mj_L} {st : List Value} {M : mj_H} : mj_Rn d mj_m126 64 ls st M = mq_k0 d mj_m126 67 ls M (mq_gf 8 7 st M) := (mj_R3 (r := (.getfield 73, 3, 8, 7, 16504)) rfl rfl).trans (congrArg (mq_k0 d mj_m126 67 ls M) mq_gf_eq)
theorem s126_67 {d : Nat} {ls : mj_L} {st : List Value} {M : mj_H} : mj_Rn d mj_m126 67 ls st M = mj_Rn d mj_m126 70 ls (.int 256 :: st) M := mj_R0 (r := (.sipush 256, 3, 0, 0, 0)) rfl rfl
theorem s126_70 {d : Nat} {ls : mj_L} {st : List Value} {M : mj_H} : mj_Rn d mj_m126 70 ls st M = mq_k0 d mj_m126 71 ls M (mj_pu .imul ls st) := mj_R0 (r := (.imul, 1, 0, 0, 0)) rfl rfl
theorem s126_71 {d : Nat} {ls : mj_L} {st : List Value} {M : mj_H} : mj_Rn d mj_m126 71 ls st M = mq_k0 d mj_m126 72 ls M (mj_lda (mj_lk ls 0) st) := mj_R0 (r := (.aload_n 0, 1, 0, 0, 0)) rfl rfl
theorem s126_72 {d : Nat} {ls : mj_L} {st : List Value} {M : mj_H} : mj_Rn d mj_m126 72 ls st M = mq_k0 d mj_m126 75 ls M (mq_gf 8 9 st M) := (mj_R3 (r := (.getfield 88, 3, 8, 9, 16508)) rfl rfl).trans (congrArg (mq_k0 d mj_m126 75 ls M) mq_gf_eq)
theorem s126_75 {d : Nat} {ls : mj_L} {st : List Value} {M : mj_H} : mj_Rn d mj_m126 75 ls st M = mq_k0 d mj_m126 76 ls M (mj_pu .iadd ls st) := mj_R0 (r := (.iadd, 1, 0, 0, 0)) rfl rfl
theorem s126_76 {d : Nat} {ls : mj_L} {st : List Value} {M : mj_H} : mj_Rn (d + 1) mj_m126 76 ls st M = mq_k5a (d + 1) mj_m126 79 ls M 64 (mq_cb 0 1 8 st M) := mj_R5e (r := (.invokevirtual 192, 3, 0, 64, 12377)) (z := mj_m64) rfl rfl (by decide) (by decide) rfl
theorem s126_79 {d : Nat} {ls : mj_L} {st : List Value} {M : mj_H} : mj_Rn d mj_m126 79 ls st M = mq_k2 d mj_m126 ls M (mj_br (.ifCond .ne 5) 79 st) := mj_R2 (r := (.ifCond .ne 5, 3, 0, 0, 0)) rfl rfl
theorem s126_82 {d : Nat} {ls : mj_L} {st : List Value} {M : mj_H} : mj_Rn d mj_m126 82 ls st M = mj_Rn d mj_m126 83 ls (.int 0 :: st) M := mj_R0 (r := (.iconst 0, 1, 0, 0, 0)) rfl rfl
theorem s126_83 {d : Nat} {ls : mj_L} {st : List Value} {M : mj_H} : mj_Rn d mj_m126 83 ls st M = mq_k6 M (mj_re (some .boolean) (.ireturn) st) := mj_R6 (r := (.ireturn, 1, 0, 0, 0)) rfl rfl
theorem s126_84 {d : Nat} {ls : mj_L} {st : List Value} {M : mj_H} : mj_Rn d mj_m126 84 ls st M = mq_k0 d mj_m126 85 ls M (mj_lda (mj_lk ls 0) st) := mj_R0 (r := (.aload_n 0, 1, 0, 0, 0)) rfl rfl
theorem s126_85 {d : Nat} {ls : mj_L} {st : List Value} {M : mj_H} : mj_Rn d mj_m126 85 ls st M = mq_k0 d mj_m126 86 ls M (mj_lda (mj_lk ls 0) st) := mj_R0 (r := (.aload_n 0, 1, 0, 0, 0)) rfl rfl
theorem s126_86 {d : Nat} {ls : mj_L} {st : List Value} {M : mj_H} : mj_Rn d mj_m126 86 ls st M = mq_k0 d mj_m126 89 ls M (mq_gf 8 9 st M) := (mj_R3 (r := (.getfield 88, 3, 8, 9, 16508)) rfl rfl).trans (congrArg (mq_k0 d mj_m126 89 ls M) mq_gf_eq)
theorem s126_89 {d : Nat} {ls : mj_L} {st : List Value} {M : mj_H} : mj_Rn (d + 1) mj_m126 89 ls st M = mq_k5a (d + 1) mj_m126 92 ls M 52 (mq_cb 0 1 8 st M) := mj_R5e (r := (.invokevirtual 94, 3, 0, 52, 12328)) (z := mj_m52) rfl rfl (by decide) (by decide) rfl
theorem s126_92 {d : Nat} {ls : mj_L} {st : List Value} {M : mj_H} : mj_Rn d mj_m126 92 ls st M = mq_k0 d mj_m126 93 ls M (mj_lda (mj_lk ls 0) st) := mj_R0 (r := (.aload_n 0, 1, 0, 0, 0)) rfl rfl
theorem s126_93 {d : Nat} {ls : mj_L} {st : List Value} {M : mj_H} : mj_Rn d mj_m126 93 ls st M = mq_k0 d mj_m126 94 ls M (mj_pu .dup ls st) := mj_R0 (r := (.dup, 1, 0, 0, 0)) rfl rfl
theorem s126_94 {d : Nat} {ls : mj_L} {st : List Value} {M : mj_H} : mj_Rn d mj_m126 94 ls st M = mq_k0 d mj_m126 97 ls M (mq_gf 8 9 st M) := (mj_R3 (r := (.getfield 88, 3, 8, 9, 16508)) rfl rfl).trans (congrArg (mq_k0 d mj_m126 97 ls M) mq_gf_eq)
theorem s126_97 {d : Nat} {ls : mj_L} {st : List Value} {M : mj_H} : mj_Rn d mj_m126 97 ls st M = mq_k0 d mj_m126 99 ls M (mj_ldi (mj_lk ls 5) st) := mj_R0 (r := (.iload 5, 2, 0, 0, 0)) rfl rfl
theorem s126_99 {d : Nat} {ls : mj_L} {st : List Value} {M : mj_H} : mj_Rn d mj_m126 99 ls st M = mq_k0 d mj_m126 100 ls M (mj_pu .iadd ls st) := mj_R0 (r := (.iadd, 1, 0, 0, 0)) rfl rfl
theorem s126_100 {d : Nat} {ls : mj_L} {st : List Value} {M : mj_H} : mj_Rn d mj_m126 100 ls st M = mq_k4 d mj_m126 103 ls (mq_pf 8 9 0 st M) := (mj_R4 (r := (.putfield 88, 3, 8, 9, 16508)) rfl rfl).trans (congrArg (mq_k4 d mj_m126 103 ls) (mq_pf_eq rfl rfl))
theorem s126_103 {d : Nat} {ls : mj_L} {st : List Value} {M : mj_H} : mj_Rn d mj_m126 103 ls st M = mj_Rn d mj_m126 104 ls (.int 1 :: st) M := mj_R0 (r := (.iconst 1, 1, 0, 0, 0)) rfl rfl
theorem s126_104 {d : Nat} {ls : mj_L} {st : List Value} {M : mj_H} : mj_Rn d mj_m126 104 ls st M = mq_k6 M (mj_re (some .boolean) (.ireturn) st) := mj_R6 (r := (.ireturn, 1, 0, 0, 0)) rfl rfl
/- 155 PasskeyHouse$Store.reset(I)Z -/
theorem s155_0 {d : Nat} {ls : mj_L} {st : List Value} {M : mj_H} : mj_Rn d mj_m155 0 ls st M = mq_k0 d mj_m155 1 ls M (mj_lda (mj_lk ls 0) st) := mj_R0 (r := (.aload_n 0, 1, 0, 0, 0)) rfl rfl
theorem s155_1 {d : Nat} {ls : mj_L} {st : List Value} {M : mj_H} : mj_Rn (d + 1) mj_m155 1 ls st M = mq_k5a (d + 1) mj_m155 4 ls M 50 (mq_cb 0 0 8 st M) := mj_R5e (r := (.invokevirtual 85, 3, 0, 50, 12316)) (z := mj_m50) rfl rfl (by decide) (by decide) rfl
theorem s155_4 {d : Nat} {ls : mj_L} {st : List Value} {M : mj_H} : mj_Rn d mj_m155 4 ls st M = mq_k0 d mj_m155 5 ls M (mj_lda (mj_lk ls 0) st) := mj_R0 (r := (.aload_n 0, 1, 0, 0, 0)) rfl rfl
theorem s155_5 {d : Nat} {ls : mj_L} {st : List Value} {M : mj_H} : mj_Rn d mj_m155 5 ls st M = mq_k0 d mj_m155 6 ls M (mj_ldi (mj_lk ls 1) st) := mj_R0 (r := (.iload_n 1, 1, 0, 0, 0)) rfl rfl
theorem s155_6 {d : Nat} {ls : mj_L} {st : List Value} {M : mj_H} : mj_Rn d mj_m155 6 ls st M = mq_k4 d mj_m155 9 ls (mq_pf 8 10 0 st M) := (mj_R4 (r := (.putfield 112, 3, 8, 10, 16510)) rfl rfl).trans (congrArg (mq_k4 d mj_m155 9 ls) (mq_pf_eq rfl rfl))
theorem s155_9 {d : Nat} {ls : mj_L} {st : List Value} {M : mj_H} : mj_Rn d mj_m155 9 ls st M = mq_k0 d mj_m155 10 ls M (mj_lda (mj_lk ls 0) st) := mj_R0 (r := (.aload_n 0, 1, 0, 0, 0)) rfl rfl
theorem s155_10 {d : Nat} {ls : mj_L} {st : List Value} {M : mj_H} : mj_Rn (d + 1) mj_m155 10 ls st M = mq_k5a (d + 1) mj_m155 13 ls M 58 (mq_cb 0 0 8 st M) := mj_R5e (r := (.invokevirtual 101, 3, 0, 58, 12353)) (z := mj_m58) rfl rfl (by decide) (by decide) rfl
theorem s155_13 {d : Nat} {ls : mj_L} {st : List Value} {M : mj_H} : mj_Rn d mj_m155 13 ls st M = mq_k6 M (mj_re (some .boolean) (.ireturn) st) := mj_R6 (r := (.ireturn, 1, 0, 0, 0)) rfl rfl
theorem c126 {d : Nat} {a0 : Nat} {x1 : Int32} {x2 : Int32} {x3 : Int32} {a4 : Nat} {M : mj_H} : mj_V (d + 1) 126 [.ref a0, .int x1, .int x2, .int x3, .ref a4] M = mj_Rn d mj_m126 0 [(0, .ref a0), (1, .int x1), (2, .int x2), (3, .int x3), (4, .ref a4)] [] M := mj_V_go rfl (Nat.le_of_ble_eq_true rfl)
theorem c126n4 {d : Nat} {a0 : Nat} {x1 : Int32} {x2 : Int32} {x3 : Int32} {M : mj_H} : mj_V (d + 1) 126 [.ref a0, .int x1, .int x2, .int x3, .null] M = mj_Rn d mj_m126 0 [(0, .ref a0), (1, .int x1), (2, .int x2), (3, .int x3), (4, .null)] [] M := mj_V_go rfl (Nat.le_of_ble_eq_true rfl)
theorem c155 {d : Nat} {a0 : Nat} {x1 : Int32} {M : mj_H} : mj_V (d + 1) 155 [.ref a0, .int x1] M = mj_Rn d mj_m155 0 [(0, .ref a0), (1, .int x1)] [] M := mj_V_go rfl (Nat.le_of_ble_eq_true rfl)
theorem st_lcred {d κ b w : Nat} {s : Fl} {r : List Int32} {M : mj_H} (h : ks M κ s r) (hu : okU s.2.2.2.2.2.2.2.2.2.2.2) (hfl : s.1.length = 512) (hb : b + 12 + w ≤ 512) (hw : w ≤ 8) {c : Cr} (hc : c = ((w4 ((s.1.drop b).take 4), (w4 ((s.1.drop (b + 4)).take 4), (w4 ((s.1.drop (b + 8)).take 4), ((s.1.drop (b + 12)).take w, 0)))) : Cr)) (hpl : fs_pl s.2.2.2.2.2.2.2.2.2.2.2 c.2.1 c.2.2.2.1 < 8) : ∃ M', mj_V (d + 2) 55 [.ref (κ + 1), .int (nI b), .int (nI w)] M = some (none, M') ∧ ks M' κ ((s.1, (s.2.1, (s.2.2.1, (s.2.2.2.1, (s.2.2.2.2.1, (s.2.2.2.2.2.1, (s.2.2.2.2.2.2.1, fs_cred s.2.2.2.2.2.2.2 c))))))) : Fl) r ∧ kf κ M M' := by
  have hob := h.ob
  unfold so at hob
  have hca := h.ce.2.2.2.2.2.1
  have h8 := h.ce.2.2.2.2.1
  obtain ⟨wp, pp, ep⟩ := v_low (d := d) h.ce (p := b + 4) (n := 4) (by omega)
  obtain ⟨wu, pu, eu⟩ := v_low (d := d) h.ce (p := b + 12) (n := w) (by omega)
  obtain ⟨wi, pi, ei⟩ := v_low (d := d) h.ce (p := b) (n := 4) (by omega)
  have ep := ep (by omega)
  have eu := eu (by omega)
  have ei := ei (by omega)
  have eP : wp.toInt32 = c.2.1 := by rw [ep, w4_lo _ (sl_by h8 _ _) (by rw [sl_len (by omega)]; omega), hc]
  have eI : wi.toInt32 = c.1 := by rw [ei, w4_lo _ (sl_by h8 _ _) (by rw [sl_len (by omega)]; omega), hc]
  have eU : wu = bt_lo c.2.2.2.1 := by rw [eu, hc]
  have eW : c.2.2.2.1.length = w := by rw [hc]; exact sl_len (by omega)
  have hC : c.2.2.2.2 = 0 := by rw [hc]
  have hpv := st_place (d := d) (party := c.2.1) (u := c.2.2.2.1) h hu (by omega) (by rw [hc]; exact sl_by h8 _ _)
  generalize hpe : fs_pl s.2.2.2.2.2.2.2.2.2.2.2 c.2.1 c.2.2.2.1 = pl at *
  have hple : pl ≤ s.2.2.2.2.2.2.2.2.2.2.2.length := by rw [← hpe]; exact List.findIdx_le_length
  have ha : M[κ + 6]? = some (1007, kl κ) := h.ca
  have e1 := kl_at (κ := κ) hpl
  have e2 := kl_len (κ := κ)
  obtain ⟨c0, hc0⟩ := h.cx pl hpl
  have hlx := mq_lt hc0
  have hl1 := mq_lt h.ob
  unfold cc at hc0
  have hlo := h.lo
  let q2 : mj_C := (2, [.int c.1, .int c.2.1, .int c0.2.2.1, .long (bt_lo c0.2.2.2.1), .int (nI c0.2.2.2.1.length), .int c0.2.2.2.2])
  have b2 : bb (M.set (κ + 7 + pl) q2) (κ + 2) (κ + 3) 512 s.1 := h.ce.fr (List.getElem?_set_ne (by omega)) (List.getElem?_set_ne (by omega))
  obtain ⟨ws, ps, es⟩ := v_low (d := d) b2 (p := b + 8) (n := 4) (by omega)
  have es := es (by omega)
  have eS : ws.toInt32 = c.2.2.1 := by rw [es, w4_lo _ (sl_by h8 _ _) (by rw [sl_len (by omega)]; omega), hc]
  have n1 : ¬ κ + 7 + pl = κ + 1 := by omega
  have n2 : ¬ κ + 7 + pl = κ + 2 := by omega
  have n3 : ¬ κ + 7 + pl < 25 := by omega
  have n4' : ¬ κ + 1 < 25 := by omega
  have n5 : ¬ κ + 7 + pl = κ + 6 := by omega
  rw [n4] at pp pi ps
  generalize kl κ = zs at *
  have h8' := h.l8
  rw [eU] at pu
  rw [eW] at hpv
  have fin : mj_V (d + 2) 55 [.ref (κ + 1), .int (nI b), .int (nI w)] M = some (none, (M.set (κ + 7 + pl) (cc c)).set (κ + 1) (so κ ((s.1, (s.2.1, (s.2.2.1, (s.2.2.2.1, (s.2.2.2.2.1, (s.2.2.2.2.2.1, (s.2.2.2.2.2.2.1, fs_cred s.2.2.2.2.2.2.2 c))))))) : Fl))) := by
    have ec : cc c = (2, [.int c.1, .int c.2.1, .int c.2.2.1, .long (bt_lo c.2.2.2.1), .int (nI w), .int 0]) := by rw [cc, eW, hC]
    have em : (if s.2.2.2.2.2.2.2.2.2.2.2.length < pl + 1 then nI (pl + 1) else nI s.2.2.2.2.2.2.2.2.2.2.2.length) = nI (fs_cred s.2.2.2.2.2.2.2 c).2.2.2.2.length := by
      simp only [fs_cred, hpe]
      by_cases hz : pl < s.2.2.2.2.2.2.2.2.2.2.2.length
      · rw [if_pos hz, if_neg (by omega)]; simp
      · rw [if_neg hz, if_pos (by omega)]; simp; congr 1; omega
    have eo : so κ ((s.1, (s.2.1, (s.2.2.1, (s.2.2.2.1, (s.2.2.2.2.1, (s.2.2.2.2.2.1, (s.2.2.2.2.2.2.1, fs_cred s.2.2.2.2.2.2.2 c))))))) : Fl) = (8, [.ref (κ + 2), .ref (κ + 4), .ref (κ + 6), .ref (κ + 15), .int (if s.2.1 then 1 else 0), .int s.2.2.1, .int s.2.2.2.1, .int (nI s.2.2.2.2.1), .int (nI s.2.2.2.2.2.1), .int (nI s.2.2.2.2.2.2.1), .int s.2.2.2.2.2.2.2.1, .int s.2.2.2.2.2.2.2.2.1, .int s.2.2.2.2.2.2.2.2.2.1, .int s.2.2.2.2.2.2.2.2.2.2.1, .int (nI (fs_cred s.2.2.2.2.2.2.2 c).2.2.2.2.length)]) := rfl
    rw [ec, eo]
    simp (disch := (first | omega | decide)) [c55, s55_0, s55_1, s55_4, s55_5, s55_6, s55_7, s55_8, s55_11, s55_12, s55_13, s55_14, s55_17, s55_18, s55_20, s55_21, s55_22, s55_25, s55_27, s55_28, s55_29, s55_31, s55_32, s55_35, s55_37, s55_39, s55_42, s55_44, s55_45, s55_48, s55_49, s55_52, s55_53, s55_56, s55_58, s55_59, s55_62, s55_63, s55_64, s55_67, s55_69, s55_70, s55_72, s55_74, s55_75, s55_78, s55_79, s55_80, s55_83, s55_84, s55_87, s55_89, s55_90, s55_93, s55_95, s55_96, s55_99, s55_100, s55_102, s55_103, s55_104, s55_107, s55_108, s55_111, s55_113, s55_115, s55_118, s55_120, s55_121, s55_124, s55_126, s55_127, s55_130, s55_131, s55_132, s55_135, s55_137, s55_138, s55_139, s55_142, s55_145, mq_k0s, mq_k1s, mq_k2s, mq_k4s, mq_k5s, mq_k5n, mq_k5as, mq_k6s, mj_pu, mj_lo, mj_br, mj_hr, mj_hw, mq_gf, mq_len, mq_al, mq_pf, mq_ok, mj_re, mq_lkm, mq_lkn, mj_ldi, mj_ldl, mj_lda, mj_ii, mj_ll, mj_li, mj_i1, ms_1, ms_2, f1_n, f1_i, f1_r, f1_u, f1_l, f2_n, f2_i, f2_r, f2_u, f2_l, mj_tg, mj_c1, mj_c2, mj_ar, mj_aw, mq_cb, mq_oi, mj_rm, Value.category, -getElem?_pos, List.getElem?_cons_zero, decide_eq_true, decide_eq_false, nl_lt, nl_le, ln_lt, ln_le, nl_eq, ln_eq, nl_add, ln_add, nl_sub, ln_mul, nI_sub, nI_mul, nI_add, nI_lt_iff, nI_le_iff, nI_inj, nI_num, mq_ix, nI_1, nl_mul, nl_div, nL_lt, nL_le, nL_eq, nL_l, nL_i, nLl_lt, nLl_le, nLl_eq, lnL_lt, lnL_le, lg_cmp_ge, lg_cmp_le, lg_cmp_gt, lg_cmp_lt, lg_cmp_eq, hob, hca, ha, e1, e2, pp, eP, pu, hpv, pi, eI, hc0, ps, eS, j_max, narrow, mj_E, n1, n2, n3, n4', n5, hlx, hl1, List.getElem?_set, q2, em]
  refine ⟨_, fin, ?_, (kf.st (by omega)).tr (kf.st (by omega))⟩
  by_cases hz : pl < s.2.2.2.2.2.2.2.2.2.2.2.length
  · have k1 := h.cred (c := c) hz
    have k2 := k1.set (s' := ((s.1, (s.2.1, (s.2.2.1, (s.2.2.2.1, (s.2.2.2.2.1, (s.2.2.2.2.2.1, (s.2.2.2.2.2.2.1, fs_cred s.2.2.2.2.2.2.2 c))))))) : Fl)) rfl (by simp only [fs_cred, hpe]; rw [if_pos hz])
    exact k2
  · have hpq : pl = s.2.2.2.2.2.2.2.2.2.2.2.length := by omega
    subst hpq
    have k1 := h.more (c := c) hpl
    have e3 : fs_cred s.2.2.2.2.2.2.2 c = ((s.2.2.2.2.2.2.2.1, (s.2.2.2.2.2.2.2.2.1, (s.2.2.2.2.2.2.2.2.2.1, (s.2.2.2.2.2.2.2.2.2.2.1, s.2.2.2.2.2.2.2.2.2.2.2 ++ [c])))) : St) := by simp only [fs_cred, hpe]; rw [if_neg (by omega)]
    rw [e3]
    exact k1
def isRec (r : List Int32) : Prop := (fs_kl (uN (r.getD 0 0)) (uN (r.getD 1 0)) = true) ∧ (r.length = uN (r.getD 1 0) + 4)
theorem isRec.kl {r : List Int32} (hh_ : isRec r) : fs_kl (uN (r.getD 0 0)) (uN (r.getD 1 0)) = true := hh_.1
theorem isRec.ln {r : List Int32} (hh_ : isRec r) : r.length = uN (r.getD 1 0) + 4 := hh_.2
theorem isRec_mk_ {r : List Int32} (f_0_ : fs_kl (uN (r.getD 0 0)) (uN (r.getD 1 0)) = true) (f_1_ : r.length = uN (r.getD 1 0) + 4) : isRec r := And.intro f_0_ f_1_
theorem fs_kl_le {k n : Nat} (h : fs_kl k n = true) : 1 ≤ k ∧ k ≤ 5 ∧ 1 ≤ n ∧ n ≤ 20 := by
  unfold fs_kl at h
  simp at h
  omega
theorem sl_sub {fl r : List Int32} {p i n : Nat} (hc : (fl.drop p).take r.length = r) (hi : i + n ≤ r.length) : (fl.drop (p + i)).take n = (r.drop i).take n := by
  conv => rhs; rw [← hc]
  rw [List.drop_take, List.take_take, List.drop_drop, Nat.min_eq_left (by omega)]
theorem sl_at {fl r : List Int32} {p i : Nat} (hc : (fl.drop p).take r.length = r) (hi : i < r.length) (hp : p + r.length ≤ fl.length) (u : Int32) : fl.getD (p + i) (-1) = r.getD i u := by
  have : r[i]? = fl[p + i]? := by
    conv => lhs; rw [← hc]
    rw [List.getElem?_take, if_pos hi, List.getElem?_drop]
  simp only [List.getD, this]
  rw [List.getElem?_eq_getElem (by omega)]; rfl
theorem st_learn {d κ p : Nat} {s : Fl} {r0 r : List Int32} {M : mj_H} (h : ks M κ s r0) (hu : okU s.2.2.2.2.2.2.2.2.2.2.2) (hfl : s.1.length = 512) (ha : s.2.2.2.2.1 ≤ 1) (hr : isRec r) (hp : p + r.length ≤ 256) (hc : (s.1.drop (s.2.2.2.2.1 * 256 + p)).take r.length = r) (hl8 : (fs_lrn s.2.2.2.2.2.2.2 r).2.2.2.2.length ≤ 8) : ∃ M', mj_V (d + 3) 52 [.ref (κ + 1), .int (nI p)] M = some (none, M') ∧ ks M' κ ((s.1, (s.2.1, (s.2.2.1, (s.2.2.2.1, (s.2.2.2.2.1, (s.2.2.2.2.2.1, (s.2.2.2.2.2.2.1, fs_lrn s.2.2.2.2.2.2.2 r))))))) : Fl) r0 ∧ kf κ M M' := by
  have hob := h.ob
  unfold so at hob
  have hca := h.ce.2.2.2.2.2.1
  have h8 := h.ce.2.2.2.2.1
  have hlo := h.lo
  have hl := mq_lt h.ob
  have hh : ¬ κ + 1 < 25 := by omega
  have hk := fs_kl_le hr.kl
  have hln := hr.ln
  have g0 := sl_at hc (i := 0) (by omega) (by omega) 0
  have g1 := sl_at hc (i := 1) (by omega) (by omega) 0
  have v0 := v_item (d := d + 1) h.ce (nI (s.2.2.2.2.1 * 256 + p))
  have v1 := v_item (d := d + 1) h.ce (nI (s.2.2.2.2.1 * 256 + p + 1))
  rw [bt_at_nI (by omega)] at v0 v1
  rw [Nat.add_zero] at g0
  rw [g0] at v0
  rw [g1] at v1
  obtain ⟨n, hn, en⟩ := by_in h8 (p := s.2.2.2.2.1 * 256 + p + 1) (by omega) (-1)
  rw [g1] at en
  obtain ⟨k, hk2, ek⟩ := by_in h8 (p := s.2.2.2.2.1 * 256 + p) (by omega) (-1)
  rw [g0] at ek
  have hkl := hr.kl
  rw [ek, en, uN_nI, uN_nI, Nat.mod_eq_of_lt (by omega), Nat.mod_eq_of_lt (by omega)] at hkl
  rw [en, uN_nI, Nat.mod_eq_of_lt (by omega)] at hln
  have four : ∀ i, i + 4 ≤ r.length → ∀ d, mj_V (d + 2) 53 [.ref (κ + 2), .int (nI (s.2.2.2.2.1 * 256 + p + i))] M = some (some (.int (w4a r i)), M) := by
    intro i hi d
    obtain ⟨w, hw, e⟩ := v_four (d := d) h.ce (p := s.2.2.2.2.1 * 256 + p + i) (by omega)
    have e := e (by omega)
    rw [sl_sub hc hi, w4_lo _ (by rw [← sl_sub hc hi]; exact sl_by h8 _ _) (by simp; omega)] at e
    rw [hw, e]; rfl
  rw [ek] at v0
  have hkk := fs_kl_le hkl
  rcases (show k = 1 ∨ k = 2 ∨ k = 3 ∨ k = 4 ∨ k = 5 by omega) with rfl | rfl | rfl | rfl | rfl
  · have hn4 : n = 4 := by simpa [fs_kl] using hkl
    have f1 := four 2 (by omega) d
    have el : fs_lrn s.2.2.2.2.2.2.2 r = ((w4a r 2, (s.2.2.2.2.2.2.2.2.1, (s.2.2.2.2.2.2.2.2.2.1, (s.2.2.2.2.2.2.2.2.2.2.1, s.2.2.2.2.2.2.2.2.2.2.2)))) : St) := by unfold fs_lrn; rw [ek]; rfl
    rw [el] at hl8 ⊢
    have k1 := h.set (s' := ((s.1, (s.2.1, (s.2.2.1, (s.2.2.2.1, (s.2.2.2.2.1, (s.2.2.2.2.2.1, (s.2.2.2.2.2.2.1, ((w4a r 2, (s.2.2.2.2.2.2.2.2.1, (s.2.2.2.2.2.2.2.2.2.1, (s.2.2.2.2.2.2.2.2.2.2.1, s.2.2.2.2.2.2.2.2.2.2.2)))) : St)))))))) : Fl)) rfl rfl
    refine ⟨_, ?_, k1, kf.st (by omega)⟩
    rw [show nI 1 = 1 from rfl] at v0
    simp (disch := (first | omega | decide)) [c52, s52_0, s52_1, s52_4, s52_7, s52_8, s52_9, s52_10, s52_11, s52_12, s52_13, s52_14, s52_15, s52_16, s52_19, s52_20, s52_23, s52_56, s52_57, s52_58, s52_61, s52_62, s52_65, s52_68, s52_71, s52_72, s52_73, s52_76, s52_77, s52_80, s52_83, s52_84, s52_86, s52_89, s52_92, s52_93, s52_94, s52_97, s52_98, s52_101, s52_104, s52_107, s52_108, s52_109, s52_112, s52_113, s52_116, s52_117, s52_120, s52_121, s52_122, s52_123, s52_126, s52_129, s52_132, s52_133, s52_134, s52_135, s52_138, s52_139, s52_140, s52_141, s52_144, s52_146, s52_147, s52_150, s52_153, mq_k0s, mq_k1s, mq_k2s, mq_k4s, mq_k5s, mq_k5n, mq_k5as, mq_k6s, mj_pu, mj_lo, mj_br, mj_hr, mj_hw, mq_gf, mq_len, mq_al, mq_pf, mq_ok, mj_re, mq_lkm, mq_lkn, mj_ldi, mj_ldl, mj_lda, mj_ii, mj_ll, mj_li, mj_i1, ms_1, ms_2, f1_n, f1_i, f1_r, f1_u, f1_l, f2_n, f2_i, f2_r, f2_u, f2_l, mj_tg, mj_c1, mj_c2, mj_ar, mj_aw, mq_cb, mq_oi, mj_rm, Value.category, -getElem?_pos, List.getElem?_cons_zero, decide_eq_true, decide_eq_false, nl_lt, nl_le, ln_lt, ln_le, nl_eq, ln_eq, nl_add, ln_add, nl_sub, ln_mul, nI_sub, nI_mul, nI_add, nI_lt_iff, nI_le_iff, nI_inj, nI_num, mq_ix, nI_1, nl_mul, nl_div, hob, hca, v0, f1, narrow, mj_E, hh, hl, so]
  · have hn4 : n = 4 := by simpa [fs_kl] using hkl
    have f1 := four 2 (by omega) d
    have el : fs_lrn s.2.2.2.2.2.2.2 r = ((s.2.2.2.2.2.2.2.1, (w4a r 2, (8, (s.2.2.2.2.2.2.2.2.2.2.1, s.2.2.2.2.2.2.2.2.2.2.2)))) : St) := by unfold fs_lrn; rw [ek]; rfl
    rw [el] at hl8 ⊢
    have k1 := h.set (s' := ((s.1, (s.2.1, (s.2.2.1, (s.2.2.2.1, (s.2.2.2.2.1, (s.2.2.2.2.2.1, (s.2.2.2.2.2.2.1, ((s.2.2.2.2.2.2.2.1, (w4a r 2, (8, (s.2.2.2.2.2.2.2.2.2.2.1, s.2.2.2.2.2.2.2.2.2.2.2)))) : St)))))))) : Fl)) rfl rfl
    refine ⟨_, ?_, k1, kf.st (by omega)⟩
    rw [show nI 2 = 2 from rfl] at v0
    simp (disch := (first | omega | decide)) [c52, s52_0, s52_1, s52_4, s52_7, s52_8, s52_9, s52_10, s52_11, s52_12, s52_13, s52_14, s52_15, s52_16, s52_19, s52_20, s52_23, s52_56, s52_57, s52_58, s52_61, s52_62, s52_65, s52_68, s52_71, s52_72, s52_73, s52_76, s52_77, s52_80, s52_83, s52_84, s52_86, s52_89, s52_92, s52_93, s52_94, s52_97, s52_98, s52_101, s52_104, s52_107, s52_108, s52_109, s52_112, s52_113, s52_116, s52_117, s52_120, s52_121, s52_122, s52_123, s52_126, s52_129, s52_132, s52_133, s52_134, s52_135, s52_138, s52_139, s52_140, s52_141, s52_144, s52_146, s52_147, s52_150, s52_153, mq_k0s, mq_k1s, mq_k2s, mq_k4s, mq_k5s, mq_k5n, mq_k5as, mq_k6s, mj_pu, mj_lo, mj_br, mj_hr, mj_hw, mq_gf, mq_len, mq_al, mq_pf, mq_ok, mj_re, mq_lkm, mq_lkn, mj_ldi, mj_ldl, mj_lda, mj_ii, mj_ll, mj_li, mj_i1, ms_1, ms_2, f1_n, f1_i, f1_r, f1_u, f1_l, f2_n, f2_i, f2_r, f2_u, f2_l, mj_tg, mj_c1, mj_c2, mj_ar, mj_aw, mq_cb, mq_oi, mj_rm, Value.category, -getElem?_pos, List.getElem?_cons_zero, decide_eq_true, decide_eq_false, nl_lt, nl_le, ln_lt, ln_le, nl_eq, ln_eq, nl_add, ln_add, nl_sub, ln_mul, nI_sub, nI_mul, nI_add, nI_lt_iff, nI_le_iff, nI_inj, nI_num, mq_ix, nI_1, nl_mul, nl_div, hob, hca, v0, f1, narrow, mj_E, hh, hl, so, List.getElem?_set]
  · have hn4 : n = 1 := by simpa [fs_kl] using hkl
    have g2 := sl_at hc (i := 2) (by omega) (by omega) 0
    have v2 := v_item (d := d + 1) h.ce (nI (s.2.2.2.2.1 * 256 + p + 2))
    rw [bt_at_nI (by omega), g2] at v2
    have el : fs_lrn s.2.2.2.2.2.2.2 r = ((s.2.2.2.2.2.2.2.1, (s.2.2.2.2.2.2.2.2.1, (r.getD 2 0, (s.2.2.2.2.2.2.2.2.2.2.1, s.2.2.2.2.2.2.2.2.2.2.2)))) : St) := by unfold fs_lrn; rw [ek]; rfl
    rw [el] at hl8 ⊢
    have k1 := h.set (s' := ((s.1, (s.2.1, (s.2.2.1, (s.2.2.2.1, (s.2.2.2.2.1, (s.2.2.2.2.2.1, (s.2.2.2.2.2.2.1, ((s.2.2.2.2.2.2.2.1, (s.2.2.2.2.2.2.2.2.1, (r.getD 2 0, (s.2.2.2.2.2.2.2.2.2.2.1, s.2.2.2.2.2.2.2.2.2.2.2)))) : St)))))))) : Fl)) rfl rfl
    refine ⟨_, ?_, k1, kf.st (by omega)⟩
    rw [show nI 3 = 3 from rfl] at v0
    simp only [so]
    generalize r.getD 2 0 = y at *
    simp (disch := (first | omega | decide)) [c52, s52_0, s52_1, s52_4, s52_7, s52_8, s52_9, s52_10, s52_11, s52_12, s52_13, s52_14, s52_15, s52_16, s52_19, s52_20, s52_23, s52_56, s52_57, s52_58, s52_61, s52_62, s52_65, s52_68, s52_71, s52_72, s52_73, s52_76, s52_77, s52_80, s52_83, s52_84, s52_86, s52_89, s52_92, s52_93, s52_94, s52_97, s52_98, s52_101, s52_104, s52_107, s52_108, s52_109, s52_112, s52_113, s52_116, s52_117, s52_120, s52_121, s52_122, s52_123, s52_126, s52_129, s52_132, s52_133, s52_134, s52_135, s52_138, s52_139, s52_140, s52_141, s52_144, s52_146, s52_147, s52_150, s52_153, mq_k0s, mq_k1s, mq_k2s, mq_k4s, mq_k5s, mq_k5n, mq_k5as, mq_k6s, mj_pu, mj_lo, mj_br, mj_hr, mj_hw, mq_gf, mq_len, mq_al, mq_pf, mq_ok, mj_re, mq_lkm, mq_lkn, mj_ldi, mj_ldl, mj_lda, mj_ii, mj_ll, mj_li, mj_i1, ms_1, ms_2, f1_n, f1_i, f1_r, f1_u, f1_l, f2_n, f2_i, f2_r, f2_u, f2_l, mj_tg, mj_c1, mj_c2, mj_ar, mj_aw, mq_cb, mq_oi, mj_rm, Value.category, -getElem?_pos, List.getElem?_cons_zero, decide_eq_true, decide_eq_false, nl_lt, nl_le, ln_lt, ln_le, nl_eq, ln_eq, nl_add, ln_add, nl_sub, ln_mul, nI_sub, nI_mul, nI_add, nI_lt_iff, nI_le_iff, nI_inj, nI_num, mq_ix, nI_1, nl_mul, nl_div, hob, hca, v0, v2, narrow, mj_E, hh, hl]
  · have hn4 : n = 8 := by simpa [fs_kl] using hkl
    have f1 := four 2 (by omega) d
    have f2 := four 6 (by omega) d
    have el : fs_lrn s.2.2.2.2.2.2.2 r = fs_count s.2.2.2.2.2.2.2 (w4a r 2) (w4a r 6) := by unfold fs_lrn; rw [ek]; rfl
    rw [el] at hl8 ⊢
    obtain ⟨M1, p1, k1, f3⟩ := st_lcount (d := d + 1) (id := w4a r 2) (n := w4a r 6) h
    refine ⟨M1, ?_, k1, f3⟩
    rw [show nI 4 = 4 from rfl] at v0
    simp (disch := (first | omega | decide)) [c52, s52_0, s52_1, s52_4, s52_7, s52_8, s52_9, s52_10, s52_11, s52_12, s52_13, s52_14, s52_15, s52_16, s52_19, s52_20, s52_23, s52_56, s52_57, s52_58, s52_61, s52_62, s52_65, s52_68, s52_71, s52_72, s52_73, s52_76, s52_77, s52_80, s52_83, s52_84, s52_86, s52_89, s52_92, s52_93, s52_94, s52_97, s52_98, s52_101, s52_104, s52_107, s52_108, s52_109, s52_112, s52_113, s52_116, s52_117, s52_120, s52_121, s52_122, s52_123, s52_126, s52_129, s52_132, s52_133, s52_134, s52_135, s52_138, s52_139, s52_140, s52_141, s52_144, s52_146, s52_147, s52_150, s52_153, mq_k0s, mq_k1s, mq_k2s, mq_k4s, mq_k5s, mq_k5n, mq_k5as, mq_k6s, mj_pu, mj_lo, mj_br, mj_hr, mj_hw, mq_gf, mq_len, mq_al, mq_pf, mq_ok, mj_re, mq_lkm, mq_lkn, mj_ldi, mj_ldl, mj_lda, mj_ii, mj_ll, mj_li, mj_i1, ms_1, ms_2, f1_n, f1_i, f1_r, f1_u, f1_l, f2_n, f2_i, f2_r, f2_u, f2_l, mj_tg, mj_c1, mj_c2, mj_ar, mj_aw, mq_cb, mq_oi, mj_rm, Value.category, -getElem?_pos, List.getElem?_cons_zero, decide_eq_true, decide_eq_false, nl_lt, nl_le, ln_lt, ln_le, nl_eq, ln_eq, nl_add, ln_add, nl_sub, ln_mul, nI_sub, nI_mul, nI_add, nI_lt_iff, nI_le_iff, nI_inj, nI_num, mq_ix, nI_1, nl_mul, nl_div, hob, hca, v0, f1, f2, p1]
  · have hn4 : 13 ≤ n ∧ n ≤ 20 := by simpa [fs_kl] using hkl
    have el : fs_lrn s.2.2.2.2.2.2.2 r = fs_cred s.2.2.2.2.2.2.2 ((w4a r 2, (w4a r 6, (w4a r 10, ((r.drop 14).take (n - 12), 0)))) : Cr) := by
      unfold fs_lrn
      rw [ek, en, uN_nI, Nat.mod_eq_of_lt (by omega)]
      rfl
    rw [el] at hl8 ⊢
    have ec : (((w4a r 2, (w4a r 6, (w4a r 10, ((r.drop 14).take (n - 12), 0)))) : Cr) : Cr) = ((w4 ((s.1.drop (s.2.2.2.2.1 * 256 + p + 2)).take 4), (w4 ((s.1.drop (s.2.2.2.2.1 * 256 + p + 2 + 4)).take 4), (w4 ((s.1.drop (s.2.2.2.2.1 * 256 + p + 2 + 8)).take 4), ((s.1.drop (s.2.2.2.2.1 * 256 + p + 2 + 12)).take (n - 12), 0)))) : Cr) := by
      rw [sl_sub hc (i := 2) (by omega), show s.2.2.2.2.1 * 256 + p + 2 + 4 = s.2.2.2.2.1 * 256 + p + 6 by omega, show s.2.2.2.2.1 * 256 + p + 2 + 8 = s.2.2.2.2.1 * 256 + p + 10 by omega, show s.2.2.2.2.1 * 256 + p + 2 + 12 = s.2.2.2.2.1 * 256 + p + 14 by omega, sl_sub hc (i := 6) (by omega), sl_sub hc (i := 10) (by omega), sl_sub hc (i := 14) (by omega)]
      rfl
    have hpl : fs_pl s.2.2.2.2.2.2.2.2.2.2.2 (w4a r 6) ((r.drop 14).take (n - 12)) < 8 := by
      have h8' := h.l8
      have hle : fs_pl s.2.2.2.2.2.2.2.2.2.2.2 (w4a r 6) ((r.drop 14).take (n - 12)) ≤ s.2.2.2.2.2.2.2.2.2.2.2.length := List.findIdx_le_length
      simp only [fs_cred] at hl8
      split at hl8
      · omega
      · simp at hl8; omega
    obtain ⟨M1, p1, k1, f1⟩ := st_lcred (d := d) (b := s.2.2.2.2.1 * 256 + p + 2) (w := n - 12) h hu hfl (by omega) (by omega) ec hpl
    refine ⟨M1, ?_, k1, f1⟩
    rw [show nI 5 = 5 from rfl] at v0
    rw [en] at v1
    simp (disch := (first | omega | decide)) [c52, s52_0, s52_1, s52_4, s52_7, s52_8, s52_9, s52_10, s52_11, s52_12, s52_13, s52_14, s52_15, s52_16, s52_19, s52_20, s52_23, s52_56, s52_57, s52_58, s52_61, s52_62, s52_65, s52_68, s52_71, s52_72, s52_73, s52_76, s52_77, s52_80, s52_83, s52_84, s52_86, s52_89, s52_92, s52_93, s52_94, s52_97, s52_98, s52_101, s52_104, s52_107, s52_108, s52_109, s52_112, s52_113, s52_116, s52_117, s52_120, s52_121, s52_122, s52_123, s52_126, s52_129, s52_132, s52_133, s52_134, s52_135, s52_138, s52_139, s52_140, s52_141, s52_144, s52_146, s52_147, s52_150, s52_153, mq_k0s, mq_k1s, mq_k2s, mq_k4s, mq_k5s, mq_k5n, mq_k5as, mq_k6s, mj_pu, mj_lo, mj_br, mj_hr, mj_hw, mq_gf, mq_len, mq_al, mq_pf, mq_ok, mj_re, mq_lkm, mq_lkn, mj_ldi, mj_ldl, mj_lda, mj_ii, mj_ll, mj_li, mj_i1, ms_1, ms_2, f1_n, f1_i, f1_r, f1_u, f1_l, f2_n, f2_i, f2_r, f2_u, f2_l, mj_tg, mj_c1, mj_c2, mj_ar, mj_aw, mq_cb, mq_oi, mj_rm, Value.category, -getElem?_pos, List.getElem?_cons_zero, decide_eq_true, decide_eq_false, nl_lt, nl_le, ln_lt, ln_le, nl_eq, ln_eq, nl_add, ln_add, nl_sub, ln_mul, nI_sub, nI_mul, nI_add, nI_lt_iff, nI_le_iff, nI_inj, nI_num, mq_ix, nI_1, nl_mul, nl_div, hob, hca, v0, v1, p1]
end
/- 77.store7 -/
section
set_option maxRecDepth 512
/-! Class: Store: writing. -/
/-- the first bytes of a row are laid over the flash -/
def fs_over (fl : List Int32) (p : Nat) (bs : List Int32) : List Int32 := fl.take p ++ (bs ++ fl.drop (p + bs.length))
theorem fs_over_len {fl : List Int32} {p : Nat} {bs : List Int32} (h : p + bs.length ≤ fl.length) : (fs_over fl p bs).length = fl.length := by simp [fs_over]; omega
theorem fs_over_cons {fl : List Int32} {p : Nat} {b : Int32} {bs : List Int32} (h : p + 1 + bs.length ≤ fl.length) : fs_over (fl.set p b) (p + 1) bs = fs_over fl p (b :: bs) := by
  unfold fs_over
  have e1 : (fl.set p b).take (p + 1) = fl.take p ++ [b] := by
    rw [List.take_add_one, List.getElem?_set_self (by omega), Option.toList_some, List.take_set_of_le (Nat.le_refl _)]
  rw [e1, List.drop_set_of_lt (by omega), List.length_cons, show p + 1 + bs.length = p + (bs.length + 1) by omega]
  simp
theorem fs_lay_over : ∀ (bs : List Int32) (p : Nat) (s : Fl), p + bs.length ≤ s.1.length → ∃ k, k ≤ bs.length ∧ (fs_lay bs p s).1.1 = fs_over s.1 p (bs.take k) ∧ ((fs_lay bs p s).2 = true → k = bs.length) := by
  intro bs
  induction bs with
  | nil => intro p s _; exact ⟨0, Nat.le_refl _, by simp [fs_lay, fs_over], fun _ => rfl⟩
  | cons b bs ih =>
    intro p s hp
    rw [fs_lay]
    split
    · exact ⟨0, Nat.zero_le _, by simp [fs_over, Fl.off], fun z => by cases z⟩
    · obtain ⟨k, h1, h2, h3⟩ := ih (p + 1) ((s.1.set p b, (s.act.2.1, (s.act.2.2.1, (s.act.2.2.2.1, (s.act.2.2.2.2.1, (s.act.2.2.2.2.2.1, (s.act.2.2.2.2.2.2.1, s.act.2.2.2.2.2.2.2))))))) : Fl) (by simp only [List.length_set]; simp at hp; omega)
      refine ⟨k + 1, by simpa using h1, ?_, fun z => by simp [h3 z]⟩
      rw [h2, List.take_succ_cons]
      simp at hp
      exact fs_over_cons (by rw [List.length_take]; omega)
theorem fs_over_sl {fl : List Int32} {p : Nat} {bs : List Int32} (h : p + bs.length ≤ fl.length) : ((fs_over fl p bs).drop p).take bs.length = bs := by
  unfold fs_over
  rw [List.drop_append_of_le_length (by simp; omega), List.drop_eq_nil_of_le (by simp; omega), List.nil_append, List.take_append_of_le_length (by omega), List.take_of_length_le (by omega)]
theorem fs_lay_sl {bs : List Int32} {p : Nat} {s : Fl} (hp : p + bs.length ≤ s.1.length) (h : (fs_lay bs p s).2 = true) : ((fs_lay bs p s).1.1.drop p).take bs.length = bs := by
  obtain ⟨k, h1, h2, h3⟩ := fs_lay_over bs p s hp
  rw [h2, h3 h, List.take_of_length_le (Nat.le_refl _)]
  exact fs_over_sl hp
theorem fs_move_st (s : Fl) (h : (fs_move s).2 = true) : (fs_move s).1.2.2.2.2.2.2.2 = s.2.2.2.2.2.2.2 ∧ (fs_move s).1.2.2.2.2.1 = 1 - s.2.2.2.2.1 ∧ (fs_move s).1.2.2.2.2.2.1 = s.2.2.2.2.2.1 + 1 ∧ (fs_move s).1.2.2.2.2.2.2.1 = 4 + s.2.2.2.2.2.2.2.recs.length ∧ (fs_move s).1.2.1 = s.2.1 ∧ (fs_move s).1.1.length = s.1.length := by
  rw [fs_move_eq] at h ⊢
  split at h
  · next h0 => rw [h0] at h; cases h
  · next h0 =>
    obtain ⟨e1, e2, e3, e4, e5⟩ := fs_era_st 4 ((1 - s.2.2.2.2.1) * 256) s
    have h0' : (fs_era 4 ((1 - s.2.2.2.2.1) * 256) s).2 = true := by simpa using h0
    rw [if_neg h0]
    unfold fs_mt at h ⊢
    dsimp only at h ⊢
    split at h
    · next h1 => rw [h1] at h; cases h
    · next h1 =>
      rw [if_neg h1]
      split at h
      · next h2 => rw [h2] at h; cases h
      · next h2 =>
        rw [if_neg h2]
        have h1' : (fs_lay s.2.2.2.2.2.2.2.recs ((1 - s.2.2.2.2.1) * 256 + 4) (fs_era 4 ((1 - s.2.2.2.2.1) * 256) s).1).2 = true := by simpa using h1
        have h2' : (fs_lay (hdr (s.2.2.2.2.2.1 + 1)) ((1 - s.2.2.2.2.1) * 256) (fs_lay s.2.2.2.2.2.2.2.recs ((1 - s.2.2.2.2.1) * 256 + 4) (fs_era 4 ((1 - s.2.2.2.2.1) * 256) s).1).1).2 = true := by simpa using h2
        refine ⟨?_, rfl, rfl, rfl, ?_, ?_⟩
        · rw [(fs_lay_st _ _ _).1, (fs_lay_st _ _ _).1, e1]
        · rw [fs_lay_on _ _ _ h2', fs_lay_on _ _ _ h1', e5 h0']
        · rw [fs_lay_len, fs_lay_len, fs_era_len]
theorem st_put {d κ : Nat} {s : Fl} {r : List Int32} {M : mj_H} {L : mj_L} (h : ks M κ s r) (hon : s.2.1 = true) (hfl : s.1.length = 512) (ha : s.2.2.2.2.1 ≤ 1) (hu : okU s.2.2.2.2.2.2.2.2.2.2.2) (hr : isRec r) (hen : s.2.2.2.2.2.2.1 + r.length ≤ 256) (hl8 : (fs_lrn s.2.2.2.2.2.2.2 r).2.2.2.2.length ≤ 8) (hL0 : mj_lk L 0 = some (.ref (κ + 1))) (hL5 : mj_lk L 5 = some (.int (nI r.length))) : ∃ M', mj_Rn (d + 4) mj_m126 49 L [] M = some (some (.int (on1 (fs_put r s).2)), M') ∧ ks M' κ (fs_put r s).1 r ∧ kf κ M M' := by
  have hob := h.ob
  unfold so at hob
  obtain ⟨M1, p1, r1, f1⟩ := st_lay (d := d + 2) (p := s.2.2.2.2.1 * 256 + s.2.2.2.2.2.2.1) h (by omega) hon hfl
  obtain ⟨e1, e2, e3, e4⟩ := fs_lay_st r (s.2.2.2.2.1 * 256 + s.2.2.2.2.2.2.1) s
  have hL' : mq_sub [(0, .ref (κ + 1)), (5, .int (nI r.length))] L := by
    intro q hq
    simp at hq
    rcases hq with rfl | rfl
    · exact hL0
    · exact hL5
  unfold fs_put
  dsimp only
  cases h2 : (fs_lay r (s.2.2.2.2.1 * 256 + s.2.2.2.2.2.2.1) s).2 with
  | false =>
    rw [h2] at p1
    refine ⟨M1, ?_, by simpa using r1, f1⟩
    refine mq_wk hL' ?_
    rw [s126_49]
    simp (disch := (first | omega | decide)) [s126_0, s126_1, s126_2, s126_3, s126_4, s126_6, s126_9, s126_10, s126_13, s126_16, s126_18, s126_19, s126_22, s126_24, s126_25, s126_28, s126_31, s126_32, s126_35, s126_38, s126_39, s126_40, s126_41, s126_42, s126_43, s126_44, s126_46, s126_50, s126_53, s126_55, s126_56, s126_59, s126_62, s126_63, s126_64, s126_67, s126_70, s126_71, s126_72, s126_75, s126_76, s126_79, s126_82, s126_83, s126_84, s126_85, s126_86, s126_89, s126_92, s126_93, s126_94, s126_97, s126_99, s126_100, s126_103, s126_104, mq_k0s, mq_k1s, mq_k2s, mq_k4s, mq_k5s, mq_k5n, mq_k5as, mq_k6s, mj_pu, mj_lo, mj_br, mj_hr, mj_hw, mq_gf, mq_len, mq_al, mq_pf, mq_ok, mj_re, mq_lkm, mq_lkn, mj_ldi, mj_ldl, mj_lda, mj_ii, mj_ll, mj_li, mj_i1, ms_1, ms_2, f1_n, f1_i, f1_r, f1_u, f1_l, f2_n, f2_i, f2_r, f2_u, f2_l, mj_tg, mj_c1, mj_c2, mj_ar, mj_aw, mq_cb, mq_oi, mj_rm, Value.category, -getElem?_pos, List.getElem?_cons_zero, decide_eq_true, decide_eq_false, nl_lt, nl_le, ln_lt, ln_le, nl_eq, ln_eq, nl_add, ln_add, nl_sub, ln_mul, nI_sub, nI_mul, nI_add, nI_lt_iff, nI_le_iff, nI_inj, nI_num, mq_ix, nI_1, nl_mul, nl_div, hob, p1, on1, h2, narrow_b0]
  | true =>
    rw [h2] at p1
    have hsl := fs_lay_sl (bs := r) (p := s.2.2.2.2.1 * 256 + s.2.2.2.2.2.2.1) (s := s) (by omega) h2
    obtain ⟨M2, p2, r2, f2⟩ := st_learn (d := d + 1) (p := s.2.2.2.2.2.2.1) (r := r) r1 (by rw [e1]; exact hu) (by rw [fs_lay_len]; exact hfl) (by rw [e2]; exact ha) hr hen (by rw [e2]; exact hsl) (by rw [e1]; exact hl8)
    have k3 := r2.set (s' := ((((fs_lay r (s.2.2.2.2.1 * 256 + s.2.2.2.2.2.2.1) s).1).1, (((fs_lay r (s.2.2.2.2.1 * 256 + s.2.2.2.2.2.2.1) s).1).2.1, (((fs_lay r (s.2.2.2.2.1 * 256 + s.2.2.2.2.2.2.1) s).1).2.2.1, (((fs_lay r (s.2.2.2.2.1 * 256 + s.2.2.2.2.2.2.1) s).1).2.2.2.1, (((fs_lay r (s.2.2.2.2.1 * 256 + s.2.2.2.2.2.2.1) s).1).2.2.2.2.1, (((fs_lay r (s.2.2.2.2.1 * 256 + s.2.2.2.2.2.2.1) s).1).2.2.2.2.2.1, (s.2.2.2.2.2.2.1 + r.length, fs_lrn s.2.2.2.2.2.2.2 r))))))) : Fl)) rfl (by rw [e1])
    refine ⟨_, ?_, by simpa using k3, (f1.tr f2).tr (kf.st (by omega))⟩
    have o1 := r1.ob
    have o2 := r2.ob
    unfold so at o1 o2
    rw [e4] at o1 o2
    have hlo := h.lo
    have hl := mq_lt r2.ob
    have hh : ¬ κ + 1 < 25 := by omega
    refine mq_wk hL' ?_
    rw [s126_49]
    rw [e1] at o2
    simp (disch := (first | omega | decide)) [s126_0, s126_1, s126_2, s126_3, s126_4, s126_6, s126_9, s126_10, s126_13, s126_16, s126_18, s126_19, s126_22, s126_24, s126_25, s126_28, s126_31, s126_32, s126_35, s126_38, s126_39, s126_40, s126_41, s126_42, s126_43, s126_44, s126_46, s126_50, s126_53, s126_55, s126_56, s126_59, s126_62, s126_63, s126_64, s126_67, s126_70, s126_71, s126_72, s126_75, s126_76, s126_79, s126_82, s126_83, s126_84, s126_85, s126_86, s126_89, s126_92, s126_93, s126_94, s126_97, s126_99, s126_100, s126_103, s126_104, mq_k0s, mq_k1s, mq_k2s, mq_k4s, mq_k5s, mq_k5n, mq_k5as, mq_k6s, mj_pu, mj_lo, mj_br, mj_hr, mj_hw, mq_gf, mq_len, mq_al, mq_pf, mq_ok, mj_re, mq_lkm, mq_lkn, mj_ldi, mj_ldl, mj_lda, mj_ii, mj_ll, mj_li, mj_i1, ms_1, ms_2, f1_n, f1_i, f1_r, f1_u, f1_l, f2_n, f2_i, f2_r, f2_u, f2_l, mj_tg, mj_c1, mj_c2, mj_ar, mj_aw, mq_cb, mq_oi, mj_rm, Value.category, -getElem?_pos, List.getElem?_cons_zero, decide_eq_true, decide_eq_false, nl_lt, nl_le, ln_lt, ln_le, nl_eq, ln_eq, nl_add, ln_add, nl_sub, ln_mul, nI_sub, nI_mul, nI_add, nI_lt_iff, nI_le_iff, nI_inj, nI_num, mq_ix, nI_1, nl_mul, nl_div, hob, p1, o1, p2, o2, on1, narrow_b1, narrow, mj_E, hh, hl, so]
theorem st_write {d κ : Nat} {s : Fl} {r0 r : List Int32} {M : mj_H} {k a b : Int32} {cv : Value} (hcv : cv = .null ∨ ∃ x, cv = .ref x) (h : ks M κ s r0) (hon : s.2.1 = true) (hfl : s.1.length = 512) (ha : s.2.2.2.2.1 ≤ 1) (hg : s.2.2.2.2.2.1 < 2 ^ 30) (hu : okU s.2.2.2.2.2.2.2.2.2.2.2) (hr : isRec r) (hen : s.2.2.2.2.2.2.1 ≤ 256) (hro : 4 + s.2.2.2.2.2.2.2.recs.length + r.length ≤ 256) (hl8 : (fs_lrn s.2.2.2.2.2.2.2 r).2.2.2.2.length ≤ 8)
    (hcomp : ∀ (M' : mj_H) (s' : Fl) (r' : List Int32), ks M' κ s' r' → kf κ M M' → ∃ M'', mj_V (d + 4) 44 [.ref (κ + 1), .int k, .int a, .int b, cv] M' = some (none, M'') ∧ ks M'' κ s' r ∧ mq_fr [κ + 4, κ + 5] M' M'') :
    ∃ M' r', mj_V (d + 5) 126 [.ref (κ + 1), .int k, .int a, .int b, cv] M = some (some (.int (on1 (fs_wr r s).2)), M') ∧ ks M' κ (fs_wr r s).1 r' ∧ kf κ M M' := by
  have hob := h.ob
  unfold so at hob
  obtain ⟨M1, p1, r1, f1⟩ := hcomp M s r0 h kf.rf
  have g1 : kf κ M M1 := kf.of f1 (by simp)
  have o1 := r1.ob
  unfold so at o1
  have a1 := r1.rb.2.2.2.2.2.1
  have v1 := v_size (d := d + 3) r1.rb
  have hrl : r.length ≤ 24 := r1.rb.len
  unfold fs_wr
  by_cases hz : 256 < s.2.2.2.2.2.2.1 + r.length
  · rw [if_pos hz]
    dsimp only
    obtain ⟨M2, r2, p2, k2, f2⟩ := st_move (d := d) r1 hon hfl ha hg hu (by omega)
    cases h2 : (fs_move s).2 with
    | false =>
      rw [h2] at p2
      refine ⟨M2, r2, ?_, by simpa using k2, g1.tr f2⟩
      rcases hcv with rfl | ⟨x, rfl⟩
      · simp (disch := (first | omega | decide)) [c126n4, s126_0, s126_1, s126_2, s126_3, s126_4, s126_6, s126_9, s126_10, s126_13, s126_16, s126_18, s126_19, s126_22, s126_24, s126_25, s126_28, s126_31, s126_32, s126_35, s126_38, s126_39, s126_40, s126_41, s126_42, s126_43, s126_44, s126_46, s126_50, s126_53, s126_55, s126_56, s126_59, s126_62, s126_63, s126_64, s126_67, s126_70, s126_71, s126_72, s126_75, s126_76, s126_79, s126_82, s126_83, s126_84, s126_85, s126_86, s126_89, s126_92, s126_93, s126_94, s126_97, s126_99, s126_100, s126_103, s126_104, mq_k0s, mq_k1s, mq_k2s, mq_k4s, mq_k5s, mq_k5n, mq_k5as, mq_k6s, mj_pu, mj_lo, mj_br, mj_hr, mj_hw, mq_gf, mq_len, mq_al, mq_pf, mq_ok, mj_re, mq_lkm, mq_lkn, mj_ldi, mj_ldl, mj_lda, mj_ii, mj_ll, mj_li, mj_i1, ms_1, ms_2, f1_n, f1_i, f1_r, f1_u, f1_l, f2_n, f2_i, f2_r, f2_u, f2_l, mj_tg, mj_c1, mj_c2, mj_ar, mj_aw, mq_cb, mq_oi, mj_rm, Value.category, -getElem?_pos, List.getElem?_cons_zero, decide_eq_true, decide_eq_false, nl_lt, nl_le, ln_lt, ln_le, nl_eq, ln_eq, nl_add, ln_add, nl_sub, ln_mul, nI_sub, nI_mul, nI_add, nI_lt_iff, nI_le_iff, nI_inj, nI_num, mq_ix, nI_1, nl_mul, nl_div, hob, p1, o1, a1, v1, p2, on1, h2, narrow_b0]
      · simp (disch := (first | omega | decide)) [c126, s126_0, s126_1, s126_2, s126_3, s126_4, s126_6, s126_9, s126_10, s126_13, s126_16, s126_18, s126_19, s126_22, s126_24, s126_25, s126_28, s126_31, s126_32, s126_35, s126_38, s126_39, s126_40, s126_41, s126_42, s126_43, s126_44, s126_46, s126_50, s126_53, s126_55, s126_56, s126_59, s126_62, s126_63, s126_64, s126_67, s126_70, s126_71, s126_72, s126_75, s126_76, s126_79, s126_82, s126_83, s126_84, s126_85, s126_86, s126_89, s126_92, s126_93, s126_94, s126_97, s126_99, s126_100, s126_103, s126_104, mq_k0s, mq_k1s, mq_k2s, mq_k4s, mq_k5s, mq_k5n, mq_k5as, mq_k6s, mj_pu, mj_lo, mj_br, mj_hr, mj_hw, mq_gf, mq_len, mq_al, mq_pf, mq_ok, mj_re, mq_lkm, mq_lkn, mj_ldi, mj_ldl, mj_lda, mj_ii, mj_ll, mj_li, mj_i1, ms_1, ms_2, f1_n, f1_i, f1_r, f1_u, f1_l, f2_n, f2_i, f2_r, f2_u, f2_l, mj_tg, mj_c1, mj_c2, mj_ar, mj_aw, mq_cb, mq_oi, mj_rm, Value.category, -getElem?_pos, List.getElem?_cons_zero, decide_eq_true, decide_eq_false, nl_lt, nl_le, ln_lt, ln_le, nl_eq, ln_eq, nl_add, ln_add, nl_sub, ln_mul, nI_sub, nI_mul, nI_add, nI_lt_iff, nI_le_iff, nI_inj, nI_num, mq_ix, nI_1, nl_mul, nl_div, hob, p1, o1, a1, v1, p2, on1, h2, narrow_b0]
    | true =>
      rw [h2] at p2
      obtain ⟨e1, e2, e3, e4, e5, e6⟩ := fs_move_st s h2
      obtain ⟨M3, p3, r3, f3⟩ := hcomp M2 _ r2 k2 (g1.tr f2)
      have g3 : kf κ M2 M3 := kf.of f3 (by simp)
      obtain ⟨M4, p4, r4, f4⟩ := st_put (d := d) (L := [(5, .int (nI r.length)), (0, .ref (κ + 1)), (1, .int k), (2, .int a), (3, .int b), (4, cv)]) r3 (by rw [e5]; exact hon) (by rw [e6]; exact hfl) (by rw [e2]; omega) (by rw [e1]; exact hu) hr (by rw [e4]; omega) (by rw [e1]; exact hl8) rfl rfl
      refine ⟨M4, r, ?_, by simpa using r4, ((g1.tr f2).tr g3).tr f4⟩
      have o2 := k2.ob
      unfold so at o2
      rcases hcv with rfl | ⟨x, rfl⟩
      · simp (disch := (first | omega | decide)) [c126n4, s126_0, s126_1, s126_2, s126_3, s126_4, s126_6, s126_9, s126_10, s126_13, s126_16, s126_18, s126_19, s126_22, s126_24, s126_25, s126_28, s126_31, s126_32, s126_35, s126_38, s126_39, s126_40, s126_41, s126_42, s126_43, s126_44, s126_46, s126_50, s126_53, s126_55, s126_56, s126_59, s126_62, s126_63, s126_64, s126_67, s126_70, s126_71, s126_72, s126_75, s126_76, s126_79, s126_82, s126_83, s126_84, s126_85, s126_86, s126_89, s126_92, s126_93, s126_94, s126_97, s126_99, s126_100, s126_103, s126_104, mq_k0s, mq_k1s, mq_k2s, mq_k4s, mq_k5s, mq_k5n, mq_k5as, mq_k6s, mj_pu, mj_lo, mj_br, mj_hr, mj_hw, mq_gf, mq_len, mq_al, mq_pf, mq_ok, mj_re, mq_lkm, mq_lkn, mj_ldi, mj_ldl, mj_lda, mj_ii, mj_ll, mj_li, mj_i1, ms_1, ms_2, f1_n, f1_i, f1_r, f1_u, f1_l, f2_n, f2_i, f2_r, f2_u, f2_l, mj_tg, mj_c1, mj_c2, mj_ar, mj_aw, mq_cb, mq_oi, mj_rm, Value.category, -getElem?_pos, List.getElem?_cons_zero, decide_eq_true, decide_eq_false, nl_lt, nl_le, ln_lt, ln_le, nl_eq, ln_eq, nl_add, ln_add, nl_sub, ln_mul, nI_sub, nI_mul, nI_add, nI_lt_iff, nI_le_iff, nI_inj, nI_num, mq_ix, nI_1, nl_mul, nl_div, hob, p1, o1, a1, v1, p2, on1, o2, p3]
        simpa [on1] using p4
      · simp (disch := (first | omega | decide)) [c126, s126_0, s126_1, s126_2, s126_3, s126_4, s126_6, s126_9, s126_10, s126_13, s126_16, s126_18, s126_19, s126_22, s126_24, s126_25, s126_28, s126_31, s126_32, s126_35, s126_38, s126_39, s126_40, s126_41, s126_42, s126_43, s126_44, s126_46, s126_50, s126_53, s126_55, s126_56, s126_59, s126_62, s126_63, s126_64, s126_67, s126_70, s126_71, s126_72, s126_75, s126_76, s126_79, s126_82, s126_83, s126_84, s126_85, s126_86, s126_89, s126_92, s126_93, s126_94, s126_97, s126_99, s126_100, s126_103, s126_104, mq_k0s, mq_k1s, mq_k2s, mq_k4s, mq_k5s, mq_k5n, mq_k5as, mq_k6s, mj_pu, mj_lo, mj_br, mj_hr, mj_hw, mq_gf, mq_len, mq_al, mq_pf, mq_ok, mj_re, mq_lkm, mq_lkn, mj_ldi, mj_ldl, mj_lda, mj_ii, mj_ll, mj_li, mj_i1, ms_1, ms_2, f1_n, f1_i, f1_r, f1_u, f1_l, f2_n, f2_i, f2_r, f2_u, f2_l, mj_tg, mj_c1, mj_c2, mj_ar, mj_aw, mq_cb, mq_oi, mj_rm, Value.category, -getElem?_pos, List.getElem?_cons_zero, decide_eq_true, decide_eq_false, nl_lt, nl_le, ln_lt, ln_le, nl_eq, ln_eq, nl_add, ln_add, nl_sub, ln_mul, nI_sub, nI_mul, nI_add, nI_lt_iff, nI_le_iff, nI_inj, nI_num, mq_ix, nI_1, nl_mul, nl_div, hob, p1, o1, a1, v1, p2, on1, o2, p3]
        simpa [on1] using p4
  · rw [if_neg hz]
    obtain ⟨M4, p4, r4, f4⟩ := st_put (d := d) (L := [(5, .int (nI r.length)), (0, .ref (κ + 1)), (1, .int k), (2, .int a), (3, .int b), (4, cv)]) r1 hon hfl ha hu hr (by omega) hl8 rfl rfl
    refine ⟨M4, r, ?_, r4, g1.tr f4⟩
    rcases hcv with rfl | ⟨x, rfl⟩
    · simp (disch := (first | omega | decide)) [c126n4, s126_0, s126_1, s126_2, s126_3, s126_4, s126_6, s126_9, s126_10, s126_13, s126_16, s126_18, s126_19, s126_22, s126_24, s126_25, s126_28, s126_31, s126_32, s126_35, s126_38, s126_39, s126_40, s126_41, s126_42, s126_43, s126_44, s126_46, s126_50, s126_53, s126_55, s126_56, s126_59, s126_62, s126_63, s126_64, s126_67, s126_70, s126_71, s126_72, s126_75, s126_76, s126_79, s126_82, s126_83, s126_84, s126_85, s126_86, s126_89, s126_92, s126_93, s126_94, s126_97, s126_99, s126_100, s126_103, s126_104, mq_k0s, mq_k1s, mq_k2s, mq_k4s, mq_k5s, mq_k5n, mq_k5as, mq_k6s, mj_pu, mj_lo, mj_br, mj_hr, mj_hw, mq_gf, mq_len, mq_al, mq_pf, mq_ok, mj_re, mq_lkm, mq_lkn, mj_ldi, mj_ldl, mj_lda, mj_ii, mj_ll, mj_li, mj_i1, ms_1, ms_2, f1_n, f1_i, f1_r, f1_u, f1_l, f2_n, f2_i, f2_r, f2_u, f2_l, mj_tg, mj_c1, mj_c2, mj_ar, mj_aw, mq_cb, mq_oi, mj_rm, Value.category, -getElem?_pos, List.getElem?_cons_zero, decide_eq_true, decide_eq_false, nl_lt, nl_le, ln_lt, ln_le, nl_eq, ln_eq, nl_add, ln_add, nl_sub, ln_mul, nI_sub, nI_mul, nI_add, nI_lt_iff, nI_le_iff, nI_inj, nI_num, mq_ix, nI_1, nl_mul, nl_div, hob, p1, o1, a1, v1]
      simpa [on1] using p4
    · simp (disch := (first | omega | decide)) [c126, s126_0, s126_1, s126_2, s126_3, s126_4, s126_6, s126_9, s126_10, s126_13, s126_16, s126_18, s126_19, s126_22, s126_24, s126_25, s126_28, s126_31, s126_32, s126_35, s126_38, s126_39, s126_40, s126_41, s126_42, s126_43, s126_44, s126_46, s126_50, s126_53, s126_55, s126_56, s126_59, s126_62, s126_63, s126_64, s126_67, s126_70, s126_71, s126_72, s126_75, s126_76, s126_79, s126_82, s126_83, s126_84, s126_85, s126_86, s126_89, s126_92, s126_93, s126_94, s126_97, s126_99, s126_100, s126_103, s126_104, mq_k0s, mq_k1s, mq_k2s, mq_k4s, mq_k5s, mq_k5n, mq_k5as, mq_k6s, mj_pu, mj_lo, mj_br, mj_hr, mj_hw, mq_gf, mq_len, mq_al, mq_pf, mq_ok, mj_re, mq_lkm, mq_lkn, mj_ldi, mj_ldl, mj_lda, mj_ii, mj_ll, mj_li, mj_i1, ms_1, ms_2, f1_n, f1_i, f1_r, f1_u, f1_l, f2_n, f2_i, f2_r, f2_u, f2_l, mj_tg, mj_c1, mj_c2, mj_ar, mj_aw, mq_cb, mq_oi, mj_rm, Value.category, -getElem?_pos, List.getElem?_cons_zero, decide_eq_true, decide_eq_false, nl_lt, nl_le, ln_lt, ln_le, nl_eq, ln_eq, nl_add, ln_add, nl_sub, ln_mul, nI_sub, nI_mul, nI_add, nI_lt_iff, nI_le_iff, nI_inj, nI_num, mq_ix, nI_1, nl_mul, nl_div, hob, p1, o1, a1, v1]
      simpa [on1] using p4
end
/- 78.store8 -/
section
set_option maxRecDepth 512
/-! Class: Store: asking what stands. -/
/- 124 PasskeyHouse$Store.hasRoom(IJI)Z -/
theorem s124_0 {d : Nat} {ls : mj_L} {st : List Value} {M : mj_H} : mj_Rn d mj_m124 0 ls st M = mj_Rn d mj_m124 2 ls (.int 89 :: st) M := mj_R0 (r := (.bipush 89, 2, 0, 0, 0)) rfl rfl
theorem s124_2 {d : Nat} {ls : mj_L} {st : List Value} {M : mj_H} : mj_Rn d mj_m124 2 ls st M = mq_k0 d mj_m124 4 ls M (mj_ldi (mj_lk ls 4) st) := mj_R0 (r := (.iload 4, 2, 0, 0, 0)) rfl rfl
theorem s124_4 {d : Nat} {ls : mj_L} {st : List Value} {M : mj_H} : mj_Rn d mj_m124 4 ls st M = mq_k0 d mj_m124 5 ls M (mj_pu .iadd ls st) := mj_R0 (r := (.iadd, 1, 0, 0, 0)) rfl rfl
theorem s124_5 {d : Nat} {ls : mj_L} {st : List Value} {M : mj_H} : mj_Rn d mj_m124 5 ls st M = mq_k1 d mj_m124 7 M (mj_lo 9 (.istore 5) ls st) := mj_R1 (r := (.istore 5, 2, 0, 0, 0)) rfl rfl
theorem s124_7 {d : Nat} {ls : mj_L} {st : List Value} {M : mj_H} : mj_Rn d mj_m124 7 ls st M = mq_k0 d mj_m124 8 ls M (mj_lda (mj_lk ls 0) st) := mj_R0 (r := (.aload_n 0, 1, 0, 0, 0)) rfl rfl
theorem s124_8 {d : Nat} {ls : mj_L} {st : List Value} {M : mj_H} : mj_Rn d mj_m124 8 ls st M = mq_k0 d mj_m124 9 ls M (mj_ldi (mj_lk ls 1) st) := mj_R0 (r := (.iload_n 1, 1, 0, 0, 0)) rfl rfl
theorem s124_9 {d : Nat} {ls : mj_L} {st : List Value} {M : mj_H} : mj_Rn d mj_m124 9 ls st M = mq_k0 d mj_m124 10 ls M (mj_ldl (mj_lk ls 2) st) := mj_R0 (r := (.lload_n 2, 1, 0, 0, 0)) rfl rfl
theorem s124_10 {d : Nat} {ls : mj_L} {st : List Value} {M : mj_H} : mj_Rn d mj_m124 10 ls st M = mq_k0 d mj_m124 12 ls M (mj_ldi (mj_lk ls 4) st) := mj_R0 (r := (.iload 4, 2, 0, 0, 0)) rfl rfl
theorem s124_12 {d : Nat} {ls : mj_L} {st : List Value} {M : mj_H} : mj_Rn (d + 1) mj_m124 12 ls st M = mq_k5a (d + 1) mj_m124 15 ls M 56 (mq_cb 0 3 8 st M) := mj_R5e (r := (.invokevirtual 147, 3, 0, 56, 12345)) (z := mj_m56) rfl rfl (by decide) (by decide) rfl
theorem s124_15 {d : Nat} {ls : mj_L} {st : List Value} {M : mj_H} : mj_Rn d mj_m124 15 ls st M = mq_k1 d mj_m124 17 M (mj_lo 9 (.istore 6) ls st) := mj_R1 (r := (.istore 6, 2, 0, 0, 0)) rfl rfl
theorem s124_17 {d : Nat} {ls : mj_L} {st : List Value} {M : mj_H} : mj_Rn d mj_m124 17 ls st M = mj_Rn d mj_m124 18 ls (.int 0 :: st) M := mj_R0 (r := (.iconst 0, 1, 0, 0, 0)) rfl rfl
theorem s124_18 {d : Nat} {ls : mj_L} {st : List Value} {M : mj_H} : mj_Rn d mj_m124 18 ls st M = mq_k1 d mj_m124 20 M (mj_lo 9 (.istore 7) ls st) := mj_R1 (r := (.istore 7, 2, 0, 0, 0)) rfl rfl
theorem s124_20 {d : Nat} {ls : mj_L} {st : List Value} {M : mj_H} : mj_Rn d mj_m124 20 ls st M = mq_k0 d mj_m124 22 ls M (mj_ldi (mj_lk ls 7) st) := mj_R0 (r := (.iload 7, 2, 0, 0, 0)) rfl rfl
theorem s124_22 {d : Nat} {ls : mj_L} {st : List Value} {M : mj_H} : mj_Rn d mj_m124 22 ls st M = mq_k0 d mj_m124 23 ls M (mj_lda (mj_lk ls 0) st) := mj_R0 (r := (.aload_n 0, 1, 0, 0, 0)) rfl rfl
theorem s124_23 {d : Nat} {ls : mj_L} {st : List Value} {M : mj_H} : mj_Rn d mj_m124 23 ls st M = mq_k0 d mj_m124 26 ls M (mq_gf 8 14 st M) := (mj_R3 (r := (.getfield 124, 3, 8, 14, 16526)) rfl rfl).trans (congrArg (mq_k0 d mj_m124 26 ls M) mq_gf_eq)
theorem s124_26 {d : Nat} {ls : mj_L} {st : List Value} {M : mj_H} : mj_Rn d mj_m124 26 ls st M = mq_k2 d mj_m124 ls M (mj_br (.if_icmp .ge 42) 26 st) := mj_R2 (r := (.if_icmp .ge 42, 3, 0, 0, 0)) rfl rfl
theorem s124_29 {d : Nat} {ls : mj_L} {st : List Value} {M : mj_H} : mj_Rn d mj_m124 29 ls st M = mq_k0 d mj_m124 30 ls M (mj_lda (mj_lk ls 0) st) := mj_R0 (r := (.aload_n 0, 1, 0, 0, 0)) rfl rfl
theorem s124_30 {d : Nat} {ls : mj_L} {st : List Value} {M : mj_H} : mj_Rn d mj_m124 30 ls st M = mq_k0 d mj_m124 32 ls M (mj_ldi (mj_lk ls 7) st) := mj_R0 (r := (.iload 7, 2, 0, 0, 0)) rfl rfl
theorem s124_32 {d : Nat} {ls : mj_L} {st : List Value} {M : mj_H} : mj_Rn (d + 1) mj_m124 32 ls st M = mq_k5a (d + 1) mj_m124 35 ls M 61 (mq_cb 0 1 8 st M) := mj_R5e (r := (.invokevirtual 180, 3, 0, 61, 12365)) (z := mj_m61) rfl rfl (by decide) (by decide) rfl
theorem s124_35 {d : Nat} {ls : mj_L} {st : List Value} {M : mj_H} : mj_Rn d mj_m124 35 ls st M = mq_k1 d mj_m124 37 M (mj_lo 9 (.astore 8) ls st) := mj_R1 (r := (.astore 8, 2, 0, 0, 0)) rfl rfl
theorem s124_37 {d : Nat} {ls : mj_L} {st : List Value} {M : mj_H} : mj_Rn d mj_m124 37 ls st M = mq_k0 d mj_m124 39 ls M (mj_lda (mj_lk ls 8) st) := mj_R0 (r := (.aload 8, 2, 0, 0, 0)) rfl rfl
theorem s124_39 {d : Nat} {ls : mj_L} {st : List Value} {M : mj_H} : mj_Rn d mj_m124 39 ls st M = mq_k2 d mj_m124 ls M (mj_br (.ifnull 23) 39 st) := mj_R2 (r := (.ifnull 23, 3, 0, 0, 0)) rfl rfl
theorem s124_42 {d : Nat} {ls : mj_L} {st : List Value} {M : mj_H} : mj_Rn d mj_m124 42 ls st M = mq_k0 d mj_m124 44 ls M (mj_ldi (mj_lk ls 7) st) := mj_R0 (r := (.iload 7, 2, 0, 0, 0)) rfl rfl
theorem s124_44 {d : Nat} {ls : mj_L} {st : List Value} {M : mj_H} : mj_Rn d mj_m124 44 ls st M = mq_k0 d mj_m124 46 ls M (mj_ldi (mj_lk ls 6) st) := mj_R0 (r := (.iload 6, 2, 0, 0, 0)) rfl rfl
theorem s124_46 {d : Nat} {ls : mj_L} {st : List Value} {M : mj_H} : mj_Rn d mj_m124 46 ls st M = mq_k2 d mj_m124 ls M (mj_br (.if_icmp .eq 16) 46 st) := mj_R2 (r := (.if_icmp .eq 16, 3, 0, 0, 0)) rfl rfl
theorem s124_49 {d : Nat} {ls : mj_L} {st : List Value} {M : mj_H} : mj_Rn d mj_m124 49 ls st M = mq_k0 d mj_m124 51 ls M (mj_ldi (mj_lk ls 5) st) := mj_R0 (r := (.iload 5, 2, 0, 0, 0)) rfl rfl
theorem s124_51 {d : Nat} {ls : mj_L} {st : List Value} {M : mj_H} : mj_Rn d mj_m124 51 ls st M = mj_Rn d mj_m124 53 ls (.int 28 :: st) M := mj_R0 (r := (.bipush 28, 2, 0, 0, 0)) rfl rfl
theorem s124_53 {d : Nat} {ls : mj_L} {st : List Value} {M : mj_H} : mj_Rn d mj_m124 53 ls st M = mq_k0 d mj_m124 55 ls M (mj_lda (mj_lk ls 8) st) := mj_R0 (r := (.aload 8, 2, 0, 0, 0)) rfl rfl
theorem s124_55 {d : Nat} {ls : mj_L} {st : List Value} {M : mj_H} : mj_Rn d mj_m124 55 ls st M = mq_k0 d mj_m124 58 ls M (mq_gf 2 4 st M) := (mj_R3 (r := (.getfield 161, 3, 2, 4, 16445)) rfl rfl).trans (congrArg (mq_k0 d mj_m124 58 ls M) mq_gf_eq)
theorem s124_58 {d : Nat} {ls : mj_L} {st : List Value} {M : mj_H} : mj_Rn d mj_m124 58 ls st M = mq_k0 d mj_m124 59 ls M (mj_pu .iadd ls st) := mj_R0 (r := (.iadd, 1, 0, 0, 0)) rfl rfl
theorem s124_59 {d : Nat} {ls : mj_L} {st : List Value} {M : mj_H} : mj_Rn d mj_m124 59 ls st M = mq_k0 d mj_m124 60 ls M (mj_pu .iadd ls st) := mj_R0 (r := (.iadd, 1, 0, 0, 0)) rfl rfl
theorem s124_60 {d : Nat} {ls : mj_L} {st : List Value} {M : mj_H} : mj_Rn d mj_m124 60 ls st M = mq_k1 d mj_m124 62 M (mj_lo 9 (.istore 5) ls st) := mj_R1 (r := (.istore 5, 2, 0, 0, 0)) rfl rfl
theorem s124_62 {d : Nat} {ls : mj_L} {st : List Value} {M : mj_H} : mj_Rn d mj_m124 62 ls st M = mq_k1 d mj_m124 65 M (mj_lo 9 (.iinc 7 1) ls st) := mj_R1 (r := (.iinc 7 1, 3, 0, 0, 0)) rfl rfl
theorem s124_65 {d : Nat} {ls : mj_L} {st : List Value} {M : mj_H} : mj_Rn d mj_m124 65 ls st M = mj_Rn d mj_m124 20 ls st M := mj_R2 (r := (.goto (-45), 3, 0, 0, 0)) rfl rfl
theorem s124_68 {d : Nat} {ls : mj_L} {st : List Value} {M : mj_H} : mj_Rn d mj_m124 68 ls st M = mq_k0 d mj_m124 70 ls M (mj_ldi (mj_lk ls 5) st) := mj_R0 (r := (.iload 5, 2, 0, 0, 0)) rfl rfl
theorem s124_70 {d : Nat} {ls : mj_L} {st : List Value} {M : mj_H} : mj_Rn d mj_m124 70 ls st M = mj_Rn d mj_m124 73 ls (.int 256 :: st) M := mj_R0 (r := (.sipush 256, 3, 0, 0, 0)) rfl rfl
theorem s124_73 {d : Nat} {ls : mj_L} {st : List Value} {M : mj_H} : mj_Rn d mj_m124 73 ls st M = mq_k2 d mj_m124 ls M (mj_br (.if_icmp .gt 7) 73 st) := mj_R2 (r := (.if_icmp .gt 7, 3, 0, 0, 0)) rfl rfl
theorem s124_76 {d : Nat} {ls : mj_L} {st : List Value} {M : mj_H} : mj_Rn d mj_m124 76 ls st M = mj_Rn d mj_m124 77 ls (.int 1 :: st) M := mj_R0 (r := (.iconst 1, 1, 0, 0, 0)) rfl rfl
theorem s124_77 {d : Nat} {ls : mj_L} {st : List Value} {M : mj_H} : mj_Rn d mj_m124 77 ls st M = mj_Rn d mj_m124 81 ls st M := mj_R2 (r := (.goto 4, 3, 0, 0, 0)) rfl rfl
theorem s124_80 {d : Nat} {ls : mj_L} {st : List Value} {M : mj_H} : mj_Rn d mj_m124 80 ls st M = mj_Rn d mj_m124 81 ls (.int 0 :: st) M := mj_R0 (r := (.iconst 0, 1, 0, 0, 0)) rfl rfl
theorem s124_81 {d : Nat} {ls : mj_L} {st : List Value} {M : mj_H} : mj_Rn d mj_m124 81 ls st M = mq_k6 M (mj_re (some .boolean) (.ireturn) st) := mj_R6 (r := (.ireturn, 1, 0, 0, 0)) rfl rfl
/- 117 PasskeyHouse$Store.withId(II)I -/
theorem s117_0 {d : Nat} {ls : mj_L} {st : List Value} {M : mj_H} : mj_Rn d mj_m117 0 ls st M = mj_Rn d mj_m117 1 ls (.int 0 :: st) M := mj_R0 (r := (.iconst 0, 1, 0, 0, 0)) rfl rfl
theorem s117_1 {d : Nat} {ls : mj_L} {st : List Value} {M : mj_H} : mj_Rn d mj_m117 1 ls st M = mq_k1 d mj_m117 2 M (mj_lo 5 (.istore 3) ls st) := (mj_R1 (r := (.istore_n 3, 1, 0, 0, 0)) rfl rfl).trans (congrArg (mq_k1 d mj_m117 2 M) (mq_sti (k := 3)))
theorem s117_2 {d : Nat} {ls : mj_L} {st : List Value} {M : mj_H} : mj_Rn d mj_m117 2 ls st M = mq_k0 d mj_m117 3 ls M (mj_ldi (mj_lk ls 3) st) := mj_R0 (r := (.iload_n 3, 1, 0, 0, 0)) rfl rfl
theorem s117_3 {d : Nat} {ls : mj_L} {st : List Value} {M : mj_H} : mj_Rn d mj_m117 3 ls st M = mq_k0 d mj_m117 4 ls M (mj_lda (mj_lk ls 0) st) := mj_R0 (r := (.aload_n 0, 1, 0, 0, 0)) rfl rfl
theorem s117_4 {d : Nat} {ls : mj_L} {st : List Value} {M : mj_H} : mj_Rn d mj_m117 4 ls st M = mq_k0 d mj_m117 7 ls M (mq_gf 8 14 st M) := (mj_R3 (r := (.getfield 124, 3, 8, 14, 16526)) rfl rfl).trans (congrArg (mq_k0 d mj_m117 7 ls M) mq_gf_eq)
theorem s117_7 {d : Nat} {ls : mj_L} {st : List Value} {M : mj_H} : mj_Rn d mj_m117 7 ls st M = mq_k2 d mj_m117 ls M (mj_br (.if_icmp .ge 41) 7 st) := mj_R2 (r := (.if_icmp .ge 41, 3, 0, 0, 0)) rfl rfl
theorem s117_10 {d : Nat} {ls : mj_L} {st : List Value} {M : mj_H} : mj_Rn d mj_m117 10 ls st M = mq_k0 d mj_m117 11 ls M (mj_lda (mj_lk ls 0) st) := mj_R0 (r := (.aload_n 0, 1, 0, 0, 0)) rfl rfl
theorem s117_11 {d : Nat} {ls : mj_L} {st : List Value} {M : mj_H} : mj_Rn d mj_m117 11 ls st M = mq_k0 d mj_m117 12 ls M (mj_ldi (mj_lk ls 3) st) := mj_R0 (r := (.iload_n 3, 1, 0, 0, 0)) rfl rfl
theorem s117_12 {d : Nat} {ls : mj_L} {st : List Value} {M : mj_H} : mj_Rn (d + 1) mj_m117 12 ls st M = mq_k5a (d + 1) mj_m117 15 ls M 61 (mq_cb 0 1 8 st M) := mj_R5e (r := (.invokevirtual 180, 3, 0, 61, 12365)) (z := mj_m61) rfl rfl (by decide) (by decide) rfl
theorem s117_15 {d : Nat} {ls : mj_L} {st : List Value} {M : mj_H} : mj_Rn d mj_m117 15 ls st M = mq_k1 d mj_m117 17 M (mj_lo 5 (.astore 4) ls st) := mj_R1 (r := (.astore 4, 2, 0, 0, 0)) rfl rfl
theorem s117_17 {d : Nat} {ls : mj_L} {st : List Value} {M : mj_H} : mj_Rn d mj_m117 17 ls st M = mq_k0 d mj_m117 19 ls M (mj_lda (mj_lk ls 4) st) := mj_R0 (r := (.aload 4, 2, 0, 0, 0)) rfl rfl
theorem s117_19 {d : Nat} {ls : mj_L} {st : List Value} {M : mj_H} : mj_Rn d mj_m117 19 ls st M = mq_k2 d mj_m117 ls M (mj_br (.ifnull 23) 19 st) := mj_R2 (r := (.ifnull 23, 3, 0, 0, 0)) rfl rfl
theorem s117_22 {d : Nat} {ls : mj_L} {st : List Value} {M : mj_H} : mj_Rn d mj_m117 22 ls st M = mq_k0 d mj_m117 24 ls M (mj_lda (mj_lk ls 4) st) := mj_R0 (r := (.aload 4, 2, 0, 0, 0)) rfl rfl
theorem s117_24 {d : Nat} {ls : mj_L} {st : List Value} {M : mj_H} : mj_Rn d mj_m117 24 ls st M = mq_k0 d mj_m117 27 ls M (mq_gf 2 0 st M) := (mj_R3 (r := (.getfield 143, 3, 2, 0, 16423)) rfl rfl).trans (congrArg (mq_k0 d mj_m117 27 ls M) mq_gf_eq)
theorem s117_27 {d : Nat} {ls : mj_L} {st : List Value} {M : mj_H} : mj_Rn d mj_m117 27 ls st M = mq_k0 d mj_m117 28 ls M (mj_ldi (mj_lk ls 1) st) := mj_R0 (r := (.iload_n 1, 1, 0, 0, 0)) rfl rfl
theorem s117_28 {d : Nat} {ls : mj_L} {st : List Value} {M : mj_H} : mj_Rn d mj_m117 28 ls st M = mq_k2 d mj_m117 ls M (mj_br (.if_icmp .ne 14) 28 st) := mj_R2 (r := (.if_icmp .ne 14, 3, 0, 0, 0)) rfl rfl
theorem s117_31 {d : Nat} {ls : mj_L} {st : List Value} {M : mj_H} : mj_Rn d mj_m117 31 ls st M = mq_k0 d mj_m117 33 ls M (mj_lda (mj_lk ls 4) st) := mj_R0 (r := (.aload 4, 2, 0, 0, 0)) rfl rfl
theorem s117_33 {d : Nat} {ls : mj_L} {st : List Value} {M : mj_H} : mj_Rn d mj_m117 33 ls st M = mq_k0 d mj_m117 36 ls M (mq_gf 2 1 st M) := (mj_R3 (r := (.getfield 151, 3, 2, 1, 16429)) rfl rfl).trans (congrArg (mq_k0 d mj_m117 36 ls M) mq_gf_eq)
theorem s117_36 {d : Nat} {ls : mj_L} {st : List Value} {M : mj_H} : mj_Rn d mj_m117 36 ls st M = mq_k0 d mj_m117 37 ls M (mj_ldi (mj_lk ls 2) st) := mj_R0 (r := (.iload_n 2, 1, 0, 0, 0)) rfl rfl
theorem s117_37 {d : Nat} {ls : mj_L} {st : List Value} {M : mj_H} : mj_Rn d mj_m117 37 ls st M = mq_k2 d mj_m117 ls M (mj_br (.if_icmp .ne 5) 37 st) := mj_R2 (r := (.if_icmp .ne 5, 3, 0, 0, 0)) rfl rfl
theorem s117_40 {d : Nat} {ls : mj_L} {st : List Value} {M : mj_H} : mj_Rn d mj_m117 40 ls st M = mq_k0 d mj_m117 41 ls M (mj_ldi (mj_lk ls 3) st) := mj_R0 (r := (.iload_n 3, 1, 0, 0, 0)) rfl rfl
theorem s117_41 {d : Nat} {ls : mj_L} {st : List Value} {M : mj_H} : mj_Rn d mj_m117 41 ls st M = mq_k6 M (mj_re (some .int) (.ireturn) st) := mj_R6 (r := (.ireturn, 1, 0, 0, 0)) rfl rfl
theorem s117_42 {d : Nat} {ls : mj_L} {st : List Value} {M : mj_H} : mj_Rn d mj_m117 42 ls st M = mq_k1 d mj_m117 45 M (mj_lo 5 (.iinc 3 1) ls st) := mj_R1 (r := (.iinc 3 1, 3, 0, 0, 0)) rfl rfl
theorem s117_45 {d : Nat} {ls : mj_L} {st : List Value} {M : mj_H} : mj_Rn d mj_m117 45 ls st M = mj_Rn d mj_m117 2 ls st M := mj_R2 (r := (.goto (-43), 3, 0, 0, 0)) rfl rfl
theorem s117_48 {d : Nat} {ls : mj_L} {st : List Value} {M : mj_H} : mj_Rn d mj_m117 48 ls st M = mj_Rn d mj_m117 49 ls (.int (-1) :: st) M := mj_R0 (r := (.iconst (-1), 1, 0, 0, 0)) rfl rfl
theorem s117_49 {d : Nat} {ls : mj_L} {st : List Value} {M : mj_H} : mj_Rn d mj_m117 49 ls st M = mq_k6 M (mj_re (some .int) (.ireturn) st) := mj_R6 (r := (.ireturn, 1, 0, 0, 0)) rfl rfl
/- 137 PasskeyHouse$Store.lastBefore(II)I -/
theorem s137_0 {d : Nat} {ls : mj_L} {st : List Value} {M : mj_H} : mj_Rn d mj_m137 0 ls st M = mq_k0 d mj_m137 1 ls M (mj_ldi (mj_lk ls 1) st) := mj_R0 (r := (.iload_n 1, 1, 0, 0, 0)) rfl rfl
theorem s137_1 {d : Nat} {ls : mj_L} {st : List Value} {M : mj_H} : mj_Rn d mj_m137 1 ls st M = mj_Rn d mj_m137 2 ls (.int 1 :: st) M := mj_R0 (r := (.iconst 1, 1, 0, 0, 0)) rfl rfl
theorem s137_2 {d : Nat} {ls : mj_L} {st : List Value} {M : mj_H} : mj_Rn d mj_m137 2 ls st M = mq_k0 d mj_m137 3 ls M (mj_pu .isub ls st) := mj_R0 (r := (.isub, 1, 0, 0, 0)) rfl rfl
theorem s137_3 {d : Nat} {ls : mj_L} {st : List Value} {M : mj_H} : mj_Rn d mj_m137 3 ls st M = mq_k1 d mj_m137 4 M (mj_lo 5 (.istore 3) ls st) := (mj_R1 (r := (.istore_n 3, 1, 0, 0, 0)) rfl rfl).trans (congrArg (mq_k1 d mj_m137 4 M) (mq_sti (k := 3)))
theorem s137_4 {d : Nat} {ls : mj_L} {st : List Value} {M : mj_H} : mj_Rn d mj_m137 4 ls st M = mq_k0 d mj_m137 5 ls M (mj_ldi (mj_lk ls 3) st) := mj_R0 (r := (.iload_n 3, 1, 0, 0, 0)) rfl rfl
theorem s137_5 {d : Nat} {ls : mj_L} {st : List Value} {M : mj_H} : mj_Rn d mj_m137 5 ls st M = mq_k2 d mj_m137 ls M (mj_br (.ifCond .lt 32) 5 st) := mj_R2 (r := (.ifCond .lt 32, 3, 0, 0, 0)) rfl rfl
theorem s137_8 {d : Nat} {ls : mj_L} {st : List Value} {M : mj_H} : mj_Rn d mj_m137 8 ls st M = mq_k0 d mj_m137 9 ls M (mj_lda (mj_lk ls 0) st) := mj_R0 (r := (.aload_n 0, 1, 0, 0, 0)) rfl rfl
theorem s137_9 {d : Nat} {ls : mj_L} {st : List Value} {M : mj_H} : mj_Rn d mj_m137 9 ls st M = mq_k0 d mj_m137 10 ls M (mj_ldi (mj_lk ls 3) st) := mj_R0 (r := (.iload_n 3, 1, 0, 0, 0)) rfl rfl
theorem s137_10 {d : Nat} {ls : mj_L} {st : List Value} {M : mj_H} : mj_Rn (d + 1) mj_m137 10 ls st M = mq_k5a (d + 1) mj_m137 13 ls M 61 (mq_cb 0 1 8 st M) := mj_R5e (r := (.invokevirtual 180, 3, 0, 61, 12365)) (z := mj_m61) rfl rfl (by decide) (by decide) rfl
theorem s137_13 {d : Nat} {ls : mj_L} {st : List Value} {M : mj_H} : mj_Rn d mj_m137 13 ls st M = mq_k1 d mj_m137 15 M (mj_lo 5 (.astore 4) ls st) := mj_R1 (r := (.astore 4, 2, 0, 0, 0)) rfl rfl
theorem s137_15 {d : Nat} {ls : mj_L} {st : List Value} {M : mj_H} : mj_Rn d mj_m137 15 ls st M = mq_k0 d mj_m137 17 ls M (mj_lda (mj_lk ls 4) st) := mj_R0 (r := (.aload 4, 2, 0, 0, 0)) rfl rfl
theorem s137_17 {d : Nat} {ls : mj_L} {st : List Value} {M : mj_H} : mj_Rn d mj_m137 17 ls st M = mq_k2 d mj_m137 ls M (mj_br (.ifnull 14) 17 st) := mj_R2 (r := (.ifnull 14, 3, 0, 0, 0)) rfl rfl
theorem s137_20 {d : Nat} {ls : mj_L} {st : List Value} {M : mj_H} : mj_Rn d mj_m137 20 ls st M = mq_k0 d mj_m137 22 ls M (mj_lda (mj_lk ls 4) st) := mj_R0 (r := (.aload 4, 2, 0, 0, 0)) rfl rfl
theorem s137_22 {d : Nat} {ls : mj_L} {st : List Value} {M : mj_H} : mj_Rn d mj_m137 22 ls st M = mq_k0 d mj_m137 25 ls M (mq_gf 2 1 st M) := (mj_R3 (r := (.getfield 151, 3, 2, 1, 16429)) rfl rfl).trans (congrArg (mq_k0 d mj_m137 25 ls M) mq_gf_eq)
theorem s137_25 {d : Nat} {ls : mj_L} {st : List Value} {M : mj_H} : mj_Rn d mj_m137 25 ls st M = mq_k0 d mj_m137 26 ls M (mj_ldi (mj_lk ls 2) st) := mj_R0 (r := (.iload_n 2, 1, 0, 0, 0)) rfl rfl
theorem s137_26 {d : Nat} {ls : mj_L} {st : List Value} {M : mj_H} : mj_Rn d mj_m137 26 ls st M = mq_k2 d mj_m137 ls M (mj_br (.if_icmp .ne 5) 26 st) := mj_R2 (r := (.if_icmp .ne 5, 3, 0, 0, 0)) rfl rfl
theorem s137_29 {d : Nat} {ls : mj_L} {st : List Value} {M : mj_H} : mj_Rn d mj_m137 29 ls st M = mq_k0 d mj_m137 30 ls M (mj_ldi (mj_lk ls 3) st) := mj_R0 (r := (.iload_n 3, 1, 0, 0, 0)) rfl rfl
theorem s137_30 {d : Nat} {ls : mj_L} {st : List Value} {M : mj_H} : mj_Rn d mj_m137 30 ls st M = mq_k6 M (mj_re (some .int) (.ireturn) st) := mj_R6 (r := (.ireturn, 1, 0, 0, 0)) rfl rfl
theorem s137_31 {d : Nat} {ls : mj_L} {st : List Value} {M : mj_H} : mj_Rn d mj_m137 31 ls st M = mq_k1 d mj_m137 34 M (mj_lo 5 (.iinc 3 (-1)) ls st) := mj_R1 (r := (.iinc 3 (-1), 3, 0, 0, 0)) rfl rfl
theorem s137_34 {d : Nat} {ls : mj_L} {st : List Value} {M : mj_H} : mj_Rn d mj_m137 34 ls st M = mj_Rn d mj_m137 4 ls st M := mj_R2 (r := (.goto (-30), 3, 0, 0, 0)) rfl rfl
theorem s137_37 {d : Nat} {ls : mj_L} {st : List Value} {M : mj_H} : mj_Rn d mj_m137 37 ls st M = mj_Rn d mj_m137 38 ls (.int (-1) :: st) M := mj_R0 (r := (.iconst (-1), 1, 0, 0, 0)) rfl rfl
theorem s137_38 {d : Nat} {ls : mj_L} {st : List Value} {M : mj_H} : mj_Rn d mj_m137 38 ls st M = mq_k6 M (mj_re (some .int) (.ireturn) st) := mj_R6 (r := (.ireturn, 1, 0, 0, 0)) rfl rfl
/- 139 PasskeyHouse$Store.countOfParty(I)I -/
theorem s139_0 {d : Nat} {ls : mj_L} {st : List Value} {M : mj_H} : mj_Rn d mj_m139 0 ls st M = mj_Rn d mj_m139 1 ls (.int 0 :: st) M := mj_R0 (r := (.iconst 0, 1, 0, 0, 0)) rfl rfl
theorem s139_1 {d : Nat} {ls : mj_L} {st : List Value} {M : mj_H} : mj_Rn d mj_m139 1 ls st M = mq_k1 d mj_m139 2 M (mj_lo 5 (.istore 2) ls st) := (mj_R1 (r := (.istore_n 2, 1, 0, 0, 0)) rfl rfl).trans (congrArg (mq_k1 d mj_m139 2 M) (mq_sti (k := 2)))
theorem s139_2 {d : Nat} {ls : mj_L} {st : List Value} {M : mj_H} : mj_Rn d mj_m139 2 ls st M = mj_Rn d mj_m139 3 ls (.int 0 :: st) M := mj_R0 (r := (.iconst 0, 1, 0, 0, 0)) rfl rfl
theorem s139_3 {d : Nat} {ls : mj_L} {st : List Value} {M : mj_H} : mj_Rn d mj_m139 3 ls st M = mq_k1 d mj_m139 4 M (mj_lo 5 (.istore 3) ls st) := (mj_R1 (r := (.istore_n 3, 1, 0, 0, 0)) rfl rfl).trans (congrArg (mq_k1 d mj_m139 4 M) (mq_sti (k := 3)))
theorem s139_4 {d : Nat} {ls : mj_L} {st : List Value} {M : mj_H} : mj_Rn d mj_m139 4 ls st M = mq_k0 d mj_m139 5 ls M (mj_ldi (mj_lk ls 3) st) := mj_R0 (r := (.iload_n 3, 1, 0, 0, 0)) rfl rfl
theorem s139_5 {d : Nat} {ls : mj_L} {st : List Value} {M : mj_H} : mj_Rn d mj_m139 5 ls st M = mq_k0 d mj_m139 6 ls M (mj_lda (mj_lk ls 0) st) := mj_R0 (r := (.aload_n 0, 1, 0, 0, 0)) rfl rfl
theorem s139_6 {d : Nat} {ls : mj_L} {st : List Value} {M : mj_H} : mj_Rn d mj_m139 6 ls st M = mq_k0 d mj_m139 9 ls M (mq_gf 8 14 st M) := (mj_R3 (r := (.getfield 124, 3, 8, 14, 16526)) rfl rfl).trans (congrArg (mq_k0 d mj_m139 9 ls M) mq_gf_eq)
theorem s139_9 {d : Nat} {ls : mj_L} {st : List Value} {M : mj_H} : mj_Rn d mj_m139 9 ls st M = mq_k2 d mj_m139 ls M (mj_br (.if_icmp .ge 38) 9 st) := mj_R2 (r := (.if_icmp .ge 38, 3, 0, 0, 0)) rfl rfl
theorem s139_12 {d : Nat} {ls : mj_L} {st : List Value} {M : mj_H} : mj_Rn d mj_m139 12 ls st M = mq_k0 d mj_m139 13 ls M (mj_lda (mj_lk ls 0) st) := mj_R0 (r := (.aload_n 0, 1, 0, 0, 0)) rfl rfl
theorem s139_13 {d : Nat} {ls : mj_L} {st : List Value} {M : mj_H} : mj_Rn d mj_m139 13 ls st M = mq_k0 d mj_m139 14 ls M (mj_ldi (mj_lk ls 3) st) := mj_R0 (r := (.iload_n 3, 1, 0, 0, 0)) rfl rfl
theorem s139_14 {d : Nat} {ls : mj_L} {st : List Value} {M : mj_H} : mj_Rn (d + 1) mj_m139 14 ls st M = mq_k5a (d + 1) mj_m139 17 ls M 61 (mq_cb 0 1 8 st M) := mj_R5e (r := (.invokevirtual 180, 3, 0, 61, 12365)) (z := mj_m61) rfl rfl (by decide) (by decide) rfl
theorem s139_17 {d : Nat} {ls : mj_L} {st : List Value} {M : mj_H} : mj_Rn d mj_m139 17 ls st M = mq_k1 d mj_m139 19 M (mj_lo 5 (.astore 4) ls st) := mj_R1 (r := (.astore 4, 2, 0, 0, 0)) rfl rfl
theorem s139_19 {d : Nat} {ls : mj_L} {st : List Value} {M : mj_H} : mj_Rn d mj_m139 19 ls st M = mq_k0 d mj_m139 20 ls M (mj_ldi (mj_lk ls 2) st) := mj_R0 (r := (.iload_n 2, 1, 0, 0, 0)) rfl rfl
theorem s139_20 {d : Nat} {ls : mj_L} {st : List Value} {M : mj_H} : mj_Rn d mj_m139 20 ls st M = mq_k0 d mj_m139 22 ls M (mj_lda (mj_lk ls 4) st) := mj_R0 (r := (.aload 4, 2, 0, 0, 0)) rfl rfl
theorem s139_22 {d : Nat} {ls : mj_L} {st : List Value} {M : mj_H} : mj_Rn d mj_m139 22 ls st M = mq_k2 d mj_m139 ls M (mj_br (.ifnull 16) 22 st) := mj_R2 (r := (.ifnull 16, 3, 0, 0, 0)) rfl rfl
theorem s139_25 {d : Nat} {ls : mj_L} {st : List Value} {M : mj_H} : mj_Rn d mj_m139 25 ls st M = mq_k0 d mj_m139 27 ls M (mj_lda (mj_lk ls 4) st) := mj_R0 (r := (.aload 4, 2, 0, 0, 0)) rfl rfl
theorem s139_27 {d : Nat} {ls : mj_L} {st : List Value} {M : mj_H} : mj_Rn d mj_m139 27 ls st M = mq_k0 d mj_m139 30 ls M (mq_gf 2 1 st M) := (mj_R3 (r := (.getfield 151, 3, 2, 1, 16429)) rfl rfl).trans (congrArg (mq_k0 d mj_m139 30 ls M) mq_gf_eq)
theorem s139_30 {d : Nat} {ls : mj_L} {st : List Value} {M : mj_H} : mj_Rn d mj_m139 30 ls st M = mq_k0 d mj_m139 31 ls M (mj_ldi (mj_lk ls 1) st) := mj_R0 (r := (.iload_n 1, 1, 0, 0, 0)) rfl rfl
theorem s139_31 {d : Nat} {ls : mj_L} {st : List Value} {M : mj_H} : mj_Rn d mj_m139 31 ls st M = mq_k2 d mj_m139 ls M (mj_br (.if_icmp .ne 7) 31 st) := mj_R2 (r := (.if_icmp .ne 7, 3, 0, 0, 0)) rfl rfl
theorem s139_34 {d : Nat} {ls : mj_L} {st : List Value} {M : mj_H} : mj_Rn d mj_m139 34 ls st M = mj_Rn d mj_m139 35 ls (.int 1 :: st) M := mj_R0 (r := (.iconst 1, 1, 0, 0, 0)) rfl rfl
theorem s139_35 {d : Nat} {ls : mj_L} {st : List Value} {M : mj_H} : mj_Rn d mj_m139 35 ls st M = mj_Rn d mj_m139 39 ls st M := mj_R2 (r := (.goto 4, 3, 0, 0, 0)) rfl rfl
theorem s139_38 {d : Nat} {ls : mj_L} {st : List Value} {M : mj_H} : mj_Rn d mj_m139 38 ls st M = mj_Rn d mj_m139 39 ls (.int 0 :: st) M := mj_R0 (r := (.iconst 0, 1, 0, 0, 0)) rfl rfl
theorem s139_39 {d : Nat} {ls : mj_L} {st : List Value} {M : mj_H} : mj_Rn d mj_m139 39 ls st M = mq_k0 d mj_m139 40 ls M (mj_pu .iadd ls st) := mj_R0 (r := (.iadd, 1, 0, 0, 0)) rfl rfl
theorem s139_40 {d : Nat} {ls : mj_L} {st : List Value} {M : mj_H} : mj_Rn d mj_m139 40 ls st M = mq_k1 d mj_m139 41 M (mj_lo 5 (.istore 2) ls st) := (mj_R1 (r := (.istore_n 2, 1, 0, 0, 0)) rfl rfl).trans (congrArg (mq_k1 d mj_m139 41 M) (mq_sti (k := 2)))
theorem s139_41 {d : Nat} {ls : mj_L} {st : List Value} {M : mj_H} : mj_Rn d mj_m139 41 ls st M = mq_k1 d mj_m139 44 M (mj_lo 5 (.iinc 3 1) ls st) := mj_R1 (r := (.iinc 3 1, 3, 0, 0, 0)) rfl rfl
theorem s139_44 {d : Nat} {ls : mj_L} {st : List Value} {M : mj_H} : mj_Rn d mj_m139 44 ls st M = mj_Rn d mj_m139 4 ls st M := mj_R2 (r := (.goto (-40), 3, 0, 0, 0)) rfl rfl
theorem s139_47 {d : Nat} {ls : mj_L} {st : List Value} {M : mj_H} : mj_Rn d mj_m139 47 ls st M = mq_k0 d mj_m139 48 ls M (mj_ldi (mj_lk ls 2) st) := mj_R0 (r := (.iload_n 2, 1, 0, 0, 0)) rfl rfl
theorem s139_48 {d : Nat} {ls : mj_L} {st : List Value} {M : mj_H} : mj_Rn d mj_m139 48 ls st M = mq_k6 M (mj_re (some .int) (.ireturn) st) := mj_R6 (r := (.ireturn, 1, 0, 0, 0)) rfl rfl
/- 163 PasskeyHouse$Store.tells(I)I -/
theorem s163_0 {d : Nat} {ls : mj_L} {st : List Value} {M : mj_H} : mj_Rn d mj_m163 0 ls st M = mq_k0 d mj_m163 1 ls M (mj_lda (mj_lk ls 0) st) := mj_R0 (r := (.aload_n 0, 1, 0, 0, 0)) rfl rfl
theorem s163_1 {d : Nat} {ls : mj_L} {st : List Value} {M : mj_H} : mj_Rn d mj_m163 1 ls st M = mq_k0 d mj_m163 4 ls M (mq_gf 8 4 st M) := (mj_R3 (r := (.getfield 34, 3, 8, 4, 16492)) rfl rfl).trans (congrArg (mq_k0 d mj_m163 4 ls M) mq_gf_eq)
theorem s163_4 {d : Nat} {ls : mj_L} {st : List Value} {M : mj_H} : mj_Rn d mj_m163 4 ls st M = mq_k2 d mj_m163 ls M (mj_br (.ifCond .ne 5) 4 st) := mj_R2 (r := (.ifCond .ne 5, 3, 0, 0, 0)) rfl rfl
theorem s163_7 {d : Nat} {ls : mj_L} {st : List Value} {M : mj_H} : mj_Rn d mj_m163 7 ls st M = mj_Rn d mj_m163 8 ls (.int (-1) :: st) M := mj_R0 (r := (.iconst (-1), 1, 0, 0, 0)) rfl rfl
theorem s163_8 {d : Nat} {ls : mj_L} {st : List Value} {M : mj_H} : mj_Rn d mj_m163 8 ls st M = mq_k6 M (mj_re (some .int) (.ireturn) st) := mj_R6 (r := (.ireturn, 1, 0, 0, 0)) rfl rfl
theorem s163_9 {d : Nat} {ls : mj_L} {st : List Value} {M : mj_H} : mj_Rn d mj_m163 9 ls st M = mq_k0 d mj_m163 10 ls M (mj_ldi (mj_lk ls 1) st) := mj_R0 (r := (.iload_n 1, 1, 0, 0, 0)) rfl rfl
theorem s163_10 {d : Nat} {ls : mj_L} {st : List Value} {M : mj_H} : mj_Rn d mj_m163 10 ls st M = mq_k2 d mj_m163 ls M (mj_br (.tableswitch 85 5 11 #[42, 47, 52, 57, 62, 67, 80]) 10 st) := mj_R2 (r := (.tableswitch 85 5 11 #[42, 47, 52, 57, 62, 67, 80], 42, 0, 0, 0)) rfl rfl
theorem s163_52 {d : Nat} {ls : mj_L} {st : List Value} {M : mj_H} : mj_Rn d mj_m163 52 ls st M = mq_k0 d mj_m163 53 ls M (mj_lda (mj_lk ls 0) st) := mj_R0 (r := (.aload_n 0, 1, 0, 0, 0)) rfl rfl
theorem s163_53 {d : Nat} {ls : mj_L} {st : List Value} {M : mj_H} : mj_Rn d mj_m163 53 ls st M = mq_k0 d mj_m163 56 ls M (mq_gf 8 8 st M) := (mj_R3 (r := (.getfield 82, 3, 8, 8, 16506)) rfl rfl).trans (congrArg (mq_k0 d mj_m163 56 ls M) mq_gf_eq)
theorem s163_56 {d : Nat} {ls : mj_L} {st : List Value} {M : mj_H} : mj_Rn d mj_m163 56 ls st M = mq_k6 M (mj_re (some .int) (.ireturn) st) := mj_R6 (r := (.ireturn, 1, 0, 0, 0)) rfl rfl
theorem s163_57 {d : Nat} {ls : mj_L} {st : List Value} {M : mj_H} : mj_Rn d mj_m163 57 ls st M = mq_k0 d mj_m163 58 ls M (mj_lda (mj_lk ls 0) st) := mj_R0 (r := (.aload_n 0, 1, 0, 0, 0)) rfl rfl
theorem s163_58 {d : Nat} {ls : mj_L} {st : List Value} {M : mj_H} : mj_Rn d mj_m163 58 ls st M = mq_k0 d mj_m163 61 ls M (mq_gf 8 7 st M) := (mj_R3 (r := (.getfield 73, 3, 8, 7, 16504)) rfl rfl).trans (congrArg (mq_k0 d mj_m163 61 ls M) mq_gf_eq)
theorem s163_61 {d : Nat} {ls : mj_L} {st : List Value} {M : mj_H} : mj_Rn d mj_m163 61 ls st M = mq_k6 M (mj_re (some .int) (.ireturn) st) := mj_R6 (r := (.ireturn, 1, 0, 0, 0)) rfl rfl
theorem s163_62 {d : Nat} {ls : mj_L} {st : List Value} {M : mj_H} : mj_Rn d mj_m163 62 ls st M = mq_k0 d mj_m163 63 ls M (mj_lda (mj_lk ls 0) st) := mj_R0 (r := (.aload_n 0, 1, 0, 0, 0)) rfl rfl
theorem s163_63 {d : Nat} {ls : mj_L} {st : List Value} {M : mj_H} : mj_Rn d mj_m163 63 ls st M = mq_k0 d mj_m163 66 ls M (mq_gf 8 9 st M) := (mj_R3 (r := (.getfield 88, 3, 8, 9, 16508)) rfl rfl).trans (congrArg (mq_k0 d mj_m163 66 ls M) mq_gf_eq)
theorem s163_66 {d : Nat} {ls : mj_L} {st : List Value} {M : mj_H} : mj_Rn d mj_m163 66 ls st M = mq_k6 M (mj_re (some .int) (.ireturn) st) := mj_R6 (r := (.ireturn, 1, 0, 0, 0)) rfl rfl
theorem s163_67 {d : Nat} {ls : mj_L} {st : List Value} {M : mj_H} : mj_Rn d mj_m163 67 ls st M = mq_k0 d mj_m163 68 ls M (mj_lda (mj_lk ls 0) st) := mj_R0 (r := (.aload_n 0, 1, 0, 0, 0)) rfl rfl
theorem s163_68 {d : Nat} {ls : mj_L} {st : List Value} {M : mj_H} : mj_Rn d mj_m163 68 ls st M = mq_k0 d mj_m163 71 ls M (mq_gf 8 14 st M) := (mj_R3 (r := (.getfield 124, 3, 8, 14, 16526)) rfl rfl).trans (congrArg (mq_k0 d mj_m163 71 ls M) mq_gf_eq)
theorem s163_71 {d : Nat} {ls : mj_L} {st : List Value} {M : mj_H} : mj_Rn d mj_m163 71 ls st M = mq_k6 M (mj_re (some .int) (.ireturn) st) := mj_R6 (r := (.ireturn, 1, 0, 0, 0)) rfl rfl
theorem s163_72 {d : Nat} {ls : mj_L} {st : List Value} {M : mj_H} : mj_Rn d mj_m163 72 ls st M = mq_k0 d mj_m163 73 ls M (mj_lda (mj_lk ls 0) st) := mj_R0 (r := (.aload_n 0, 1, 0, 0, 0)) rfl rfl
theorem s163_73 {d : Nat} {ls : mj_L} {st : List Value} {M : mj_H} : mj_Rn d mj_m163 73 ls st M = mq_k0 d mj_m163 76 ls M (mq_gf 8 12 st M) := (mj_R3 (r := (.getfield 118, 3, 8, 12, 16518)) rfl rfl).trans (congrArg (mq_k0 d mj_m163 76 ls M) mq_gf_eq)
theorem s163_76 {d : Nat} {ls : mj_L} {st : List Value} {M : mj_H} : mj_Rn d mj_m163 76 ls st M = mq_k6 M (mj_re (some .int) (.ireturn) st) := mj_R6 (r := (.ireturn, 1, 0, 0, 0)) rfl rfl
theorem s163_77 {d : Nat} {ls : mj_L} {st : List Value} {M : mj_H} : mj_Rn d mj_m163 77 ls st M = mq_k0 d mj_m163 78 ls M (mj_lda (mj_lk ls 0) st) := mj_R0 (r := (.aload_n 0, 1, 0, 0, 0)) rfl rfl
theorem s163_78 {d : Nat} {ls : mj_L} {st : List Value} {M : mj_H} : mj_Rn d mj_m163 78 ls st M = mq_k0 d mj_m163 81 ls M (mq_gf 8 11 st M) := (mj_R3 (r := (.getfield 115, 3, 8, 11, 16514)) rfl rfl).trans (congrArg (mq_k0 d mj_m163 81 ls M) mq_gf_eq)
theorem s163_81 {d : Nat} {ls : mj_L} {st : List Value} {M : mj_H} : mj_Rn d mj_m163 81 ls st M = mq_k2 d mj_m163 ls M (mj_br (.ifCond .eq 7) 81 st) := mj_R2 (r := (.ifCond .eq 7, 3, 0, 0, 0)) rfl rfl
theorem s163_84 {d : Nat} {ls : mj_L} {st : List Value} {M : mj_H} : mj_Rn d mj_m163 84 ls st M = mj_Rn d mj_m163 85 ls (.int 1 :: st) M := mj_R0 (r := (.iconst 1, 1, 0, 0, 0)) rfl rfl
theorem s163_85 {d : Nat} {ls : mj_L} {st : List Value} {M : mj_H} : mj_Rn d mj_m163 85 ls st M = mj_Rn d mj_m163 89 ls st M := mj_R2 (r := (.goto 4, 3, 0, 0, 0)) rfl rfl
theorem s163_88 {d : Nat} {ls : mj_L} {st : List Value} {M : mj_H} : mj_Rn d mj_m163 88 ls st M = mj_Rn d mj_m163 89 ls (.int 0 :: st) M := mj_R0 (r := (.iconst 0, 1, 0, 0, 0)) rfl rfl
theorem s163_89 {d : Nat} {ls : mj_L} {st : List Value} {M : mj_H} : mj_Rn d mj_m163 89 ls st M = mq_k6 M (mj_re (some .int) (.ireturn) st) := mj_R6 (r := (.ireturn, 1, 0, 0, 0)) rfl rfl
theorem s163_90 {d : Nat} {ls : mj_L} {st : List Value} {M : mj_H} : mj_Rn d mj_m163 90 ls st M = mq_k0 d mj_m163 91 ls M (mj_lda (mj_lk ls 0) st) := mj_R0 (r := (.aload_n 0, 1, 0, 0, 0)) rfl rfl
theorem s163_91 {d : Nat} {ls : mj_L} {st : List Value} {M : mj_H} : mj_Rn d mj_m163 91 ls st M = mq_k0 d mj_m163 94 ls M (mq_gf 8 13 st M) := (mj_R3 (r := (.getfield 121, 3, 8, 13, 16522)) rfl rfl).trans (congrArg (mq_k0 d mj_m163 94 ls M) mq_gf_eq)
theorem s163_94 {d : Nat} {ls : mj_L} {st : List Value} {M : mj_H} : mj_Rn d mj_m163 94 ls st M = mq_k6 M (mj_re (some .int) (.ireturn) st) := mj_R6 (r := (.ireturn, 1, 0, 0, 0)) rfl rfl
theorem s163_95 {d : Nat} {ls : mj_L} {st : List Value} {M : mj_H} : mj_Rn d mj_m163 95 ls st M = mj_Rn d mj_m163 96 ls (.int (-1) :: st) M := mj_R0 (r := (.iconst (-1), 1, 0, 0, 0)) rfl rfl
theorem s163_96 {d : Nat} {ls : mj_L} {st : List Value} {M : mj_H} : mj_Rn d mj_m163 96 ls st M = mq_k6 M (mj_re (some .int) (.ireturn) st) := mj_R6 (r := (.ireturn, 1, 0, 0, 0)) rfl rfl
/- 38 PasskeyHouse$Store.format(I)V -/
theorem s38_0 {d : Nat} {ls : mj_L} {st : List Value} {M : mj_H} : mj_Rn d mj_m38 0 ls st M = mq_k0 d mj_m38 1 ls M (mj_lda (mj_lk ls 0) st) := mj_R0 (r := (.aload_n 0, 1, 0, 0, 0)) rfl rfl
theorem s38_1 {d : Nat} {ls : mj_L} {st : List Value} {M : mj_H} : mj_Rn d mj_m38 1 ls st M = mq_k0 d mj_m38 4 ls M (mq_gf 8 0 st M) := (mj_R3 (r := (.getfield 16, 3, 8, 0, 16480)) rfl rfl).trans (congrArg (mq_k0 d mj_m38 4 ls M) mq_gf_eq)
theorem s38_4 {d : Nat} {ls : mj_L} {st : List Value} {M : mj_H} : mj_Rn d mj_m38 4 ls st M = mj_Rn d mj_m38 7 ls (.int 255 :: st) M := mj_R0 (r := (.sipush 255, 3, 0, 0, 0)) rfl rfl
theorem s38_7 {d : Nat} {ls : mj_L} {st : List Value} {M : mj_H} : mj_Rn (d + 1) mj_m38 7 ls st M = mq_k5a (d + 1) mj_m38 10 ls M 39 (mq_cb 0 1 1 st M) := mj_R5e (r := (.invokevirtual 45, 3, 0, 39, 8410)) (z := mj_m39) rfl rfl (by decide) (by decide) rfl
theorem s38_10 {d : Nat} {ls : mj_L} {st : List Value} {M : mj_H} : mj_Rn d mj_m38 10 ls st M = mq_k0 d mj_m38 11 ls M (mj_lda (mj_lk ls 0) st) := mj_R0 (r := (.aload_n 0, 1, 0, 0, 0)) rfl rfl
theorem s38_11 {d : Nat} {ls : mj_L} {st : List Value} {M : mj_H} : mj_Rn d mj_m38 11 ls st M = mj_Rn d mj_m38 12 ls (.int 1 :: st) M := mj_R0 (r := (.iconst 1, 1, 0, 0, 0)) rfl rfl
theorem s38_12 {d : Nat} {ls : mj_L} {st : List Value} {M : mj_H} : mj_Rn (d + 1) mj_m38 12 ls st M = mq_k5a (d + 1) mj_m38 15 ls M 41 (mq_cb 0 1 8 st M) := mj_R5e (r := (.invokevirtual 48, 3, 0, 41, 8417)) (z := mj_m41) rfl rfl (by decide) (by decide) rfl
theorem s38_15 {d : Nat} {ls : mj_L} {st : List Value} {M : mj_H} : mj_Rn d mj_m38 15 ls st M = mq_k0 d mj_m38 16 ls M (mj_lda (mj_lk ls 0) st) := mj_R0 (r := (.aload_n 0, 1, 0, 0, 0)) rfl rfl
theorem s38_16 {d : Nat} {ls : mj_L} {st : List Value} {M : mj_H} : mj_Rn d mj_m38 16 ls st M = mj_Rn d mj_m38 17 ls (.int 0 :: st) M := mj_R0 (r := (.iconst 0, 1, 0, 0, 0)) rfl rfl
theorem s38_17 {d : Nat} {ls : mj_L} {st : List Value} {M : mj_H} : mj_Rn (d + 1) mj_m38 17 ls st M = mq_k5a (d + 1) mj_m38 20 ls M 43 (mq_cb 0 1 8 st M) := mj_R5e (r := (.invokevirtual 51, 3, 0, 43, 8428)) (z := mj_m43) rfl rfl (by decide) (by decide) rfl
theorem s38_20 {d : Nat} {ls : mj_L} {st : List Value} {M : mj_H} : mj_Rn d mj_m38 20 ls st M = mq_k0 d mj_m38 21 ls M (mj_lda (mj_lk ls 0) st) := mj_R0 (r := (.aload_n 0, 1, 0, 0, 0)) rfl rfl
theorem s38_21 {d : Nat} {ls : mj_L} {st : List Value} {M : mj_H} : mj_Rn d mj_m38 21 ls st M = mj_Rn d mj_m38 22 ls (.int 1 :: st) M := mj_R0 (r := (.iconst 1, 1, 0, 0, 0)) rfl rfl
theorem s38_22 {d : Nat} {ls : mj_L} {st : List Value} {M : mj_H} : mj_Rn d mj_m38 22 ls st M = mq_k0 d mj_m38 23 ls M (mj_ldi (mj_lk ls 1) st) := mj_R0 (r := (.iload_n 1, 1, 0, 0, 0)) rfl rfl
theorem s38_23 {d : Nat} {ls : mj_L} {st : List Value} {M : mj_H} : mj_Rn d mj_m38 23 ls st M = mj_Rn d mj_m38 24 ls (.int 0 :: st) M := mj_R0 (r := (.iconst 0, 1, 0, 0, 0)) rfl rfl
theorem s38_24 {d : Nat} {ls : mj_L} {st : List Value} {M : mj_H} : mj_Rn d mj_m38 24 ls st M = mj_Rn d mj_m38 25 ls (.null :: st) M := mj_R0 (r := (.aconst_null, 1, 0, 0, 0)) rfl rfl
theorem s38_25 {d : Nat} {ls : mj_L} {st : List Value} {M : mj_H} : mj_Rn (d + 1) mj_m38 25 ls st M = mq_k5a (d + 1) mj_m38 28 ls M 44 (mq_cb 0 4 8 st M) := mj_R5e (r := (.invokevirtual 54, 3, 0, 44, 12291)) (z := mj_m44) rfl rfl (by decide) (by decide) rfl
theorem s38_28 {d : Nat} {ls : mj_L} {st : List Value} {M : mj_H} : mj_Rn d mj_m38 28 ls st M = mq_k0 d mj_m38 29 ls M (mj_lda (mj_lk ls 0) st) := mj_R0 (r := (.aload_n 0, 1, 0, 0, 0)) rfl rfl
theorem s38_29 {d : Nat} {ls : mj_L} {st : List Value} {M : mj_H} : mj_Rn d mj_m38 29 ls st M = mj_Rn d mj_m38 30 ls (.int 4 :: st) M := mj_R0 (r := (.iconst 4, 1, 0, 0, 0)) rfl rfl
theorem s38_30 {d : Nat} {ls : mj_L} {st : List Value} {M : mj_H} : mj_Rn (d + 1) mj_m38 30 ls st M = mq_k5a (d + 1) mj_m38 33 ls M 43 (mq_cb 0 1 8 st M) := mj_R5e (r := (.invokevirtual 51, 3, 0, 43, 8428)) (z := mj_m43) rfl rfl (by decide) (by decide) rfl
theorem s38_33 {d : Nat} {ls : mj_L} {st : List Value} {M : mj_H} : mj_Rn d mj_m38 33 ls st M = mq_k6 M (mj_re none (.return_) st) := mj_R6 (r := (.return_, 1, 0, 0, 0)) rfl rfl
theorem c124 {d : Nat} {a0 : Nat} {x1 : Int32} {x2 : Int64} {x3 : Int32} {M : mj_H} : mj_V (d + 1) 124 [.ref a0, .int x1, .long x2, .int x3] M = mj_Rn d mj_m124 0 [(0, .ref a0), (1, .int x1), (2, .long x2), (4, .int x3)] [] M := mj_V_go rfl (Nat.le_of_ble_eq_true rfl)
theorem c117 {d : Nat} {a0 : Nat} {x1 : Int32} {x2 : Int32} {M : mj_H} : mj_V (d + 1) 117 [.ref a0, .int x1, .int x2] M = mj_Rn d mj_m117 0 [(0, .ref a0), (1, .int x1), (2, .int x2)] [] M := mj_V_go rfl (Nat.le_of_ble_eq_true rfl)
theorem c137 {d : Nat} {a0 : Nat} {x1 : Int32} {x2 : Int32} {M : mj_H} : mj_V (d + 1) 137 [.ref a0, .int x1, .int x2] M = mj_Rn d mj_m137 0 [(0, .ref a0), (1, .int x1), (2, .int x2)] [] M := mj_V_go rfl (Nat.le_of_ble_eq_true rfl)
theorem c139 {d : Nat} {a0 : Nat} {x1 : Int32} {M : mj_H} : mj_V (d + 1) 139 [.ref a0, .int x1] M = mj_Rn d mj_m139 0 [(0, .ref a0), (1, .int x1)] [] M := mj_V_go rfl (Nat.le_of_ble_eq_true rfl)
theorem c163 {d : Nat} {a0 : Nat} {x1 : Int32} {M : mj_H} : mj_V (d + 1) 163 [.ref a0, .int x1] M = mj_Rn d mj_m163 0 [(0, .ref a0), (1, .int x1)] [] M := mj_V_go rfl (Nat.le_of_ble_eq_true rfl)
theorem c38 {d : Nat} {a0 : Nat} {x1 : Int32} {M : mj_H} : mj_V (d + 1) 38 [.ref a0, .int x1] M = mj_Rn d mj_m38 0 [(0, .ref a0), (1, .int x1)] [] M := mj_V_go rfl (Nat.le_of_ble_eq_true rfl)
/-- the room that is needed with a credential of a party and user -/
def fs_need (cr : List Cr) (party : Int32) (u : List Int32) : Nat := 89 + u.length + ((cr.eraseIdx (fs_pl cr party u)).map (fun c => 28 + c.2.2.2.1.length)).sum
def rsum (pl : Nat) : Nat → List Cr → Nat
  | _, [] => 0
  | i, c :: l => (if i = pl then 0 else 28 + c.2.2.2.1.length) + rsum pl (i + 1) l
theorem rsum_le (pl : Nat) : ∀ (l : List Cr) (i : Nat), (∀ c ∈ l, c.2.2.2.1.length ≤ 8) → rsum pl i l ≤ 36 * l.length := by
  intro l
  induction l with
  | nil => intro i _; exact Nat.le_refl _
  | cons c l ih =>
    intro i h
    have h1 := h c (List.mem_cons_self ..)
    have h2 := ih (i + 1) (fun c hc => h c (List.mem_cons_of_mem _ hc))
    rw [rsum, List.length_cons]
    split <;> omega
theorem rsum_eq (pl : Nat) : ∀ (l : List Cr) (i : Nat), i ≤ pl → rsum pl i l = ((l.eraseIdx (pl - i)).map (fun c => 28 + c.2.2.2.1.length)).sum := by
  have after : ∀ (l : List Cr) (i : Nat), pl < i → rsum pl i l = (l.map (fun c => 28 + c.2.2.2.1.length)).sum := by
    intro l
    induction l with
    | nil => intro i _; rfl
    | cons c l ih => intro i hi; rw [rsum, if_neg (by omega), ih _ (by omega)]; simp
  intro l
  induction l with
  | nil => intro i _; simp [rsum]
  | cons c l ih =>
    intro i hi
    rw [rsum]
    by_cases he : i = pl
    · subst he
      rw [if_pos rfl, after _ _ (by omega), Nat.sub_self]
      simp
    · rw [if_neg he, ih (i + 1) (by omega), show pl - i = (pl - (i + 1)) + 1 by omega]
      simp
theorem l_room {d κ pl : Nat} {s : Fl} {r : List Int32} {M : mj_H} {x1 x4 : Int32} {x2 : Int64} (h : ks M κ s r) (hu : okU s.2.2.2.2.2.2.2.2.2.2.2) (hpl : pl ≤ 8) : ∀ (m i n : Nat), i + m = s.2.2.2.2.2.2.2.2.2.2.2.length → n ≤ 97 + 36 * i → mj_Rn (d + 1) mj_m124 20 [(7, .int (nI i)), (6, .int (nI pl)), (5, .int (nI n)), (0, .ref (κ + 1)), (1, .int x1), (2, .long x2), (4, .int x4)] [] M = some (some (.int (on1 (decide (n + rsum pl i (s.2.2.2.2.2.2.2.2.2.2.2.drop i) ≤ 256)))), M) := by
  have hob := h.ob
  unfold so at hob
  have h8 := h.l8
  intro m
  induction m with
  | zero =>
    intro i n hi hn
    rw [List.drop_eq_nil_of_le (by omega)]
    by_cases hz : n ≤ 256
    · simp (disch := (first | omega | decide)) [s124_0, s124_2, s124_4, s124_5, s124_7, s124_8, s124_9, s124_10, s124_12, s124_15, s124_17, s124_18, s124_20, s124_22, s124_23, s124_26, s124_29, s124_30, s124_32, s124_35, s124_37, s124_39, s124_42, s124_44, s124_46, s124_49, s124_51, s124_53, s124_55, s124_58, s124_59, s124_60, s124_62, s124_65, s124_68, s124_70, s124_73, s124_76, s124_77, s124_80, s124_81, mq_k0s, mq_k1s, mq_k2s, mq_k4s, mq_k5s, mq_k5n, mq_k5as, mq_k6s, mj_pu, mj_lo, mj_br, mj_hr, mj_hw, mq_gf, mq_len, mq_al, mq_pf, mq_ok, mj_re, mq_lkm, mq_lkn, mj_ldi, mj_ldl, mj_lda, mj_ii, mj_ll, mj_li, mj_i1, ms_1, ms_2, f1_n, f1_i, f1_r, f1_u, f1_l, f2_n, f2_i, f2_r, f2_u, f2_l, mj_tg, mj_c1, mj_c2, mj_ar, mj_aw, mq_cb, mq_oi, mj_rm, Value.category, -getElem?_pos, List.getElem?_cons_zero, decide_eq_true, decide_eq_false, nl_lt, nl_le, ln_lt, ln_le, nl_eq, ln_eq, nl_add, ln_add, nl_sub, ln_mul, nI_sub, nI_mul, nI_add, nI_lt_iff, nI_le_iff, nI_inj, nI_num, mq_ix, nI_1, nl_mul, nl_div, hob, rsum, hz, on1, narrow_b1]
    · simp (disch := (first | omega | decide)) [s124_0, s124_2, s124_4, s124_5, s124_7, s124_8, s124_9, s124_10, s124_12, s124_15, s124_17, s124_18, s124_20, s124_22, s124_23, s124_26, s124_29, s124_30, s124_32, s124_35, s124_37, s124_39, s124_42, s124_44, s124_46, s124_49, s124_51, s124_53, s124_55, s124_58, s124_59, s124_60, s124_62, s124_65, s124_68, s124_70, s124_73, s124_76, s124_77, s124_80, s124_81, mq_k0s, mq_k1s, mq_k2s, mq_k4s, mq_k5s, mq_k5n, mq_k5as, mq_k6s, mj_pu, mj_lo, mj_br, mj_hr, mj_hw, mq_gf, mq_len, mq_al, mq_pf, mq_ok, mj_re, mq_lkm, mq_lkn, mj_ldi, mj_ldl, mj_lda, mj_ii, mj_ll, mj_li, mj_i1, ms_1, ms_2, f1_n, f1_i, f1_r, f1_u, f1_l, f2_n, f2_i, f2_r, f2_u, f2_l, mj_tg, mj_c1, mj_c2, mj_ar, mj_aw, mq_cb, mq_oi, mj_rm, Value.category, -getElem?_pos, List.getElem?_cons_zero, decide_eq_true, decide_eq_false, nl_lt, nl_le, ln_lt, ln_le, nl_eq, ln_eq, nl_add, ln_add, nl_sub, ln_mul, nI_sub, nI_mul, nI_add, nI_lt_iff, nI_le_iff, nI_inj, nI_num, mq_ix, nI_1, nl_mul, nl_div, hob, rsum, hz, on1, narrow_b0]
  | succ m ih =>
    intro i n hi hn
    have hiL : i < s.2.2.2.2.2.2.2.2.2.2.2.length := by omega
    have hcc := h.cr i _ (List.getElem?_eq_getElem hiL)
    have hus := (hu _ (List.getElem_mem hiL)).1
    have v1 := st_standing (d := d) (i := i) h hiL
    rw [s124_20, List.drop_eq_getElem_cons hiL, rsum]
    generalize s.2.2.2.2.2.2.2.2.2.2.2[i] = c at *
    unfold cc at hcc
    by_cases he : i = pl
    · have r1 := ih (i + 1) n (by omega) (by omega)
      rw [if_pos he, Nat.zero_add]
      subst he
      simp (disch := (first | omega | decide)) [s124_0, s124_2, s124_4, s124_5, s124_7, s124_8, s124_9, s124_10, s124_12, s124_15, s124_17, s124_18, s124_22, s124_23, s124_26, s124_29, s124_30, s124_32, s124_35, s124_37, s124_39, s124_42, s124_44, s124_46, s124_49, s124_51, s124_53, s124_55, s124_58, s124_59, s124_60, s124_62, s124_65, s124_68, s124_70, s124_73, s124_76, s124_77, s124_80, s124_81, mq_k0s, mq_k1s, mq_k2s, mq_k4s, mq_k5s, mq_k5n, mq_k5as, mq_k6s, mj_pu, mj_lo, mj_br, mj_hr, mj_hw, mq_gf, mq_len, mq_al, mq_pf, mq_ok, mj_re, mq_lkm, mq_lkn, mj_ldi, mj_ldl, mj_lda, mj_ii, mj_ll, mj_li, mj_i1, ms_1, ms_2, f1_n, f1_i, f1_r, f1_u, f1_l, f2_n, f2_i, f2_r, f2_u, f2_l, mj_tg, mj_c1, mj_c2, mj_ar, mj_aw, mq_cb, mq_oi, mj_rm, Value.category, -getElem?_pos, List.getElem?_cons_zero, decide_eq_true, decide_eq_false, nl_lt, nl_le, ln_lt, ln_le, nl_eq, ln_eq, nl_add, ln_add, nl_sub, ln_mul, nI_sub, nI_mul, nI_add, nI_lt_iff, nI_le_iff, nI_inj, nI_num, mq_ix, nI_1, nl_mul, nl_div, hob, v1]
      refine mq_wk ?_ r1
      simp [mq_sub, mj_lk]
    · have r1 := ih (i + 1) (n + (28 + c.2.2.2.1.length)) (by omega) (by omega)
      rw [if_neg he, ← Nat.add_assoc]
      simp (disch := (first | omega | decide)) [s124_0, s124_2, s124_4, s124_5, s124_7, s124_8, s124_9, s124_10, s124_12, s124_15, s124_17, s124_18, s124_22, s124_23, s124_26, s124_29, s124_30, s124_32, s124_35, s124_37, s124_39, s124_42, s124_44, s124_46, s124_49, s124_51, s124_53, s124_55, s124_58, s124_59, s124_60, s124_62, s124_65, s124_68, s124_70, s124_73, s124_76, s124_77, s124_80, s124_81, mq_k0s, mq_k1s, mq_k2s, mq_k4s, mq_k5s, mq_k5n, mq_k5as, mq_k6s, mj_pu, mj_lo, mj_br, mj_hr, mj_hw, mq_gf, mq_len, mq_al, mq_pf, mq_ok, mj_re, mq_lkm, mq_lkn, mj_ldi, mj_ldl, mj_lda, mj_ii, mj_ll, mj_li, mj_i1, ms_1, ms_2, f1_n, f1_i, f1_r, f1_u, f1_l, f2_n, f2_i, f2_r, f2_u, f2_l, mj_tg, mj_c1, mj_c2, mj_ar, mj_aw, mq_cb, mq_oi, mj_rm, Value.category, -getElem?_pos, List.getElem?_cons_zero, decide_eq_true, decide_eq_false, nl_lt, nl_le, ln_lt, ln_le, nl_eq, ln_eq, nl_add, ln_add, nl_sub, ln_mul, nI_sub, nI_mul, nI_add, nI_lt_iff, nI_le_iff, nI_inj, nI_num, mq_ix, nI_1, nl_mul, nl_div, hob, v1, he, hcc]
      refine mq_wk ?_ r1
      simp [mq_sub, mj_lk]
theorem st_room {d κ : Nat} {party : Int32} {u : List Int32} {s : Fl} {r : List Int32} {M : mj_H} (h : ks M κ s r) (hu : okU s.2.2.2.2.2.2.2.2.2.2.2) (hul : u.length ≤ 8) (hub : ∀ v ∈ u, v &&& 255 = v) : mj_V (d + 2) 124 [.ref (κ + 1), .int party, .long (bt_lo u), .int (nI u.length)] M = some (some (.int (on1 (decide (fs_need s.2.2.2.2.2.2.2.2.2.2.2 party u ≤ 256)))), M) := by
  have hpv := st_place (d := d) (party := party) h hu hul hub
  have hle : fs_pl s.2.2.2.2.2.2.2.2.2.2.2 party u ≤ s.2.2.2.2.2.2.2.2.2.2.2.length := List.findIdx_le_length
  have h8 := h.l8
  have r1 := l_room (d := d) (pl := fs_pl s.2.2.2.2.2.2.2.2.2.2.2 party u) (x1 := party) (x4 := nI u.length) (x2 := bt_lo u) h hu (by omega) s.2.2.2.2.2.2.2.2.2.2.2.length 0 (89 + u.length) (by omega) (by omega)
  rw [List.drop_zero, rsum_eq _ _ _ (Nat.zero_le _), Nat.sub_zero] at r1
  have hob := h.ob
  unfold so at hob
  simp (disch := (first | omega | decide)) [c124, s124_0, s124_2, s124_4, s124_5, s124_7, s124_8, s124_9, s124_10, s124_12, s124_15, s124_17, s124_18, s124_22, s124_23, s124_26, s124_29, s124_30, s124_32, s124_35, s124_37, s124_39, s124_42, s124_44, s124_46, s124_49, s124_51, s124_53, s124_55, s124_58, s124_59, s124_60, s124_62, s124_65, s124_68, s124_70, s124_73, s124_76, s124_77, s124_80, s124_81, mq_k0s, mq_k1s, mq_k2s, mq_k4s, mq_k5s, mq_k5n, mq_k5as, mq_k6s, mj_pu, mj_lo, mj_br, mj_hr, mj_hw, mq_gf, mq_len, mq_al, mq_pf, mq_ok, mj_re, mq_lkm, mq_lkn, mj_ldi, mj_ldl, mj_lda, mj_ii, mj_ll, mj_li, mj_i1, ms_1, ms_2, f1_n, f1_i, f1_r, f1_u, f1_l, f2_n, f2_i, f2_r, f2_u, f2_l, mj_tg, mj_c1, mj_c2, mj_ar, mj_aw, mq_cb, mq_oi, mj_rm, Value.category, -getElem?_pos, List.getElem?_cons_zero, decide_eq_true, decide_eq_false, nl_lt, nl_le, ln_lt, ln_le, nl_eq, ln_eq, nl_add, ln_add, nl_sub, ln_mul, nI_sub, nI_mul, nI_add, nI_lt_iff, nI_le_iff, nI_inj, nI_num, mq_ix, nI_1, nl_mul, nl_div, hob, hpv]
  exact r1
def fs_id (cr : List Cr) (id party : Int32) : Option Nat := cr.findIdx? (fun c => decide (c.1 = id ∧ c.2.1 = party))
def oI (o : Option Nat) : Int32 := match o with
  | some k => nI k
  | none => -1
theorem l_withId {d κ : Nat} {s : Fl} {r : List Int32} {M : mj_H} {id party : Int32} (h : ks M κ s r) : ∀ (m i : Nat), i + m = s.2.2.2.2.2.2.2.2.2.2.2.length → mj_Rn (d + 1) mj_m117 2 [(3, .int (nI i)), (0, .ref (κ + 1)), (1, .int id), (2, .int party)] [] M = some (some (.int (oI ((fs_id (s.2.2.2.2.2.2.2.2.2.2.2.drop i) id party).map (· + i)))), M) := by
  have hob := h.ob
  unfold so at hob
  have h8 := h.l8
  intro m
  induction m with
  | zero =>
    intro i hi
    rw [List.drop_eq_nil_of_le (by omega)]
    simp (disch := (first | omega | decide)) [s117_0, s117_1, s117_2, s117_3, s117_4, s117_7, s117_10, s117_11, s117_12, s117_15, s117_17, s117_19, s117_22, s117_24, s117_27, s117_28, s117_31, s117_33, s117_36, s117_37, s117_40, s117_41, s117_42, s117_45, s117_48, s117_49, mq_k0s, mq_k1s, mq_k2s, mq_k4s, mq_k5s, mq_k5n, mq_k5as, mq_k6s, mj_pu, mj_lo, mj_br, mj_hr, mj_hw, mq_gf, mq_len, mq_al, mq_pf, mq_ok, mj_re, mq_lkm, mq_lkn, mj_ldi, mj_ldl, mj_lda, mj_ii, mj_ll, mj_li, mj_i1, ms_1, ms_2, f1_n, f1_i, f1_r, f1_u, f1_l, f2_n, f2_i, f2_r, f2_u, f2_l, mj_tg, mj_c1, mj_c2, mj_ar, mj_aw, mq_cb, mq_oi, mj_rm, Value.category, -getElem?_pos, List.getElem?_cons_zero, decide_eq_true, decide_eq_false, nl_lt, nl_le, ln_lt, ln_le, nl_eq, ln_eq, nl_add, ln_add, nl_sub, ln_mul, nI_sub, nI_mul, nI_add, nI_lt_iff, nI_le_iff, nI_inj, nI_num, mq_ix, nI_1, nl_mul, nl_div, hob, fs_id, oI, narrow]
  | succ m ih =>
    intro i hi
    have hiL : i < s.2.2.2.2.2.2.2.2.2.2.2.length := by omega
    have hcc := h.cr i _ (List.getElem?_eq_getElem hiL)
    have v1 := st_standing (d := d) (i := i) h hiL
    have r1 := ih (i + 1) (by omega)
    have ep : (fs_id (s.2.2.2.2.2.2.2.2.2.2.2.drop i) id party).map (· + i) = if s.2.2.2.2.2.2.2.2.2.2.2[i].1 = id ∧ s.2.2.2.2.2.2.2.2.2.2.2[i].2.1 = party then some i else (fs_id (s.2.2.2.2.2.2.2.2.2.2.2.drop (i + 1)) id party).map (· + (i + 1)) := by
      rw [List.drop_eq_getElem_cons hiL]
      unfold fs_id
      rw [List.findIdx?_cons]
      by_cases hq : s.2.2.2.2.2.2.2.2.2.2.2[i].1 = id ∧ s.2.2.2.2.2.2.2.2.2.2.2[i].2.1 = party
      · simp [hq]
      · have hm : ∀ o : Option Nat, (o.map (· + 1)).map (· + i) = o.map (· + (i + 1)) := by
          intro o
          cases o with
          | none => rfl
          | some x => simp; omega
        rw [if_neg hq, if_neg (by simpa using hq)]
        exact hm _
    rw [ep, s117_2]
    generalize s.2.2.2.2.2.2.2.2.2.2.2[i] = c at *
    unfold cc at hcc
    by_cases q1 : c.1 = id
    · by_cases q2 : c.2.1 = party
      · rw [if_pos ⟨q1, q2⟩]
        simp (disch := (first | omega | decide)) [s117_0, s117_1, s117_3, s117_4, s117_7, s117_10, s117_11, s117_12, s117_15, s117_17, s117_19, s117_22, s117_24, s117_27, s117_28, s117_31, s117_33, s117_36, s117_37, s117_40, s117_41, s117_42, s117_45, s117_48, s117_49, mq_k0s, mq_k1s, mq_k2s, mq_k4s, mq_k5s, mq_k5n, mq_k5as, mq_k6s, mj_pu, mj_lo, mj_br, mj_hr, mj_hw, mq_gf, mq_len, mq_al, mq_pf, mq_ok, mj_re, mq_lkm, mq_lkn, mj_ldi, mj_ldl, mj_lda, mj_ii, mj_ll, mj_li, mj_i1, ms_1, ms_2, f1_n, f1_i, f1_r, f1_u, f1_l, f2_n, f2_i, f2_r, f2_u, f2_l, mj_tg, mj_c1, mj_c2, mj_ar, mj_aw, mq_cb, mq_oi, mj_rm, Value.category, -getElem?_pos, List.getElem?_cons_zero, decide_eq_true, decide_eq_false, nl_lt, nl_le, ln_lt, ln_le, nl_eq, ln_eq, nl_add, ln_add, nl_sub, ln_mul, nI_sub, nI_mul, nI_add, nI_lt_iff, nI_le_iff, nI_inj, nI_num, mq_ix, nI_1, nl_mul, nl_div, hob, v1, hcc, q1, q2, oI, narrow]
      · rw [if_neg (fun z => q2 z.2)]
        simp (disch := (first | omega | decide)) [s117_0, s117_1, s117_3, s117_4, s117_7, s117_10, s117_11, s117_12, s117_15, s117_17, s117_19, s117_22, s117_24, s117_27, s117_28, s117_31, s117_33, s117_36, s117_37, s117_40, s117_41, s117_42, s117_45, s117_48, s117_49, mq_k0s, mq_k1s, mq_k2s, mq_k4s, mq_k5s, mq_k5n, mq_k5as, mq_k6s, mj_pu, mj_lo, mj_br, mj_hr, mj_hw, mq_gf, mq_len, mq_al, mq_pf, mq_ok, mj_re, mq_lkm, mq_lkn, mj_ldi, mj_ldl, mj_lda, mj_ii, mj_ll, mj_li, mj_i1, ms_1, ms_2, f1_n, f1_i, f1_r, f1_u, f1_l, f2_n, f2_i, f2_r, f2_u, f2_l, mj_tg, mj_c1, mj_c2, mj_ar, mj_aw, mq_cb, mq_oi, mj_rm, Value.category, -getElem?_pos, List.getElem?_cons_zero, decide_eq_true, decide_eq_false, nl_lt, nl_le, ln_lt, ln_le, nl_eq, ln_eq, nl_add, ln_add, nl_sub, ln_mul, nI_sub, nI_mul, nI_add, nI_lt_iff, nI_le_iff, nI_inj, nI_num, mq_ix, nI_1, nl_mul, nl_div, hob, v1, hcc, q1, q2]
        refine mq_wk ?_ r1
        simp [mq_sub, mj_lk]
    · rw [if_neg (fun z => q1 z.1)]
      simp (disch := (first | omega | decide)) [s117_0, s117_1, s117_3, s117_4, s117_7, s117_10, s117_11, s117_12, s117_15, s117_17, s117_19, s117_22, s117_24, s117_27, s117_28, s117_31, s117_33, s117_36, s117_37, s117_40, s117_41, s117_42, s117_45, s117_48, s117_49, mq_k0s, mq_k1s, mq_k2s, mq_k4s, mq_k5s, mq_k5n, mq_k5as, mq_k6s, mj_pu, mj_lo, mj_br, mj_hr, mj_hw, mq_gf, mq_len, mq_al, mq_pf, mq_ok, mj_re, mq_lkm, mq_lkn, mj_ldi, mj_ldl, mj_lda, mj_ii, mj_ll, mj_li, mj_i1, ms_1, ms_2, f1_n, f1_i, f1_r, f1_u, f1_l, f2_n, f2_i, f2_r, f2_u, f2_l, mj_tg, mj_c1, mj_c2, mj_ar, mj_aw, mq_cb, mq_oi, mj_rm, Value.category, -getElem?_pos, List.getElem?_cons_zero, decide_eq_true, decide_eq_false, nl_lt, nl_le, ln_lt, ln_le, nl_eq, ln_eq, nl_add, ln_add, nl_sub, ln_mul, nI_sub, nI_mul, nI_add, nI_lt_iff, nI_le_iff, nI_inj, nI_num, mq_ix, nI_1, nl_mul, nl_div, hob, v1, hcc, q1]
      refine mq_wk ?_ r1
      simp [mq_sub, mj_lk]
theorem st_withId {d κ : Nat} {s : Fl} {r : List Int32} {M : mj_H} {id party : Int32} (h : ks M κ s r) : mj_V (d + 2) 117 [.ref (κ + 1), .int id, .int party] M = some (some (.int (oI (fs_id s.2.2.2.2.2.2.2.2.2.2.2 id party))), M) := by
  have r1 := l_withId (d := d) (id := id) (party := party) h s.2.2.2.2.2.2.2.2.2.2.2.length 0 (by omega)
  simp only [List.drop_zero, Nat.add_zero, Option.map_id'] at r1
  simp (disch := (first | omega | decide)) [c117, s117_0, s117_1, s117_3, s117_4, s117_7, s117_10, s117_11, s117_12, s117_15, s117_17, s117_19, s117_22, s117_24, s117_27, s117_28, s117_31, s117_33, s117_36, s117_37, s117_40, s117_41, s117_42, s117_45, s117_48, s117_49, mq_k0s, mq_k1s, mq_k2s, mq_k4s, mq_k5s, mq_k5n, mq_k5as, mq_k6s, mj_pu, mj_lo, mj_br, mj_hr, mj_hw, mq_gf, mq_len, mq_al, mq_pf, mq_ok, mj_re, mq_lkm, mq_lkn, mj_ldi, mj_ldl, mj_lda, mj_ii, mj_ll, mj_li, mj_i1, ms_1, ms_2, f1_n, f1_i, f1_r, f1_u, f1_l, f2_n, f2_i, f2_r, f2_u, f2_l, mj_tg, mj_c1, mj_c2, mj_ar, mj_aw, mq_cb, mq_oi, mj_rm, Value.category, -getElem?_pos, List.getElem?_cons_zero, decide_eq_true, decide_eq_false, nl_lt, nl_le, ln_lt, ln_le, nl_eq, ln_eq, nl_add, ln_add, nl_sub, ln_mul, nI_sub, nI_mul, nI_add, nI_lt_iff, nI_le_iff, nI_inj, nI_num, mq_ix, nI_1, nl_mul, nl_div]
  exact r1
/-- the last one of a party before a place -/
def fs_last (cr : List Cr) (party : Int32) : Nat → Option Nat
  | 0 => none
  | k + 1 => if (cr[k]?).any (fun c => decide (c.2.1 = party)) then some k else fs_last cr party k
theorem l_last {d κ : Nat} {s : Fl} {r : List Int32} {M : mj_H} {x1 party : Int32} (h : ks M κ s r) : ∀ (k : Nat), k < 2 ^ 30 → mj_Rn (d + 1) mj_m137 4 [(3, .int (nI k + -1)), (0, .ref (κ + 1)), (1, .int x1), (2, .int party)] [] M = some (some (.int (oI (fs_last s.2.2.2.2.2.2.2.2.2.2.2 party k))), M) := by
  have hob := h.ob
  unfold so at hob
  intro k
  induction k with
  | zero =>
    intro _
    rw [show nI 0 + -1 = -1 from by decide]
    simp (disch := (first | omega | decide)) [s137_0, s137_1, s137_2, s137_3, s137_4, s137_5, s137_8, s137_9, s137_10, s137_13, s137_15, s137_17, s137_20, s137_22, s137_25, s137_26, s137_29, s137_30, s137_31, s137_34, s137_37, s137_38, mq_k0s, mq_k1s, mq_k2s, mq_k4s, mq_k5s, mq_k5n, mq_k5as, mq_k6s, mj_pu, mj_lo, mj_br, mj_hr, mj_hw, mq_gf, mq_len, mq_al, mq_pf, mq_ok, mj_re, mq_lkm, mq_lkn, mj_ldi, mj_ldl, mj_lda, mj_ii, mj_ll, mj_li, mj_i1, ms_1, ms_2, f1_n, f1_i, f1_r, f1_u, f1_l, f2_n, f2_i, f2_r, f2_u, f2_l, mj_tg, mj_c1, mj_c2, mj_ar, mj_aw, mq_cb, mq_oi, mj_rm, Value.category, -getElem?_pos, List.getElem?_cons_zero, decide_eq_true, decide_eq_false, nl_lt, nl_le, ln_lt, ln_le, nl_eq, ln_eq, nl_add, ln_add, nl_sub, ln_mul, nI_sub, nI_mul, nI_add, nI_lt_iff, nI_le_iff, nI_inj, nI_num, mq_ix, nI_1, nl_mul, nl_div, fs_last, oI, narrow]
  | succ k ih =>
    intro hk
    have r1 := ih (by omega)
    rw [show nI (k + 1) + -1 = nI k from by rw [← nI_add]; show nI k + nI 1 + -1 = nI k; rw [Int32.add_assoc]; rw [show nI 1 + -1 = 0 from by decide]; simp]
    rw [fs_last, s137_4]
    by_cases hlt : k < s.2.2.2.2.2.2.2.2.2.2.2.length
    · have hcc := h.cr k _ (List.getElem?_eq_getElem hlt)
      have v1 := st_standing (d := d) (i := k) h hlt
      rw [List.getElem?_eq_getElem hlt, Option.any_some]
      generalize s.2.2.2.2.2.2.2.2.2.2.2[k] = c at *
      unfold cc at hcc
      by_cases q1 : c.2.1 = party
      · simp (disch := (first | omega | decide)) [s137_0, s137_1, s137_2, s137_3, s137_5, s137_8, s137_9, s137_10, s137_13, s137_15, s137_17, s137_20, s137_22, s137_25, s137_26, s137_29, s137_30, s137_31, s137_34, s137_37, s137_38, mq_k0s, mq_k1s, mq_k2s, mq_k4s, mq_k5s, mq_k5n, mq_k5as, mq_k6s, mj_pu, mj_lo, mj_br, mj_hr, mj_hw, mq_gf, mq_len, mq_al, mq_pf, mq_ok, mj_re, mq_lkm, mq_lkn, mj_ldi, mj_ldl, mj_lda, mj_ii, mj_ll, mj_li, mj_i1, ms_1, ms_2, f1_n, f1_i, f1_r, f1_u, f1_l, f2_n, f2_i, f2_r, f2_u, f2_l, mj_tg, mj_c1, mj_c2, mj_ar, mj_aw, mq_cb, mq_oi, mj_rm, Value.category, -getElem?_pos, List.getElem?_cons_zero, decide_eq_true, decide_eq_false, nl_lt, nl_le, ln_lt, ln_le, nl_eq, ln_eq, nl_add, ln_add, nl_sub, ln_mul, nI_sub, nI_mul, nI_add, nI_lt_iff, nI_le_iff, nI_inj, nI_num, mq_ix, nI_1, nl_mul, nl_div, hob, v1, hcc, q1, oI, narrow]
      · simp (disch := (first | omega | decide)) [s137_0, s137_1, s137_2, s137_3, s137_5, s137_8, s137_9, s137_10, s137_13, s137_15, s137_17, s137_20, s137_22, s137_25, s137_26, s137_29, s137_30, s137_31, s137_34, s137_37, s137_38, mq_k0s, mq_k1s, mq_k2s, mq_k4s, mq_k5s, mq_k5n, mq_k5as, mq_k6s, mj_pu, mj_lo, mj_br, mj_hr, mj_hw, mq_gf, mq_len, mq_al, mq_pf, mq_ok, mj_re, mq_lkm, mq_lkn, mj_ldi, mj_ldl, mj_lda, mj_ii, mj_ll, mj_li, mj_i1, ms_1, ms_2, f1_n, f1_i, f1_r, f1_u, f1_l, f2_n, f2_i, f2_r, f2_u, f2_l, mj_tg, mj_c1, mj_c2, mj_ar, mj_aw, mq_cb, mq_oi, mj_rm, Value.category, -getElem?_pos, List.getElem?_cons_zero, decide_eq_true, decide_eq_false, nl_lt, nl_le, ln_lt, ln_le, nl_eq, ln_eq, nl_add, ln_add, nl_sub, ln_mul, nI_sub, nI_mul, nI_add, nI_lt_iff, nI_le_iff, nI_inj, nI_num, mq_ix, nI_1, nl_mul, nl_div, hob, v1, hcc, q1]
        refine mq_wk ?_ r1
        simp [mq_sub, mj_lk]
    · have v1 := st_standing0 (d := d) (i := nI k) h (Or.inr ⟨k, rfl, by omega, by omega⟩)
      rw [List.getElem?_eq_none (by omega), Option.any_none]
      simp (disch := (first | omega | decide)) [s137_0, s137_1, s137_2, s137_3, s137_5, s137_8, s137_9, s137_10, s137_13, s137_15, s137_17, s137_20, s137_22, s137_25, s137_26, s137_29, s137_30, s137_31, s137_34, s137_37, s137_38, mq_k0s, mq_k1s, mq_k2s, mq_k4s, mq_k5s, mq_k5n, mq_k5as, mq_k6s, mj_pu, mj_lo, mj_br, mj_hr, mj_hw, mq_gf, mq_len, mq_al, mq_pf, mq_ok, mj_re, mq_lkm, mq_lkn, mj_ldi, mj_ldl, mj_lda, mj_ii, mj_ll, mj_li, mj_i1, ms_1, ms_2, f1_n, f1_i, f1_r, f1_u, f1_l, f2_n, f2_i, f2_r, f2_u, f2_l, mj_tg, mj_c1, mj_c2, mj_ar, mj_aw, mq_cb, mq_oi, mj_rm, Value.category, -getElem?_pos, List.getElem?_cons_zero, decide_eq_true, decide_eq_false, nl_lt, nl_le, ln_lt, ln_le, nl_eq, ln_eq, nl_add, ln_add, nl_sub, ln_mul, nI_sub, nI_mul, nI_add, nI_lt_iff, nI_le_iff, nI_inj, nI_num, mq_ix, nI_1, nl_mul, nl_div, hob, v1]
      refine mq_wk ?_ r1
      simp [mq_sub, mj_lk]
theorem st_last {d κ k : Nat} {s : Fl} {r : List Int32} {M : mj_H} {party : Int32} (h : ks M κ s r) (hk : k < 2 ^ 30) : mj_V (d + 2) 137 [.ref (κ + 1), .int (nI k), .int party] M = some (some (.int (oI (fs_last s.2.2.2.2.2.2.2.2.2.2.2 party k))), M) := by
  have r1 := l_last (d := d) (x1 := nI k) (party := party) h k hk
  have hob := h.ob
  unfold so at hob
  simp (disch := (first | omega | decide)) [c137, s137_0, s137_1, s137_2, s137_3, s137_5, s137_8, s137_9, s137_10, s137_13, s137_15, s137_17, s137_20, s137_22, s137_25, s137_26, s137_29, s137_30, s137_31, s137_34, s137_37, s137_38, mq_k0s, mq_k1s, mq_k2s, mq_k4s, mq_k5s, mq_k5n, mq_k5as, mq_k6s, mj_pu, mj_lo, mj_br, mj_hr, mj_hw, mq_gf, mq_len, mq_al, mq_pf, mq_ok, mj_re, mq_lkm, mq_lkn, mj_ldi, mj_ldl, mj_lda, mj_ii, mj_ll, mj_li, mj_i1, ms_1, ms_2, f1_n, f1_i, f1_r, f1_u, f1_l, f2_n, f2_i, f2_r, f2_u, f2_l, mj_tg, mj_c1, mj_c2, mj_ar, mj_aw, mq_cb, mq_oi, mj_rm, Value.category, -getElem?_pos, List.getElem?_cons_zero, decide_eq_true, decide_eq_false, nl_lt, nl_le, ln_lt, ln_le, nl_eq, ln_eq, nl_add, ln_add, nl_sub, ln_mul, nI_sub, nI_mul, nI_add, nI_lt_iff, nI_le_iff, nI_inj, nI_num, mq_ix, nI_1, nl_mul, nl_div, hob]
  have e : nI k - 1 = nI k + -1 := by rw [Int32.sub_eq_add_neg]
  rw [e]
  exact r1
def fs_many (cr : List Cr) (party : Int32) : Nat := cr.countP (fun c => decide (c.2.1 = party))
theorem l_many {d κ : Nat} {s : Fl} {r : List Int32} {M : mj_H} {party : Int32} (h : ks M κ s r) : ∀ (m i n : Nat), i + m = s.2.2.2.2.2.2.2.2.2.2.2.length → n ≤ i → mj_Rn (d + 1) mj_m139 4 [(3, .int (nI i)), (2, .int (nI n)), (0, .ref (κ + 1)), (1, .int party)] [] M = some (some (.int (nI (n + fs_many (s.2.2.2.2.2.2.2.2.2.2.2.drop i) party))), M) := by
  have hob := h.ob
  unfold so at hob
  have h8 := h.l8
  intro m
  induction m with
  | zero =>
    intro i n hi hn
    rw [List.drop_eq_nil_of_le (by omega)]
    simp (disch := (first | omega | decide)) [s139_0, s139_1, s139_2, s139_3, s139_4, s139_5, s139_6, s139_9, s139_12, s139_13, s139_14, s139_17, s139_19, s139_20, s139_22, s139_25, s139_27, s139_30, s139_31, s139_34, s139_35, s139_38, s139_39, s139_40, s139_41, s139_44, s139_47, s139_48, mq_k0s, mq_k1s, mq_k2s, mq_k4s, mq_k5s, mq_k5n, mq_k5as, mq_k6s, mj_pu, mj_lo, mj_br, mj_hr, mj_hw, mq_gf, mq_len, mq_al, mq_pf, mq_ok, mj_re, mq_lkm, mq_lkn, mj_ldi, mj_ldl, mj_lda, mj_ii, mj_ll, mj_li, mj_i1, ms_1, ms_2, f1_n, f1_i, f1_r, f1_u, f1_l, f2_n, f2_i, f2_r, f2_u, f2_l, mj_tg, mj_c1, mj_c2, mj_ar, mj_aw, mq_cb, mq_oi, mj_rm, Value.category, -getElem?_pos, List.getElem?_cons_zero, decide_eq_true, decide_eq_false, nl_lt, nl_le, ln_lt, ln_le, nl_eq, ln_eq, nl_add, ln_add, nl_sub, ln_mul, nI_sub, nI_mul, nI_add, nI_lt_iff, nI_le_iff, nI_inj, nI_num, mq_ix, nI_1, nl_mul, nl_div, hob, fs_many, narrow]
  | succ m ih =>
    intro i n hi hn
    have hiL : i < s.2.2.2.2.2.2.2.2.2.2.2.length := by omega
    have hcc := h.cr i _ (List.getElem?_eq_getElem hiL)
    have v1 := st_standing (d := d) (i := i) h hiL
    have ep : fs_many (s.2.2.2.2.2.2.2.2.2.2.2.drop i) party = (if s.2.2.2.2.2.2.2.2.2.2.2[i].2.1 = party then 1 else 0) + fs_many (s.2.2.2.2.2.2.2.2.2.2.2.drop (i + 1)) party := by
      rw [List.drop_eq_getElem_cons hiL]
      unfold fs_many
      rw [List.countP_cons]
      by_cases hq : s.2.2.2.2.2.2.2.2.2.2.2[i].2.1 = party <;> simp [hq]; omega
    rw [ep, s139_4, ← Nat.add_assoc]
    generalize s.2.2.2.2.2.2.2.2.2.2.2[i] = c at *
    unfold cc at hcc
    by_cases q1 : c.2.1 = party
    · rw [if_pos q1]
      have r1 := ih (i + 1) (n + 1) (by omega) (by omega)
      simp (disch := (first | omega | decide)) [s139_0, s139_1, s139_2, s139_3, s139_5, s139_6, s139_9, s139_12, s139_13, s139_14, s139_17, s139_19, s139_20, s139_22, s139_25, s139_27, s139_30, s139_31, s139_34, s139_35, s139_38, s139_39, s139_40, s139_41, s139_44, s139_47, s139_48, mq_k0s, mq_k1s, mq_k2s, mq_k4s, mq_k5s, mq_k5n, mq_k5as, mq_k6s, mj_pu, mj_lo, mj_br, mj_hr, mj_hw, mq_gf, mq_len, mq_al, mq_pf, mq_ok, mj_re, mq_lkm, mq_lkn, mj_ldi, mj_ldl, mj_lda, mj_ii, mj_ll, mj_li, mj_i1, ms_1, ms_2, f1_n, f1_i, f1_r, f1_u, f1_l, f2_n, f2_i, f2_r, f2_u, f2_l, mj_tg, mj_c1, mj_c2, mj_ar, mj_aw, mq_cb, mq_oi, mj_rm, Value.category, -getElem?_pos, List.getElem?_cons_zero, decide_eq_true, decide_eq_false, nl_lt, nl_le, ln_lt, ln_le, nl_eq, ln_eq, nl_add, ln_add, nl_sub, ln_mul, nI_sub, nI_mul, nI_add, nI_lt_iff, nI_le_iff, nI_inj, nI_num, mq_ix, nI_1, nl_mul, nl_div, hob, v1, hcc, q1]
      refine mq_wk ?_ r1
      simp [mq_sub, mj_lk]
    · rw [if_neg q1, Nat.add_zero]
      have r1 := ih (i + 1) n (by omega) (by omega)
      simp (disch := (first | omega | decide)) [s139_0, s139_1, s139_2, s139_3, s139_5, s139_6, s139_9, s139_12, s139_13, s139_14, s139_17, s139_19, s139_20, s139_22, s139_25, s139_27, s139_30, s139_31, s139_34, s139_35, s139_38, s139_39, s139_40, s139_41, s139_44, s139_47, s139_48, mq_k0s, mq_k1s, mq_k2s, mq_k4s, mq_k5s, mq_k5n, mq_k5as, mq_k6s, mj_pu, mj_lo, mj_br, mj_hr, mj_hw, mq_gf, mq_len, mq_al, mq_pf, mq_ok, mj_re, mq_lkm, mq_lkn, mj_ldi, mj_ldl, mj_lda, mj_ii, mj_ll, mj_li, mj_i1, ms_1, ms_2, f1_n, f1_i, f1_r, f1_u, f1_l, f2_n, f2_i, f2_r, f2_u, f2_l, mj_tg, mj_c1, mj_c2, mj_ar, mj_aw, mq_cb, mq_oi, mj_rm, Value.category, -getElem?_pos, List.getElem?_cons_zero, decide_eq_true, decide_eq_false, nl_lt, nl_le, ln_lt, ln_le, nl_eq, ln_eq, nl_add, ln_add, nl_sub, ln_mul, nI_sub, nI_mul, nI_add, nI_lt_iff, nI_le_iff, nI_inj, nI_num, mq_ix, nI_1, nl_mul, nl_div, hob, v1, hcc, q1]
      refine mq_wk ?_ r1
      simp [mq_sub, mj_lk]
theorem st_many {d κ : Nat} {s : Fl} {r : List Int32} {M : mj_H} {party : Int32} (h : ks M κ s r) : mj_V (d + 2) 139 [.ref (κ + 1), .int party] M = some (some (.int (nI (fs_many s.2.2.2.2.2.2.2.2.2.2.2 party))), M) := by
  have r1 := l_many (d := d) (party := party) h s.2.2.2.2.2.2.2.2.2.2.2.length 0 0 (by omega) (by omega)
  rw [List.drop_zero, Nat.zero_add] at r1
  simp (disch := (first | omega | decide)) [c139, s139_0, s139_1, s139_2, s139_3, s139_5, s139_6, s139_9, s139_12, s139_13, s139_14, s139_17, s139_19, s139_20, s139_22, s139_25, s139_27, s139_30, s139_31, s139_34, s139_35, s139_38, s139_39, s139_40, s139_41, s139_44, s139_47, s139_48, mq_k0s, mq_k1s, mq_k2s, mq_k4s, mq_k5s, mq_k5n, mq_k5as, mq_k6s, mj_pu, mj_lo, mj_br, mj_hr, mj_hw, mq_gf, mq_len, mq_al, mq_pf, mq_ok, mj_re, mq_lkm, mq_lkn, mj_ldi, mj_ldl, mj_lda, mj_ii, mj_ll, mj_li, mj_i1, ms_1, ms_2, f1_n, f1_i, f1_r, f1_u, f1_l, f2_n, f2_i, f2_r, f2_u, f2_l, mj_tg, mj_c1, mj_c2, mj_ar, mj_aw, mq_cb, mq_oi, mj_rm, Value.category, -getElem?_pos, List.getElem?_cons_zero, decide_eq_true, decide_eq_false, nl_lt, nl_le, ln_lt, ln_le, nl_eq, ln_eq, nl_add, ln_add, nl_sub, ln_mul, nI_sub, nI_mul, nI_add, nI_lt_iff, nI_le_iff, nI_inj, nI_num, mq_ix, nI_1, nl_mul, nl_div]
  exact r1
def fs_tell (s : Fl) (w : Int32) : Int32 := if s.2.1 = false then -1 else if w = 5 then nI s.2.2.2.2.2.1 else if w = 6 then nI s.2.2.2.2.1 else if w = 7 then nI s.2.2.2.2.2.2.1 else if w = 8 then nI s.2.2.2.2.2.2.2.2.2.2.2.length else if w = 9 then s.2.2.2.2.2.2.2.2.2.1 else if w = 10 then (if s.2.2.2.2.2.2.2.2.1 = 0 then 0 else 1) else if w = 11 then s.2.2.2.2.2.2.2.2.2.2.1 else -1
theorem st_tells {d κ : Nat} {s : Fl} {r : List Int32} {M : mj_H} {w : Int32} (h : ks M κ s r) : mj_V (d + 1) 163 [.ref (κ + 1), .int w] M = some (some (.int (fs_tell s w)), M) := by
  have hob := h.ob
  unfold so at hob
  cases hon : s.2.1 with
  | false => simp (disch := (first | omega | decide)) [c163, s163_0, s163_1, s163_4, s163_7, s163_8, s163_9, s163_10, s163_52, s163_53, s163_56, s163_57, s163_58, s163_61, s163_62, s163_63, s163_66, s163_67, s163_68, s163_71, s163_72, s163_73, s163_76, s163_77, s163_78, s163_81, s163_84, s163_85, s163_88, s163_89, s163_90, s163_91, s163_94, s163_95, s163_96, mq_k0s, mq_k1s, mq_k2s, mq_k4s, mq_k5s, mq_k5n, mq_k5as, mq_k6s, mj_pu, mj_lo, mj_br, mj_hr, mj_hw, mq_gf, mq_len, mq_al, mq_pf, mq_ok, mj_re, mq_lkm, mq_lkn, mj_ldi, mj_ldl, mj_lda, mj_ii, mj_ll, mj_li, mj_i1, ms_1, ms_2, f1_n, f1_i, f1_r, f1_u, f1_l, f2_n, f2_i, f2_r, f2_u, f2_l, mj_tg, mj_c1, mj_c2, mj_ar, mj_aw, mq_cb, mq_oi, mj_rm, Value.category, -getElem?_pos, List.getElem?_cons_zero, decide_eq_true, decide_eq_false, nl_lt, nl_le, ln_lt, ln_le, nl_eq, ln_eq, nl_add, ln_add, nl_sub, ln_mul, nI_sub, nI_mul, nI_add, nI_lt_iff, nI_le_iff, nI_inj, nI_num, mq_ix, nI_1, nl_mul, nl_div, hob, hon, fs_tell, narrow]
  | true =>
    by_cases h5 : w = 5
    · subst h5; simp (disch := (first | omega | decide)) [c163, s163_0, s163_1, s163_4, s163_7, s163_8, s163_9, s163_10, s163_52, s163_53, s163_56, s163_57, s163_58, s163_61, s163_62, s163_63, s163_66, s163_67, s163_68, s163_71, s163_72, s163_73, s163_76, s163_77, s163_78, s163_81, s163_84, s163_85, s163_88, s163_89, s163_90, s163_91, s163_94, s163_95, s163_96, mq_k0s, mq_k1s, mq_k2s, mq_k4s, mq_k5s, mq_k5n, mq_k5as, mq_k6s, mj_pu, mj_lo, mj_br, mj_hr, mj_hw, mq_gf, mq_len, mq_al, mq_pf, mq_ok, mj_re, mq_lkm, mq_lkn, mj_ldi, mj_ldl, mj_lda, mj_ii, mj_ll, mj_li, mj_i1, ms_1, ms_2, f1_n, f1_i, f1_r, f1_u, f1_l, f2_n, f2_i, f2_r, f2_u, f2_l, mj_tg, mj_c1, mj_c2, mj_ar, mj_aw, mq_cb, mq_oi, mj_rm, Value.category, -getElem?_pos, List.getElem?_cons_zero, decide_eq_true, decide_eq_false, nl_lt, nl_le, ln_lt, ln_le, nl_eq, ln_eq, nl_add, ln_add, nl_sub, ln_mul, nI_sub, nI_mul, nI_add, nI_lt_iff, nI_le_iff, nI_inj, nI_num, mq_ix, nI_1, nl_mul, nl_div, hob, hon, fs_tell, narrow]
    by_cases h6 : w = 6
    · subst h6; simp (disch := (first | omega | decide)) [c163, s163_0, s163_1, s163_4, s163_7, s163_8, s163_9, s163_10, s163_52, s163_53, s163_56, s163_57, s163_58, s163_61, s163_62, s163_63, s163_66, s163_67, s163_68, s163_71, s163_72, s163_73, s163_76, s163_77, s163_78, s163_81, s163_84, s163_85, s163_88, s163_89, s163_90, s163_91, s163_94, s163_95, s163_96, mq_k0s, mq_k1s, mq_k2s, mq_k4s, mq_k5s, mq_k5n, mq_k5as, mq_k6s, mj_pu, mj_lo, mj_br, mj_hr, mj_hw, mq_gf, mq_len, mq_al, mq_pf, mq_ok, mj_re, mq_lkm, mq_lkn, mj_ldi, mj_ldl, mj_lda, mj_ii, mj_ll, mj_li, mj_i1, ms_1, ms_2, f1_n, f1_i, f1_r, f1_u, f1_l, f2_n, f2_i, f2_r, f2_u, f2_l, mj_tg, mj_c1, mj_c2, mj_ar, mj_aw, mq_cb, mq_oi, mj_rm, Value.category, -getElem?_pos, List.getElem?_cons_zero, decide_eq_true, decide_eq_false, nl_lt, nl_le, ln_lt, ln_le, nl_eq, ln_eq, nl_add, ln_add, nl_sub, ln_mul, nI_sub, nI_mul, nI_add, nI_lt_iff, nI_le_iff, nI_inj, nI_num, mq_ix, nI_1, nl_mul, nl_div, hob, hon, fs_tell, narrow]
    by_cases h7 : w = 7
    · subst h7; simp (disch := (first | omega | decide)) [c163, s163_0, s163_1, s163_4, s163_7, s163_8, s163_9, s163_10, s163_52, s163_53, s163_56, s163_57, s163_58, s163_61, s163_62, s163_63, s163_66, s163_67, s163_68, s163_71, s163_72, s163_73, s163_76, s163_77, s163_78, s163_81, s163_84, s163_85, s163_88, s163_89, s163_90, s163_91, s163_94, s163_95, s163_96, mq_k0s, mq_k1s, mq_k2s, mq_k4s, mq_k5s, mq_k5n, mq_k5as, mq_k6s, mj_pu, mj_lo, mj_br, mj_hr, mj_hw, mq_gf, mq_len, mq_al, mq_pf, mq_ok, mj_re, mq_lkm, mq_lkn, mj_ldi, mj_ldl, mj_lda, mj_ii, mj_ll, mj_li, mj_i1, ms_1, ms_2, f1_n, f1_i, f1_r, f1_u, f1_l, f2_n, f2_i, f2_r, f2_u, f2_l, mj_tg, mj_c1, mj_c2, mj_ar, mj_aw, mq_cb, mq_oi, mj_rm, Value.category, -getElem?_pos, List.getElem?_cons_zero, decide_eq_true, decide_eq_false, nl_lt, nl_le, ln_lt, ln_le, nl_eq, ln_eq, nl_add, ln_add, nl_sub, ln_mul, nI_sub, nI_mul, nI_add, nI_lt_iff, nI_le_iff, nI_inj, nI_num, mq_ix, nI_1, nl_mul, nl_div, hob, hon, fs_tell, narrow]
    by_cases h8 : w = 8
    · subst h8; simp (disch := (first | omega | decide)) [c163, s163_0, s163_1, s163_4, s163_7, s163_8, s163_9, s163_10, s163_52, s163_53, s163_56, s163_57, s163_58, s163_61, s163_62, s163_63, s163_66, s163_67, s163_68, s163_71, s163_72, s163_73, s163_76, s163_77, s163_78, s163_81, s163_84, s163_85, s163_88, s163_89, s163_90, s163_91, s163_94, s163_95, s163_96, mq_k0s, mq_k1s, mq_k2s, mq_k4s, mq_k5s, mq_k5n, mq_k5as, mq_k6s, mj_pu, mj_lo, mj_br, mj_hr, mj_hw, mq_gf, mq_len, mq_al, mq_pf, mq_ok, mj_re, mq_lkm, mq_lkn, mj_ldi, mj_ldl, mj_lda, mj_ii, mj_ll, mj_li, mj_i1, ms_1, ms_2, f1_n, f1_i, f1_r, f1_u, f1_l, f2_n, f2_i, f2_r, f2_u, f2_l, mj_tg, mj_c1, mj_c2, mj_ar, mj_aw, mq_cb, mq_oi, mj_rm, Value.category, -getElem?_pos, List.getElem?_cons_zero, decide_eq_true, decide_eq_false, nl_lt, nl_le, ln_lt, ln_le, nl_eq, ln_eq, nl_add, ln_add, nl_sub, ln_mul, nI_sub, nI_mul, nI_add, nI_lt_iff, nI_le_iff, nI_inj, nI_num, mq_ix, nI_1, nl_mul, nl_div, hob, hon, fs_tell, narrow]
    by_cases h9 : w = 9
    · subst h9; simp (disch := (first | omega | decide)) [c163, s163_0, s163_1, s163_4, s163_7, s163_8, s163_9, s163_10, s163_52, s163_53, s163_56, s163_57, s163_58, s163_61, s163_62, s163_63, s163_66, s163_67, s163_68, s163_71, s163_72, s163_73, s163_76, s163_77, s163_78, s163_81, s163_84, s163_85, s163_88, s163_89, s163_90, s163_91, s163_94, s163_95, s163_96, mq_k0s, mq_k1s, mq_k2s, mq_k4s, mq_k5s, mq_k5n, mq_k5as, mq_k6s, mj_pu, mj_lo, mj_br, mj_hr, mj_hw, mq_gf, mq_len, mq_al, mq_pf, mq_ok, mj_re, mq_lkm, mq_lkn, mj_ldi, mj_ldl, mj_lda, mj_ii, mj_ll, mj_li, mj_i1, ms_1, ms_2, f1_n, f1_i, f1_r, f1_u, f1_l, f2_n, f2_i, f2_r, f2_u, f2_l, mj_tg, mj_c1, mj_c2, mj_ar, mj_aw, mq_cb, mq_oi, mj_rm, Value.category, -getElem?_pos, List.getElem?_cons_zero, decide_eq_true, decide_eq_false, nl_lt, nl_le, ln_lt, ln_le, nl_eq, ln_eq, nl_add, ln_add, nl_sub, ln_mul, nI_sub, nI_mul, nI_add, nI_lt_iff, nI_le_iff, nI_inj, nI_num, mq_ix, nI_1, nl_mul, nl_div, hob, hon, fs_tell, narrow]
    by_cases h10 : w = 10
    · subst h10
      by_cases hp : s.2.2.2.2.2.2.2.2.1 = 0 <;> simp (disch := (first | omega | decide)) [c163, s163_0, s163_1, s163_4, s163_7, s163_8, s163_9, s163_10, s163_52, s163_53, s163_56, s163_57, s163_58, s163_61, s163_62, s163_63, s163_66, s163_67, s163_68, s163_71, s163_72, s163_73, s163_76, s163_77, s163_78, s163_81, s163_84, s163_85, s163_88, s163_89, s163_90, s163_91, s163_94, s163_95, s163_96, mq_k0s, mq_k1s, mq_k2s, mq_k4s, mq_k5s, mq_k5n, mq_k5as, mq_k6s, mj_pu, mj_lo, mj_br, mj_hr, mj_hw, mq_gf, mq_len, mq_al, mq_pf, mq_ok, mj_re, mq_lkm, mq_lkn, mj_ldi, mj_ldl, mj_lda, mj_ii, mj_ll, mj_li, mj_i1, ms_1, ms_2, f1_n, f1_i, f1_r, f1_u, f1_l, f2_n, f2_i, f2_r, f2_u, f2_l, mj_tg, mj_c1, mj_c2, mj_ar, mj_aw, mq_cb, mq_oi, mj_rm, Value.category, -getElem?_pos, List.getElem?_cons_zero, decide_eq_true, decide_eq_false, nl_lt, nl_le, ln_lt, ln_le, nl_eq, ln_eq, nl_add, ln_add, nl_sub, ln_mul, nI_sub, nI_mul, nI_add, nI_lt_iff, nI_le_iff, nI_inj, nI_num, mq_ix, nI_1, nl_mul, nl_div, hob, hon, fs_tell, hp, narrow]
    by_cases h11 : w = 11
    · subst h11; simp (disch := (first | omega | decide)) [c163, s163_0, s163_1, s163_4, s163_7, s163_8, s163_9, s163_10, s163_52, s163_53, s163_56, s163_57, s163_58, s163_61, s163_62, s163_63, s163_66, s163_67, s163_68, s163_71, s163_72, s163_73, s163_76, s163_77, s163_78, s163_81, s163_84, s163_85, s163_88, s163_89, s163_90, s163_91, s163_94, s163_95, s163_96, mq_k0s, mq_k1s, mq_k2s, mq_k4s, mq_k5s, mq_k5n, mq_k5as, mq_k6s, mj_pu, mj_lo, mj_br, mj_hr, mj_hw, mq_gf, mq_len, mq_al, mq_pf, mq_ok, mj_re, mq_lkm, mq_lkn, mj_ldi, mj_ldl, mj_lda, mj_ii, mj_ll, mj_li, mj_i1, ms_1, ms_2, f1_n, f1_i, f1_r, f1_u, f1_l, f2_n, f2_i, f2_r, f2_u, f2_l, mj_tg, mj_c1, mj_c2, mj_ar, mj_aw, mq_cb, mq_oi, mj_rm, Value.category, -getElem?_pos, List.getElem?_cons_zero, decide_eq_true, decide_eq_false, nl_lt, nl_le, ln_lt, ln_le, nl_eq, ln_eq, nl_add, ln_add, nl_sub, ln_mul, nI_sub, nI_mul, nI_add, nI_lt_iff, nI_le_iff, nI_inj, nI_num, mq_ix, nI_1, nl_mul, nl_div, hob, hon, fs_tell, narrow]
    have hw : w.toInt < 5 ∨ 11 < w.toInt := by
      have : ∀ k : Int32, w ≠ k → w.toInt ≠ k.toInt := fun k hk z => hk (Int32.toInt_inj.mp z)
      have g5 := this 5 h5
      have g6 := this 6 h6
      have g7 := this 7 h7
      have g8 := this 8 h8
      have g9 := this 9 h9
      have g10 := this 10 h10
      have g11 := this 11 h11
      simp at g5 g6 g7 g8 g9 g10 g11
      omega
    simp (disch := (first | omega | decide)) [c163, s163_0, s163_1, s163_4, s163_7, s163_8, s163_9, s163_10, s163_52, s163_53, s163_56, s163_57, s163_58, s163_61, s163_62, s163_63, s163_66, s163_67, s163_68, s163_71, s163_72, s163_73, s163_76, s163_77, s163_78, s163_81, s163_84, s163_85, s163_88, s163_89, s163_90, s163_91, s163_94, s163_95, s163_96, mq_k0s, mq_k1s, mq_k2s, mq_k4s, mq_k5s, mq_k5n, mq_k5as, mq_k6s, mj_pu, mj_lo, mj_br, mj_hr, mj_hw, mq_gf, mq_len, mq_al, mq_pf, mq_ok, mj_re, mq_lkm, mq_lkn, mj_ldi, mj_ldl, mj_lda, mj_ii, mj_ll, mj_li, mj_i1, ms_1, ms_2, f1_n, f1_i, f1_r, f1_u, f1_l, f2_n, f2_i, f2_r, f2_u, f2_l, mj_tg, mj_c1, mj_c2, mj_ar, mj_aw, mq_cb, mq_oi, mj_rm, Value.category, -getElem?_pos, List.getElem?_cons_zero, decide_eq_true, decide_eq_false, nl_lt, nl_le, ln_lt, ln_le, nl_eq, ln_eq, nl_add, ln_add, nl_sub, ln_mul, nI_sub, nI_mul, nI_add, nI_lt_iff, nI_le_iff, nI_inj, nI_num, mq_ix, nI_1, nl_mul, nl_div, hob, hon, fs_tell, h5, h6, h7, h8, h9, h10, h11, hw, narrow]
theorem st_forget {d κ : Nat} {s : Fl} {r : List Int32} {M : mj_H} (h : ks M κ s r) : ∃ M', mj_V (d + 1) 50 [.ref (κ + 1)] M = some (none, M') ∧ ks M' κ ((s.1, (s.2.1, (s.2.2.1, (s.2.2.2.1, (s.2.2.2.2.1, (s.2.2.2.2.2.1, (s.2.2.2.2.2.2.1, St.none))))))) : Fl) r ∧ kf κ M M' := by
  have hob := h.ob
  unfold so at hob
  have hlo := h.lo
  have hl := mq_lt h.ob
  have hh : ¬ κ + 1 < 25 := by omega
  have k1 := h.set0 (s' := ((s.1, (s.2.1, (s.2.2.1, (s.2.2.2.1, (s.2.2.2.2.1, (s.2.2.2.2.2.1, (s.2.2.2.2.2.2.1, St.none))))))) : Fl)) rfl rfl
  refine ⟨_, ?_, k1, kf.st (by omega)⟩
  simp (disch := (first | omega | decide)) [c50, s50_0, s50_1, s50_2, s50_5, s50_6, s50_7, s50_10, s50_11, s50_13, s50_16, s50_17, s50_18, s50_21, s50_22, s50_23, s50_26, mq_k0s, mq_k1s, mq_k2s, mq_k4s, mq_k5s, mq_k5n, mq_k5as, mq_k6s, mj_pu, mj_lo, mj_br, mj_hr, mj_hw, mq_gf, mq_len, mq_al, mq_pf, mq_ok, mj_re, mq_lkm, mq_lkn, mj_ldi, mj_ldl, mj_lda, mj_ii, mj_ll, mj_li, mj_i1, ms_1, ms_2, f1_n, f1_i, f1_r, f1_u, f1_l, f2_n, f2_i, f2_r, f2_u, f2_l, mj_tg, mj_c1, mj_c2, mj_ar, mj_aw, mq_cb, mq_oi, mj_rm, Value.category, -getElem?_pos, List.getElem?_cons_zero, decide_eq_true, decide_eq_false, nl_lt, nl_le, ln_lt, ln_le, nl_eq, ln_eq, nl_add, ln_add, nl_sub, ln_mul, nI_sub, nI_mul, nI_add, nI_lt_iff, nI_le_iff, nI_inj, nI_num, mq_ix, nI_1, nl_mul, nl_div, hob, narrow, mj_E, hh, hl, so, St.none, List.getElem?_set]
  rfl
theorem st_reset {d κ : Nat} {m : Int32} {s : Fl} {r : List Int32} {M : mj_H} (h : ks M κ s r) (hon : s.2.1 = true) (hfl : s.1.length = 512) (ha : s.2.2.2.2.1 ≤ 1) (hg : s.2.2.2.2.2.1 < 2 ^ 30) : ∃ M' r', mj_V (d + 5) 155 [.ref (κ + 1), .int m] M = some (some (.int (on1 (fs_move ((s.1, (s.2.1, (s.2.2.1, (s.2.2.2.1, (s.2.2.2.2.1, (s.2.2.2.2.2.1, (s.2.2.2.2.2.2.1, ((m, (St.none.2.1, (St.none.2.2.1, (St.none.2.2.2.1, St.none.2.2.2.2)))) : St)))))))) : Fl)).2)), M') ∧ ks M' κ (fs_move ((s.1, (s.2.1, (s.2.2.1, (s.2.2.2.1, (s.2.2.2.2.1, (s.2.2.2.2.2.1, (s.2.2.2.2.2.2.1, ((m, (St.none.2.1, (St.none.2.2.1, (St.none.2.2.2.1, St.none.2.2.2.2)))) : St)))))))) : Fl)).1 r' ∧ kf κ M M' := by
  obtain ⟨M1, p1, r1, f1⟩ := st_forget (d := d + 3) h
  have o1 := r1.ob
  unfold so at o1
  have hlo := h.lo
  have hl := mq_lt r1.ob
  have hh : ¬ κ + 1 < 25 := by omega
  have hob := h.ob
  unfold so at hob
  have k2 := r1.set (s' := ((s.1, (s.2.1, (s.2.2.1, (s.2.2.2.1, (s.2.2.2.2.1, (s.2.2.2.2.2.1, (s.2.2.2.2.2.2.1, ((m, (St.none.2.1, (St.none.2.2.1, (St.none.2.2.2.1, St.none.2.2.2.2)))) : St)))))))) : Fl)) rfl rfl
  have hrl : 4 + (St.recs ((m, (St.none.2.1, (St.none.2.2.1, (St.none.2.2.2.1, St.none.2.2.2.2)))) : St)).length ≤ 256 := by
    simp [St.recs, St.own, St.none, rc, ck2, b4, bt_low_len]
  obtain ⟨M3, r3, p3, k3, f3⟩ := st_move (d := d) k2 hon hfl ha hg (by intro c hc; cases hc) hrl
  refine ⟨M3, r3, ?_, k3, (f1.tr (kf.st (by omega))).tr f3⟩
  have o2 := k2.ob
  unfold so at o2 p3
  simp only [St.none, List.length_nil] at o1 o2 p3
  cases hz : (fs_move ((s.1, (s.2.1, (s.2.2.1, (s.2.2.2.1, (s.2.2.2.2.1, (s.2.2.2.2.2.1, (s.2.2.2.2.2.2.1, ((m, (St.none.2.1, (St.none.2.2.1, (St.none.2.2.2.1, St.none.2.2.2.2)))) : St)))))))) : Fl)).2 with
  | false =>
    rw [show (((s.1, (s.2.1, (s.2.2.1, (s.2.2.2.1, (s.2.2.2.2.1, (s.2.2.2.2.2.1, (s.2.2.2.2.2.2.1, ((m, (St.none.2.1, (St.none.2.2.1, (St.none.2.2.2.1, St.none.2.2.2.2)))) : St)))))))) : Fl) : Fl) = ((s.1, (s.2.1, (s.2.2.1, (s.2.2.2.1, (s.2.2.2.2.1, (s.2.2.2.2.2.1, (s.2.2.2.2.2.2.1, ((m, (0, (8, (0, [])))) : St)))))))) : Fl) from rfl] at hz
    rw [hz] at p3
    simp (disch := (first | omega | decide)) [c155, s155_0, s155_1, s155_4, s155_5, s155_6, s155_9, s155_10, s155_13, mq_k0s, mq_k1s, mq_k2s, mq_k4s, mq_k5s, mq_k5n, mq_k5as, mq_k6s, mj_pu, mj_lo, mj_br, mj_hr, mj_hw, mq_gf, mq_len, mq_al, mq_pf, mq_ok, mj_re, mq_lkm, mq_lkn, mj_ldi, mj_ldl, mj_lda, mj_ii, mj_ll, mj_li, mj_i1, ms_1, ms_2, f1_n, f1_i, f1_r, f1_u, f1_l, f2_n, f2_i, f2_r, f2_u, f2_l, mj_tg, mj_c1, mj_c2, mj_ar, mj_aw, mq_cb, mq_oi, mj_rm, Value.category, -getElem?_pos, List.getElem?_cons_zero, decide_eq_true, decide_eq_false, nl_lt, nl_le, ln_lt, ln_le, nl_eq, ln_eq, nl_add, ln_add, nl_sub, ln_mul, nI_sub, nI_mul, nI_add, nI_lt_iff, nI_le_iff, nI_inj, nI_num, mq_ix, nI_1, nl_mul, nl_div, hob, p1, o1, narrow, mj_E, hh, hl, o2, p3, on1, narrow_b0, List.getElem?_set]
  | true =>
    rw [show (((s.1, (s.2.1, (s.2.2.1, (s.2.2.2.1, (s.2.2.2.2.1, (s.2.2.2.2.2.1, (s.2.2.2.2.2.2.1, ((m, (St.none.2.1, (St.none.2.2.1, (St.none.2.2.2.1, St.none.2.2.2.2)))) : St)))))))) : Fl) : Fl) = ((s.1, (s.2.1, (s.2.2.1, (s.2.2.2.1, (s.2.2.2.2.1, (s.2.2.2.2.2.1, (s.2.2.2.2.2.2.1, ((m, (0, (8, (0, [])))) : St)))))))) : Fl) from rfl] at hz
    rw [hz] at p3
    simp (disch := (first | omega | decide)) [c155, s155_0, s155_1, s155_4, s155_5, s155_6, s155_9, s155_10, s155_13, mq_k0s, mq_k1s, mq_k2s, mq_k4s, mq_k5s, mq_k5n, mq_k5as, mq_k6s, mj_pu, mj_lo, mj_br, mj_hr, mj_hw, mq_gf, mq_len, mq_al, mq_pf, mq_ok, mj_re, mq_lkm, mq_lkn, mj_ldi, mj_ldl, mj_lda, mj_ii, mj_ll, mj_li, mj_i1, ms_1, ms_2, f1_n, f1_i, f1_r, f1_u, f1_l, f2_n, f2_i, f2_r, f2_u, f2_l, mj_tg, mj_c1, mj_c2, mj_ar, mj_aw, mq_cb, mq_oi, mj_rm, Value.category, -getElem?_pos, List.getElem?_cons_zero, decide_eq_true, decide_eq_false, nl_lt, nl_le, ln_lt, ln_le, nl_eq, ln_eq, nl_add, ln_add, nl_sub, ln_mul, nI_sub, nI_mul, nI_add, nI_lt_iff, nI_le_iff, nI_inj, nI_num, mq_ix, nI_1, nl_mul, nl_div, hob, p1, o1, narrow, mj_E, hh, hl, o2, p3, on1, narrow_b1, List.getElem?_set]
end
/- 79.store9 -/
section
set_option maxRecDepth 512
/-! Class: Store: a new flash; waking. -/
/- 47 PasskeyHouse$Store.wake()V -/
theorem s47_0 {d : Nat} {ls : mj_L} {st : List Value} {M : mj_H} : mj_Rn d mj_m47 0 ls st M = mq_k0 d mj_m47 1 ls M (mj_lda (mj_lk ls 0) st) := mj_R0 (r := (.aload_n 0, 1, 0, 0, 0)) rfl rfl
theorem s47_1 {d : Nat} {ls : mj_L} {st : List Value} {M : mj_H} : mj_Rn d mj_m47 1 ls st M = mj_Rn d mj_m47 2 ls (.int 1 :: st) M := mj_R0 (r := (.iconst 1, 1, 0, 0, 0)) rfl rfl
theorem s47_2 {d : Nat} {ls : mj_L} {st : List Value} {M : mj_H} : mj_Rn d mj_m47 2 ls st M = mq_k4 d mj_m47 5 ls (mq_pf 8 4 3 st M) := (mj_R4 (r := (.putfield 34, 3, 8, 4, 16492)) rfl rfl).trans (congrArg (mq_k4 d mj_m47 5 ls) (mq_pf_eq rfl rfl))
theorem s47_5 {d : Nat} {ls : mj_L} {st : List Value} {M : mj_H} : mj_Rn d mj_m47 5 ls st M = mq_k0 d mj_m47 6 ls M (mj_lda (mj_lk ls 0) st) := mj_R0 (r := (.aload_n 0, 1, 0, 0, 0)) rfl rfl
theorem s47_6 {d : Nat} {ls : mj_L} {st : List Value} {M : mj_H} : mj_Rn d mj_m47 6 ls st M = mj_Rn d mj_m47 7 ls (.int 0 :: st) M := mj_R0 (r := (.iconst 0, 1, 0, 0, 0)) rfl rfl
theorem s47_7 {d : Nat} {ls : mj_L} {st : List Value} {M : mj_H} : mj_Rn (d + 1) mj_m47 7 ls st M = mq_k5a (d + 1) mj_m47 10 ls M 48 (mq_cb 0 1 8 st M) := mj_R5e (r := (.invokevirtual 70, 3, 0, 48, 12307)) (z := mj_m48) rfl rfl (by decide) (by decide) rfl
theorem s47_10 {d : Nat} {ls : mj_L} {st : List Value} {M : mj_H} : mj_Rn d mj_m47 10 ls st M = mq_k1 d mj_m47 11 M (mj_lo 5 (.istore 1) ls st) := (mj_R1 (r := (.istore_n 1, 1, 0, 0, 0)) rfl rfl).trans (congrArg (mq_k1 d mj_m47 11 M) (mq_sti (k := 1)))
theorem s47_11 {d : Nat} {ls : mj_L} {st : List Value} {M : mj_H} : mj_Rn d mj_m47 11 ls st M = mq_k0 d mj_m47 12 ls M (mj_lda (mj_lk ls 0) st) := mj_R0 (r := (.aload_n 0, 1, 0, 0, 0)) rfl rfl
theorem s47_12 {d : Nat} {ls : mj_L} {st : List Value} {M : mj_H} : mj_Rn d mj_m47 12 ls st M = mj_Rn d mj_m47 13 ls (.int 1 :: st) M := mj_R0 (r := (.iconst 1, 1, 0, 0, 0)) rfl rfl
theorem s47_13 {d : Nat} {ls : mj_L} {st : List Value} {M : mj_H} : mj_Rn (d + 1) mj_m47 13 ls st M = mq_k5a (d + 1) mj_m47 16 ls M 48 (mq_cb 0 1 8 st M) := mj_R5e (r := (.invokevirtual 70, 3, 0, 48, 12307)) (z := mj_m48) rfl rfl (by decide) (by decide) rfl
theorem s47_16 {d : Nat} {ls : mj_L} {st : List Value} {M : mj_H} : mj_Rn d mj_m47 16 ls st M = mq_k1 d mj_m47 17 M (mj_lo 5 (.istore 2) ls st) := (mj_R1 (r := (.istore_n 2, 1, 0, 0, 0)) rfl rfl).trans (congrArg (mq_k1 d mj_m47 17 M) (mq_sti (k := 2)))
theorem s47_17 {d : Nat} {ls : mj_L} {st : List Value} {M : mj_H} : mj_Rn d mj_m47 17 ls st M = mq_k0 d mj_m47 18 ls M (mj_lda (mj_lk ls 0) st) := mj_R0 (r := (.aload_n 0, 1, 0, 0, 0)) rfl rfl
theorem s47_18 {d : Nat} {ls : mj_L} {st : List Value} {M : mj_H} : mj_Rn d mj_m47 18 ls st M = mq_k0 d mj_m47 19 ls M (mj_ldi (mj_lk ls 2) st) := mj_R0 (r := (.iload_n 2, 1, 0, 0, 0)) rfl rfl
theorem s47_19 {d : Nat} {ls : mj_L} {st : List Value} {M : mj_H} : mj_Rn d mj_m47 19 ls st M = mq_k0 d mj_m47 20 ls M (mj_ldi (mj_lk ls 1) st) := mj_R0 (r := (.iload_n 1, 1, 0, 0, 0)) rfl rfl
theorem s47_20 {d : Nat} {ls : mj_L} {st : List Value} {M : mj_H} : mj_Rn d mj_m47 20 ls st M = mq_k2 d mj_m47 ls M (mj_br (.if_icmp .le 7) 20 st) := mj_R2 (r := (.if_icmp .le 7, 3, 0, 0, 0)) rfl rfl
theorem s47_23 {d : Nat} {ls : mj_L} {st : List Value} {M : mj_H} : mj_Rn d mj_m47 23 ls st M = mj_Rn d mj_m47 24 ls (.int 1 :: st) M := mj_R0 (r := (.iconst 1, 1, 0, 0, 0)) rfl rfl
theorem s47_24 {d : Nat} {ls : mj_L} {st : List Value} {M : mj_H} : mj_Rn d mj_m47 24 ls st M = mj_Rn d mj_m47 28 ls st M := mj_R2 (r := (.goto 4, 3, 0, 0, 0)) rfl rfl
theorem s47_27 {d : Nat} {ls : mj_L} {st : List Value} {M : mj_H} : mj_Rn d mj_m47 27 ls st M = mj_Rn d mj_m47 28 ls (.int 0 :: st) M := mj_R0 (r := (.iconst 0, 1, 0, 0, 0)) rfl rfl
theorem s47_28 {d : Nat} {ls : mj_L} {st : List Value} {M : mj_H} : mj_Rn d mj_m47 28 ls st M = mq_k4 d mj_m47 31 ls (mq_pf 8 7 0 st M) := (mj_R4 (r := (.putfield 73, 3, 8, 7, 16504)) rfl rfl).trans (congrArg (mq_k4 d mj_m47 31 ls) (mq_pf_eq rfl rfl))
theorem s47_31 {d : Nat} {ls : mj_L} {st : List Value} {M : mj_H} : mj_Rn d mj_m47 31 ls st M = mq_k0 d mj_m47 32 ls M (mj_lda (mj_lk ls 0) st) := mj_R0 (r := (.aload_n 0, 1, 0, 0, 0)) rfl rfl
theorem s47_32 {d : Nat} {ls : mj_L} {st : List Value} {M : mj_H} : mj_Rn d mj_m47 32 ls st M = mq_k0 d mj_m47 33 ls M (mj_ldi (mj_lk ls 1) st) := mj_R0 (r := (.iload_n 1, 1, 0, 0, 0)) rfl rfl
theorem s47_33 {d : Nat} {ls : mj_L} {st : List Value} {M : mj_H} : mj_Rn d mj_m47 33 ls st M = mq_k0 d mj_m47 34 ls M (mj_ldi (mj_lk ls 2) st) := mj_R0 (r := (.iload_n 2, 1, 0, 0, 0)) rfl rfl
theorem s47_34 {d : Nat} {ls : mj_L} {st : List Value} {M : mj_H} : mj_Rn (d + 1) mj_m47 34 ls st M = mq_k5a (d + 1) mj_m47 37 ls M 3 (mq_cb 2 2 999 st M) := mj_R5e (r := (.invokestatic 76, 3, 2, 3, 12315)) (z := mj_m3) rfl rfl (by decide) (by decide) rfl
theorem s47_37 {d : Nat} {ls : mj_L} {st : List Value} {M : mj_H} : mj_Rn d mj_m47 37 ls st M = mq_k4 d mj_m47 40 ls (mq_pf 8 8 0 st M) := (mj_R4 (r := (.putfield 82, 3, 8, 8, 16506)) rfl rfl).trans (congrArg (mq_k4 d mj_m47 40 ls) (mq_pf_eq rfl rfl))
theorem s47_40 {d : Nat} {ls : mj_L} {st : List Value} {M : mj_H} : mj_Rn d mj_m47 40 ls st M = mq_k0 d mj_m47 41 ls M (mj_lda (mj_lk ls 0) st) := mj_R0 (r := (.aload_n 0, 1, 0, 0, 0)) rfl rfl
theorem s47_41 {d : Nat} {ls : mj_L} {st : List Value} {M : mj_H} : mj_Rn (d + 1) mj_m47 41 ls st M = mq_k5a (d + 1) mj_m47 44 ls M 50 (mq_cb 0 0 8 st M) := mj_R5e (r := (.invokevirtual 85, 3, 0, 50, 12316)) (z := mj_m50) rfl rfl (by decide) (by decide) rfl
theorem s47_44 {d : Nat} {ls : mj_L} {st : List Value} {M : mj_H} : mj_Rn d mj_m47 44 ls st M = mq_k0 d mj_m47 45 ls M (mj_lda (mj_lk ls 0) st) := mj_R0 (r := (.aload_n 0, 1, 0, 0, 0)) rfl rfl
theorem s47_45 {d : Nat} {ls : mj_L} {st : List Value} {M : mj_H} : mj_Rn d mj_m47 45 ls st M = mj_Rn d mj_m47 46 ls (.int 4 :: st) M := mj_R0 (r := (.iconst 4, 1, 0, 0, 0)) rfl rfl
theorem s47_46 {d : Nat} {ls : mj_L} {st : List Value} {M : mj_H} : mj_Rn d mj_m47 46 ls st M = mq_k4 d mj_m47 49 ls (mq_pf 8 9 0 st M) := (mj_R4 (r := (.putfield 88, 3, 8, 9, 16508)) rfl rfl).trans (congrArg (mq_k4 d mj_m47 49 ls) (mq_pf_eq rfl rfl))
theorem s47_49 {d : Nat} {ls : mj_L} {st : List Value} {M : mj_H} : mj_Rn d mj_m47 49 ls st M = mq_k0 d mj_m47 50 ls M (mj_lda (mj_lk ls 0) st) := mj_R0 (r := (.aload_n 0, 1, 0, 0, 0)) rfl rfl
theorem s47_50 {d : Nat} {ls : mj_L} {st : List Value} {M : mj_H} : mj_Rn d mj_m47 50 ls st M = mq_k0 d mj_m47 51 ls M (mj_lda (mj_lk ls 0) st) := mj_R0 (r := (.aload_n 0, 1, 0, 0, 0)) rfl rfl
theorem s47_51 {d : Nat} {ls : mj_L} {st : List Value} {M : mj_H} : mj_Rn d mj_m47 51 ls st M = mq_k0 d mj_m47 54 ls M (mq_gf 8 9 st M) := (mj_R3 (r := (.getfield 88, 3, 8, 9, 16508)) rfl rfl).trans (congrArg (mq_k0 d mj_m47 54 ls M) mq_gf_eq)
theorem s47_54 {d : Nat} {ls : mj_L} {st : List Value} {M : mj_H} : mj_Rn (d + 1) mj_m47 54 ls st M = mq_k5a (d + 1) mj_m47 57 ls M 51 (mq_cb 0 1 8 st M) := mj_R5e (r := (.invokevirtual 91, 3, 0, 51, 12320)) (z := mj_m51) rfl rfl (by decide) (by decide) rfl
theorem s47_57 {d : Nat} {ls : mj_L} {st : List Value} {M : mj_H} : mj_Rn d mj_m47 57 ls st M = mq_k1 d mj_m47 58 M (mj_lo 5 (.istore 3) ls st) := (mj_R1 (r := (.istore_n 3, 1, 0, 0, 0)) rfl rfl).trans (congrArg (mq_k1 d mj_m47 58 M) (mq_sti (k := 3)))
theorem s47_58 {d : Nat} {ls : mj_L} {st : List Value} {M : mj_H} : mj_Rn d mj_m47 58 ls st M = mj_Rn d mj_m47 59 ls (.int 0 :: st) M := mj_R0 (r := (.iconst 0, 1, 0, 0, 0)) rfl rfl
theorem s47_59 {d : Nat} {ls : mj_L} {st : List Value} {M : mj_H} : mj_Rn d mj_m47 59 ls st M = mq_k1 d mj_m47 61 M (mj_lo 5 (.istore 4) ls st) := mj_R1 (r := (.istore 4, 2, 0, 0, 0)) rfl rfl
theorem s47_61 {d : Nat} {ls : mj_L} {st : List Value} {M : mj_H} : mj_Rn d mj_m47 61 ls st M = mq_k0 d mj_m47 63 ls M (mj_ldi (mj_lk ls 4) st) := mj_R0 (r := (.iload 4, 2, 0, 0, 0)) rfl rfl
theorem s47_63 {d : Nat} {ls : mj_L} {st : List Value} {M : mj_H} : mj_Rn d mj_m47 63 ls st M = mj_Rn d mj_m47 66 ls (.int 256 :: st) M := mj_R0 (r := (.sipush 256, 3, 0, 0, 0)) rfl rfl
theorem s47_66 {d : Nat} {ls : mj_L} {st : List Value} {M : mj_H} : mj_Rn d mj_m47 66 ls st M = mq_k2 d mj_m47 ls M (mj_br (.if_icmp .ge 40) 66 st) := mj_R2 (r := (.if_icmp .ge 40, 3, 0, 0, 0)) rfl rfl
theorem s47_69 {d : Nat} {ls : mj_L} {st : List Value} {M : mj_H} : mj_Rn d mj_m47 69 ls st M = mq_k0 d mj_m47 70 ls M (mj_ldi (mj_lk ls 3) st) := mj_R0 (r := (.iload_n 3, 1, 0, 0, 0)) rfl rfl
theorem s47_70 {d : Nat} {ls : mj_L} {st : List Value} {M : mj_H} : mj_Rn d mj_m47 70 ls st M = mq_k2 d mj_m47 ls M (mj_br (.ifCond .le 36) 70 st) := mj_R2 (r := (.ifCond .le 36, 3, 0, 0, 0)) rfl rfl
theorem s47_73 {d : Nat} {ls : mj_L} {st : List Value} {M : mj_H} : mj_Rn d mj_m47 73 ls st M = mq_k0 d mj_m47 74 ls M (mj_lda (mj_lk ls 0) st) := mj_R0 (r := (.aload_n 0, 1, 0, 0, 0)) rfl rfl
theorem s47_74 {d : Nat} {ls : mj_L} {st : List Value} {M : mj_H} : mj_Rn d mj_m47 74 ls st M = mq_k0 d mj_m47 75 ls M (mj_lda (mj_lk ls 0) st) := mj_R0 (r := (.aload_n 0, 1, 0, 0, 0)) rfl rfl
theorem s47_75 {d : Nat} {ls : mj_L} {st : List Value} {M : mj_H} : mj_Rn d mj_m47 75 ls st M = mq_k0 d mj_m47 78 ls M (mq_gf 8 9 st M) := (mj_R3 (r := (.getfield 88, 3, 8, 9, 16508)) rfl rfl).trans (congrArg (mq_k0 d mj_m47 78 ls M) mq_gf_eq)
theorem s47_78 {d : Nat} {ls : mj_L} {st : List Value} {M : mj_H} : mj_Rn (d + 1) mj_m47 78 ls st M = mq_k5a (d + 1) mj_m47 81 ls M 52 (mq_cb 0 1 8 st M) := mj_R5e (r := (.invokevirtual 94, 3, 0, 52, 12328)) (z := mj_m52) rfl rfl (by decide) (by decide) rfl
theorem s47_81 {d : Nat} {ls : mj_L} {st : List Value} {M : mj_H} : mj_Rn d mj_m47 81 ls st M = mq_k0 d mj_m47 82 ls M (mj_lda (mj_lk ls 0) st) := mj_R0 (r := (.aload_n 0, 1, 0, 0, 0)) rfl rfl
theorem s47_82 {d : Nat} {ls : mj_L} {st : List Value} {M : mj_H} : mj_Rn d mj_m47 82 ls st M = mq_k0 d mj_m47 83 ls M (mj_pu .dup ls st) := mj_R0 (r := (.dup, 1, 0, 0, 0)) rfl rfl
theorem s47_83 {d : Nat} {ls : mj_L} {st : List Value} {M : mj_H} : mj_Rn d mj_m47 83 ls st M = mq_k0 d mj_m47 86 ls M (mq_gf 8 9 st M) := (mj_R3 (r := (.getfield 88, 3, 8, 9, 16508)) rfl rfl).trans (congrArg (mq_k0 d mj_m47 86 ls M) mq_gf_eq)
theorem s47_86 {d : Nat} {ls : mj_L} {st : List Value} {M : mj_H} : mj_Rn d mj_m47 86 ls st M = mq_k0 d mj_m47 87 ls M (mj_ldi (mj_lk ls 3) st) := mj_R0 (r := (.iload_n 3, 1, 0, 0, 0)) rfl rfl
theorem s47_87 {d : Nat} {ls : mj_L} {st : List Value} {M : mj_H} : mj_Rn d mj_m47 87 ls st M = mq_k0 d mj_m47 88 ls M (mj_pu .iadd ls st) := mj_R0 (r := (.iadd, 1, 0, 0, 0)) rfl rfl
theorem s47_88 {d : Nat} {ls : mj_L} {st : List Value} {M : mj_H} : mj_Rn d mj_m47 88 ls st M = mq_k4 d mj_m47 91 ls (mq_pf 8 9 0 st M) := (mj_R4 (r := (.putfield 88, 3, 8, 9, 16508)) rfl rfl).trans (congrArg (mq_k4 d mj_m47 91 ls) (mq_pf_eq rfl rfl))
theorem s47_91 {d : Nat} {ls : mj_L} {st : List Value} {M : mj_H} : mj_Rn d mj_m47 91 ls st M = mq_k0 d mj_m47 92 ls M (mj_lda (mj_lk ls 0) st) := mj_R0 (r := (.aload_n 0, 1, 0, 0, 0)) rfl rfl
theorem s47_92 {d : Nat} {ls : mj_L} {st : List Value} {M : mj_H} : mj_Rn d mj_m47 92 ls st M = mq_k0 d mj_m47 93 ls M (mj_lda (mj_lk ls 0) st) := mj_R0 (r := (.aload_n 0, 1, 0, 0, 0)) rfl rfl
theorem s47_93 {d : Nat} {ls : mj_L} {st : List Value} {M : mj_H} : mj_Rn d mj_m47 93 ls st M = mq_k0 d mj_m47 96 ls M (mq_gf 8 9 st M) := (mj_R3 (r := (.getfield 88, 3, 8, 9, 16508)) rfl rfl).trans (congrArg (mq_k0 d mj_m47 96 ls M) mq_gf_eq)
theorem s47_96 {d : Nat} {ls : mj_L} {st : List Value} {M : mj_H} : mj_Rn (d + 1) mj_m47 96 ls st M = mq_k5a (d + 1) mj_m47 99 ls M 51 (mq_cb 0 1 8 st M) := mj_R5e (r := (.invokevirtual 91, 3, 0, 51, 12320)) (z := mj_m51) rfl rfl (by decide) (by decide) rfl
theorem s47_99 {d : Nat} {ls : mj_L} {st : List Value} {M : mj_H} : mj_Rn d mj_m47 99 ls st M = mq_k1 d mj_m47 100 M (mj_lo 5 (.istore 3) ls st) := (mj_R1 (r := (.istore_n 3, 1, 0, 0, 0)) rfl rfl).trans (congrArg (mq_k1 d mj_m47 100 M) (mq_sti (k := 3)))
theorem s47_100 {d : Nat} {ls : mj_L} {st : List Value} {M : mj_H} : mj_Rn d mj_m47 100 ls st M = mq_k1 d mj_m47 103 M (mj_lo 5 (.iinc 4 1) ls st) := mj_R1 (r := (.iinc 4 1, 3, 0, 0, 0)) rfl rfl
theorem s47_103 {d : Nat} {ls : mj_L} {st : List Value} {M : mj_H} : mj_Rn d mj_m47 103 ls st M = mj_Rn d mj_m47 61 ls st M := mj_R2 (r := (.goto (-42), 3, 0, 0, 0)) rfl rfl
theorem s47_106 {d : Nat} {ls : mj_L} {st : List Value} {M : mj_H} : mj_Rn d mj_m47 106 ls st M = mq_k0 d mj_m47 107 ls M (mj_lda (mj_lk ls 0) st) := mj_R0 (r := (.aload_n 0, 1, 0, 0, 0)) rfl rfl
theorem s47_107 {d : Nat} {ls : mj_L} {st : List Value} {M : mj_H} : mj_Rn d mj_m47 107 ls st M = mq_k0 d mj_m47 108 ls M (mj_lda (mj_lk ls 0) st) := mj_R0 (r := (.aload_n 0, 1, 0, 0, 0)) rfl rfl
theorem s47_108 {d : Nat} {ls : mj_L} {st : List Value} {M : mj_H} : mj_Rn d mj_m47 108 ls st M = mq_k0 d mj_m47 111 ls M (mq_gf 8 9 st M) := (mj_R3 (r := (.getfield 88, 3, 8, 9, 16508)) rfl rfl).trans (congrArg (mq_k0 d mj_m47 111 ls M) mq_gf_eq)
theorem s47_111 {d : Nat} {ls : mj_L} {st : List Value} {M : mj_H} : mj_Rn (d + 1) mj_m47 111 ls st M = mq_k5a (d + 1) mj_m47 114 ls M 57 (mq_cb 0 1 8 st M) := mj_R5e (r := (.invokevirtual 97, 3, 0, 57, 12349)) (z := mj_m57) rfl rfl (by decide) (by decide) rfl
theorem s47_114 {d : Nat} {ls : mj_L} {st : List Value} {M : mj_H} : mj_Rn d mj_m47 114 ls st M = mq_k2 d mj_m47 ls M (mj_br (.ifCond .ne 8) 114 st) := mj_R2 (r := (.ifCond .ne 8, 3, 0, 0, 0)) rfl rfl
theorem s47_117 {d : Nat} {ls : mj_L} {st : List Value} {M : mj_H} : mj_Rn d mj_m47 117 ls st M = mq_k0 d mj_m47 118 ls M (mj_lda (mj_lk ls 0) st) := mj_R0 (r := (.aload_n 0, 1, 0, 0, 0)) rfl rfl
theorem s47_118 {d : Nat} {ls : mj_L} {st : List Value} {M : mj_H} : mj_Rn (d + 1) mj_m47 118 ls st M = mq_k5a (d + 1) mj_m47 121 ls M 58 (mq_cb 0 0 8 st M) := mj_R5e (r := (.invokevirtual 101, 3, 0, 58, 12353)) (z := mj_m58) rfl rfl (by decide) (by decide) rfl
theorem s47_121 {d : Nat} {ls : mj_L} {st : List Value} {M : mj_H} : mj_Rn d mj_m47 121 ls st M = mq_k0 d mj_m47 122 ls M (mj_pu .pop ls st) := mj_R0 (r := (.pop, 1, 0, 0, 0)) rfl rfl
theorem s47_122 {d : Nat} {ls : mj_L} {st : List Value} {M : mj_H} : mj_Rn d mj_m47 122 ls st M = mq_k6 M (mj_re none (.return_) st) := mj_R6 (r := (.return_, 1, 0, 0, 0)) rfl rfl
theorem c47 {d : Nat} {a0 : Nat} {M : mj_H} : mj_V (d + 1) 47 [.ref a0] M = mj_Rn d mj_m47 0 [(0, .ref a0)] [] M := mj_V_go rfl (Nat.le_of_ble_eq_true rfl)
theorem l_copy {d κ p : Nat} {r : List Int32} (hr : p + r.length ≤ 512) : ∀ (bs : List Int32) (j : Nat) (s : Fl) (M : mj_H), r.drop j = bs → j ≤ r.length → ks M κ s r → s.1.length = 512 → ∃ M', mj_Rn (d + 1) mj_m43 2 [(2, .int (nI j)), (0, .ref (κ + 1)), (1, .int (nI p))] [] M = some (none, M') ∧ ks M' κ ((fs_over s.1 (p + j) bs, (s.2.1, (s.2.2.1, (s.2.2.2.1, (s.2.2.2.2.1, (s.2.2.2.2.2.1, (s.2.2.2.2.2.2.1, s.2.2.2.2.2.2.2))))))) : Fl) r ∧ kf κ M M' := by
  intro bs
  induction bs with
  | nil =>
    intro j s M hd hj h hfl
    have hjl : r.length ≤ j := List.drop_eq_nil_iff.mp hd
    refine ⟨M, ?_, by simpa [fs_over] using h, kf.rf⟩
    have v1 := v_size (d := d) h.rb
    have hob := h.ob
    unfold so at hob
    have hra := h.rb.2.2.2.2.2.1
    simp (disch := (first | omega | decide)) [s43_0, s43_1, s43_2, s43_3, s43_4, s43_7, s43_10, s43_13, s43_14, s43_17, s43_18, s43_19, s43_20, s43_21, s43_24, s43_25, s43_28, s43_31, s43_34, s43_37, mq_k0s, mq_k1s, mq_k2s, mq_k4s, mq_k5s, mq_k5n, mq_k5as, mq_k6s, mj_pu, mj_lo, mj_br, mj_hr, mj_hw, mq_gf, mq_len, mq_al, mq_pf, mq_ok, mj_re, mq_lkm, mq_lkn, mj_ldi, mj_ldl, mj_lda, mj_ii, mj_ll, mj_li, mj_i1, ms_1, ms_2, f1_n, f1_i, f1_r, f1_u, f1_l, f2_n, f2_i, f2_r, f2_u, f2_l, mj_tg, mj_c1, mj_c2, mj_ar, mj_aw, mq_cb, mq_oi, mj_rm, Value.category, -getElem?_pos, List.getElem?_cons_zero, decide_eq_true, decide_eq_false, nl_lt, nl_le, ln_lt, ln_le, nl_eq, ln_eq, nl_add, ln_add, nl_sub, ln_mul, nI_sub, nI_mul, nI_add, nI_lt_iff, nI_le_iff, nI_inj, nI_num, mq_ix, nI_1, nl_mul, nl_div, hob, hra, v1]
  | cons b bs ih =>
    intro j s M hd hj h hfl
    have hjl : j < r.length := by
      apply Nat.lt_of_not_le
      intro z
      rw [List.drop_eq_nil_of_le z] at hd
      cases hd
    have hb : r[j]? = some b := by rw [← List.head?_drop, hd]; rfl
    have hb' : bt_at r (nI j) = b := by rw [bt_at_nI (by omega)]; simp [List.getD, hb]
    have v1 := v_size (d := d) h.rb
    have hob := h.ob
    unfold so at hob
    have hra := h.rb.2.2.2.2.2.1
    have hca := h.ce.2.2.2.2.2.1
    have b8 := h.rb.2.2.2.2.1 b (List.mem_of_getElem? hb)
    obtain ⟨M2, p2, r2, f2⟩ := v_put (d := d) (k := p + j) h.ce (show p + j < s.1.length by omega) b
    rw [b8] at r2
    have k2 : ks M2 κ ((s.1.set (p + j) b, (s.2.1, (s.2.2.1, (s.2.2.2.1, (s.2.2.2.2.1, (s.2.2.2.2.2.1, (s.2.2.2.2.2.2.1, s.2.2.2.2.2.2.2))))))) : Fl) r := h.flash r2 (f2.mono (by simp)) rfl
    have hbl : bs.length + (j + 1) = r.length := by
      have := congrArg List.length hd
      simp at this; omega
    obtain ⟨M3, p3, r3, f3⟩ := ih (j + 1) _ M2 (by rw [← List.drop_drop, hd]; rfl) (by omega) k2 (by simp [hfl])
    have v2 := v_item (d := d) h.rb (nI j)
    rw [hb'] at v2
    have eo : fs_over (s.1.set (p + j) b) (p + (j + 1)) bs = fs_over s.1 (p + j) (b :: bs) := by
      rw [← Nat.add_assoc]; exact fs_over_cons (by omega)
    refine ⟨M3, ?_, by rw [← eo]; exact r3, (kf.of f2 (by simp)).tr f3⟩
    rw [s43_2]
    simp (disch := (first | omega | decide)) [s43_0, s43_1, s43_3, s43_4, s43_7, s43_10, s43_13, s43_14, s43_17, s43_18, s43_19, s43_20, s43_21, s43_24, s43_25, s43_28, s43_31, s43_34, s43_37, mq_k0s, mq_k1s, mq_k2s, mq_k4s, mq_k5s, mq_k5n, mq_k5as, mq_k6s, mj_pu, mj_lo, mj_br, mj_hr, mj_hw, mq_gf, mq_len, mq_al, mq_pf, mq_ok, mj_re, mq_lkm, mq_lkn, mj_ldi, mj_ldl, mj_lda, mj_ii, mj_ll, mj_li, mj_i1, ms_1, ms_2, f1_n, f1_i, f1_r, f1_u, f1_l, f2_n, f2_i, f2_r, f2_u, f2_l, mj_tg, mj_c1, mj_c2, mj_ar, mj_aw, mq_cb, mq_oi, mj_rm, Value.category, -getElem?_pos, List.getElem?_cons_zero, decide_eq_true, decide_eq_false, nl_lt, nl_le, ln_lt, ln_le, nl_eq, ln_eq, nl_add, ln_add, nl_sub, ln_mul, nI_sub, nI_mul, nI_add, nI_lt_iff, nI_le_iff, nI_inj, nI_num, mq_ix, nI_1, nl_mul, nl_div, hob, hra, hca, v1, v2, p2]
    refine mq_wk ?_ p3
    simp [mq_sub, mj_lk]
theorem st_copy {d κ p : Nat} {s : Fl} {r : List Int32} {M : mj_H} (h : ks M κ s r) (hr : p + r.length ≤ 512) (hfl : s.1.length = 512) : ∃ M', mj_V (d + 2) 43 [.ref (κ + 1), .int (nI p)] M = some (none, M') ∧ ks M' κ ((fs_over s.1 p r, (s.2.1, (s.2.2.1, (s.2.2.2.1, (s.2.2.2.2.1, (s.2.2.2.2.2.1, (s.2.2.2.2.2.2.1, s.2.2.2.2.2.2.2))))))) : Fl) r ∧ kf κ M M' := by
  obtain ⟨M1, p1, r1, f1⟩ := l_copy (d := d) hr r 0 s M rfl (by omega) h hfl
  refine ⟨M1, ?_, r1, f1⟩
  simp (disch := (first | omega | decide)) [c43, s43_0, s43_1, s43_3, s43_4, s43_7, s43_10, s43_13, s43_14, s43_17, s43_18, s43_19, s43_20, s43_21, s43_24, s43_25, s43_28, s43_31, s43_34, s43_37, mq_k0s, mq_k1s, mq_k2s, mq_k4s, mq_k5s, mq_k5n, mq_k5as, mq_k6s, mj_pu, mj_lo, mj_br, mj_hr, mj_hw, mq_gf, mq_len, mq_al, mq_pf, mq_ok, mj_re, mq_lkm, mq_lkn, mj_ldi, mj_ldl, mj_lda, mj_ii, mj_ll, mj_li, mj_i1, ms_1, ms_2, f1_n, f1_i, f1_r, f1_u, f1_l, f2_n, f2_i, f2_r, f2_u, f2_l, mj_tg, mj_c1, mj_c2, mj_ar, mj_aw, mq_cb, mq_oi, mj_rm, Value.category, -getElem?_pos, List.getElem?_cons_zero, decide_eq_true, decide_eq_false, nl_lt, nl_le, ln_lt, ln_le, nl_eq, ln_eq, nl_add, ln_add, nl_sub, ln_mul, nI_sub, nI_mul, nI_add, nI_lt_iff, nI_le_iff, nI_inj, nI_num, mq_ix, nI_1, nl_mul, nl_div]
  exact p1
theorem fs_new_over {v : Int32} {a b : List Int32} (n : Nat) (ha : a.length = 4) (hb : b.length = 8) : fs_over (fs_over (List.replicate (12 + n) v) 0 a) 4 b = a ++ (b ++ List.replicate n v) := by
  unfold fs_over
  rw [ha, hb, List.take_zero, List.nil_append, List.take_append_of_le_length (by omega), List.take_of_length_le (by omega), Nat.zero_add, List.drop_append, List.drop_eq_nil_of_le (by omega), List.nil_append, ha, List.drop_drop, List.drop_replicate]
  congr 4
  omega
theorem st_format {d κ : Nat} {m : Int32} {s : Fl} {r : List Int32} {M : mj_H} (h : ks M κ s r) : ∃ M', mj_V (d + 3) 38 [.ref (κ + 1), .int m] M = some (none, M') ∧ ks M' κ ((fs_new m, (s.2.1, (s.2.2.1, (s.2.2.2.1, (s.2.2.2.2.1, (s.2.2.2.2.2.1, (s.2.2.2.2.2.2.1, s.2.2.2.2.2.2.2))))))) : Fl) (rc 1 (b4 m)) ∧ kf κ M M' := by
  have hob := h.ob
  unfold so at hob
  have hca := h.ce.2.2.2.2.2.1
  obtain ⟨M1, p1, r1, f1⟩ := v_refill (d := d + 0) h.ce 255 (by decide)
  have k1 : ks M1 κ ((List.replicate 512 255, (s.2.1, (s.2.2.1, (s.2.2.2.1, (s.2.2.2.2.1, (s.2.2.2.2.2.1, (s.2.2.2.2.2.2.1, s.2.2.2.2.2.2.2))))))) : Fl) r := h.flash r1 (f1.mono (by simp)) rfl
  obtain ⟨M2, p2, k2, f2⟩ := st_header (d := d) k1 1
  have hh : (hdr 1).length = 4 := by simp [hdr, ck2, bt_low_len]
  have e512 : (List.replicate 512 (255 : Int32)).length = 512 := List.length_replicate
  have e2 : fs_over (fs_over (List.replicate 512 255) 0 (hdr 1)) 4 (rc 1 (b4 m)) = fs_new m := fs_new_over 500 hh (by simp [rc, ck2, bt_low_len, b4])
  generalize List.replicate 512 (255 : Int32) = z at *
  have hm : (rc 1 (b4 m)).length = 8 := by simp [rc, ck2, bt_low_len, b4]
  obtain ⟨M3, p3, k3, f3⟩ := st_copy (d := d) (p := 0) k2 (by omega) e512
  obtain ⟨M4, p4, k4, f4⟩ := st_comp (d := d) k3 1 m 0 (Or.inl rfl)
  have e1 : rcn 1 m 0 = rc 1 (b4 m) := rfl
  rw [e1] at k4
  obtain ⟨M5, p5, k5, f5⟩ := st_copy (d := d) (p := 4) k4 (by omega) (by show (fs_over z 0 (hdr 1)).length = 512; rw [fs_over_len (by omega)]; exact e512)
  rw [e2] at k5
  refine ⟨M5, ?_, k5, (((kf.of f1 (by simp)).tr f2).tr (f3.tr (kf.of f4 (by simp)))).tr f5⟩
  have o1 := k1.ob
  have o2 := k2.ob
  have o3 := k3.ob
  have o4 := k4.ob
  unfold so at o1 o2 o3 o4
  rw [show nI 1 = 1 from rfl] at p2
  rw [nI_0] at p3
  rw [n4] at p5
  simp (disch := (first | omega | decide)) [c38, s38_0, s38_1, s38_4, s38_7, s38_10, s38_11, s38_12, s38_15, s38_16, s38_17, s38_20, s38_21, s38_22, s38_23, s38_24, s38_25, s38_28, s38_29, s38_30, s38_33, mq_k0s, mq_k1s, mq_k2s, mq_k4s, mq_k5s, mq_k5n, mq_k5as, mq_k6s, mj_pu, mj_lo, mj_br, mj_hr, mj_hw, mq_gf, mq_len, mq_al, mq_pf, mq_ok, mj_re, mq_lkm, mq_lkn, mj_ldi, mj_ldl, mj_lda, mj_ii, mj_ll, mj_li, mj_i1, ms_1, ms_2, f1_n, f1_i, f1_r, f1_u, f1_l, f2_n, f2_i, f2_r, f2_u, f2_l, mj_tg, mj_c1, mj_c2, mj_ar, mj_aw, mq_cb, mq_oi, mj_rm, Value.category, -getElem?_pos, List.getElem?_cons_zero, decide_eq_true, decide_eq_false, nl_lt, nl_le, ln_lt, ln_le, nl_eq, ln_eq, nl_add, ln_add, nl_sub, ln_mul, nI_sub, nI_mul, nI_add, nI_lt_iff, nI_le_iff, nI_inj, nI_num, mq_ix, nI_1, nl_mul, nl_div, hob, hca, p1, o1, p2, o2, p3, o3, p4, o4, p5]
theorem fs_rz_rec {ar : List Int32} {p n : Nat} (h : fs_rz ar p = n) (hn : n ≠ 0) (hl : ar.length = 256) : p + n ≤ 256 ∧ ((ar.drop p).take n).length = n ∧ isRec ((ar.drop p).take n) ∧ 5 ≤ n := by
  unfold fs_rz at h
  dsimp only at h
  split at h
  · next hc =>
    obtain ⟨h1, h2, h3⟩ := hc
    have hk := fs_kl_le h2
    have hlen : ((ar.drop p).take n).length = n := by simp; omega
    have g0 : ((ar.drop p).take n).getD 0 0 = ar.getD p 0 := by simp [List.getD, List.getElem?_take, show 0 < n by omega]
    have g1 : ((ar.drop p).take n).getD 1 0 = ar.getD (p + 1) 0 := by simp [List.getD, List.getElem?_take, show 1 < n by omega]
    exact ⟨by omega, hlen, (isRec_mk_ (by rw [g0, g1]; exact h2) (by rw [g1, hlen]; omega)), by omega⟩
  · omega
theorem fs_lrn_mono (s : St) (r : List Int32) : s.2.2.2.2.length ≤ (fs_lrn s r).2.2.2.2.length := by
  unfold fs_lrn
  repeat' split
  all_goals try exact Nat.le_refl _
  · unfold fs_count; split <;> simp
  · simp only [fs_cred]; split <;> simp
theorem fs_pz_mono {ar : List Int32} : ∀ (f p : Nat) (s : St), s.2.2.2.2.length ≤ (fs_pz ar f p s).1.2.2.2.2.length := by
  intro f
  induction f with
  | zero => intro p s; exact Nat.le_refl _
  | succ f ih =>
    intro p s
    rw [fs_pz]
    split
    · exact Nat.le_refl _
    · exact Nat.le_trans (fs_lrn_mono _ _) (ih _ _)
theorem okU_lrn {s : St} {r : List Int32} (hu : okU s.2.2.2.2) (hr : isRec r) (h8 : ∀ v ∈ r, v &&& 255 = v) : okU (fs_lrn s r).2.2.2.2 := by
  unfold fs_lrn
  repeat' split
  all_goals try exact hu
  · unfold fs_count
    split
    · exact hu
    · intro c hc
      obtain ⟨c0, h1, h2⟩ := List.mem_map.mp hc
      have := hu c0 h1
      split at h2 <;> subst h2 <;> exact this
  · have hk := hr.kl
    have hkk := fs_kl_le hk
    have hnew : ∀ c : Cr, c.2.2.2.1 = (r.drop 14).take (uN (r.getD 1 0) - 12) → c.2.2.2.1.length ≤ 8 ∧ ∀ v ∈ c.2.2.2.1, v &&& 255 = v := by
      intro c hc
      rw [hc]
      refine ⟨by rw [List.length_take]; omega, sl_by h8 _ _⟩
    simp only [fs_cred]
    split
    · intro c hc
      rcases List.mem_or_eq_of_mem_set hc with hc | rfl
      · exact hu c hc
      · exact hnew _ rfl
    · intro c hc
      rcases List.mem_append.mp hc with hc | hc
      · exact hu c hc
      · simp at hc; subst hc; exact hnew _ rfl
theorem l_wake {d κ : Nat} {x1 x2 : Int32} : ∀ (m i : Nat) (s : Fl) (r : List Int32) (M : mj_H), i + m = 256 → ks M κ s r → s.1.length = 512 → s.2.2.2.2.1 ≤ 1 → okU s.2.2.2.2.2.2.2.2.2.2.2 → s.2.2.2.2.2.2.1 ≤ 256 → (fs_pz (fs_ar s.1 s.2.2.2.2.1) m s.2.2.2.2.2.2.1 s.2.2.2.2.2.2.2).1.2.2.2.2.length ≤ 8 → 4 + 5 * i ≤ s.2.2.2.2.2.2.1 →
    ∃ M1, ks M1 κ ((s.1, (s.2.1, (s.2.2.1, (s.2.2.2.1, (s.2.2.2.2.1, (s.2.2.2.2.2.1, ((fs_pz (fs_ar s.1 s.2.2.2.2.1) m s.2.2.2.2.2.2.1 s.2.2.2.2.2.2.2).2, (fs_pz (fs_ar s.1 s.2.2.2.2.1) m s.2.2.2.2.2.2.1 s.2.2.2.2.2.2.2).1))))))) : Fl) r ∧ kf κ M M1 ∧ okU (fs_pz (fs_ar s.1 s.2.2.2.2.1) m s.2.2.2.2.2.2.1 s.2.2.2.2.2.2.2).1.2.2.2.2 ∧ (fs_pz (fs_ar s.1 s.2.2.2.2.1) m s.2.2.2.2.2.2.1 s.2.2.2.2.2.2.2).2 ≤ 256 ∧
    ∀ q, mj_Rn (d + 4) mj_m47 106 [(0, .ref (κ + 1))] [] M1 = some q → mj_Rn (d + 4) mj_m47 61 [(4, .int (nI i)), (3, .int (nI (fs_rz (fs_ar s.1 s.2.2.2.2.1) s.2.2.2.2.2.2.1))), (2, .int x2), (1, .int x1), (0, .ref (κ + 1))] [] M = some q := by
  intro m
  induction m with
  | zero => intro i s r M hi h hfl ha hu hen hl8 h45; omega
  | succ m ih =>
    intro i s r M hi h hfl ha hu hen hl8 h45
    have hal : (fs_ar s.1 s.2.2.2.2.1).length = 256 := by unfold fs_ar; rw [sl_len (by omega)]
    have hob := h.ob
    unfold so at hob
    generalize hn : fs_rz (fs_ar s.1 s.2.2.2.2.1) s.2.2.2.2.2.2.1 = n at *
    by_cases h0 : n = 0
    · rw [fs_pz, hn, if_pos h0]
      refine ⟨M, h, kf.rf, hu, hen, fun q hq => ?_⟩
      rw [s47_61]
      subst h0
      simp (disch := (first | omega | decide)) [s47_0, s47_1, s47_2, s47_5, s47_6, s47_7, s47_10, s47_11, s47_12, s47_13, s47_16, s47_17, s47_18, s47_19, s47_20, s47_23, s47_24, s47_27, s47_28, s47_31, s47_32, s47_33, s47_34, s47_37, s47_40, s47_41, s47_44, s47_45, s47_46, s47_49, s47_50, s47_51, s47_54, s47_57, s47_58, s47_59, s47_63, s47_66, s47_69, s47_70, s47_73, s47_74, s47_75, s47_78, s47_81, s47_82, s47_83, s47_86, s47_87, s47_88, s47_91, s47_92, s47_93, s47_96, s47_99, s47_100, s47_103, s47_107, s47_108, s47_111, s47_114, s47_117, s47_118, s47_121, s47_122, mq_k0s, mq_k1s, mq_k2s, mq_k4s, mq_k5s, mq_k5n, mq_k5as, mq_k6s, mj_pu, mj_lo, mj_br, mj_hr, mj_hw, mq_gf, mq_len, mq_al, mq_pf, mq_ok, mj_re, mq_lkm, mq_lkn, mj_ldi, mj_ldl, mj_lda, mj_ii, mj_ll, mj_li, mj_i1, ms_1, ms_2, f1_n, f1_i, f1_r, f1_u, f1_l, f2_n, f2_i, f2_r, f2_u, f2_l, mj_tg, mj_c1, mj_c2, mj_ar, mj_aw, mq_cb, mq_oi, mj_rm, Value.category, -getElem?_pos, List.getElem?_cons_zero, decide_eq_true, decide_eq_false, nl_lt, nl_le, ln_lt, ln_le, nl_eq, ln_eq, nl_add, ln_add, nl_sub, ln_mul, nI_sub, nI_mul, nI_add, nI_lt_iff, nI_le_iff, nI_inj, nI_num, mq_ix, nI_1, nl_mul, nl_div]
      refine mq_wk ?_ hq
      simp [mq_sub, mj_lk]
    · obtain ⟨g1, g2, g3, g4⟩ := fs_rz_rec hn h0 hal
      rw [fs_pz, hn, if_neg h0] at hl8 ⊢
      have hsl := ar_slice (fl := s.1) (a := s.2.2.2.2.1) (p := s.2.2.2.2.2.2.1) (n := n) g1
      have hr8 : ∀ v ∈ ((fs_ar s.1 s.2.2.2.2.1).drop s.2.2.2.2.2.2.1).take n, v &&& 255 = v := by rw [hsl]; exact sl_by h.ce.2.2.2.2.1 _ _
      have hu' := okU_lrn hu g3 hr8
      have hc : (s.1.drop (s.2.2.2.2.1 * 256 + s.2.2.2.2.2.2.1)).take (((fs_ar s.1 s.2.2.2.2.1).drop s.2.2.2.2.2.2.1).take n).length = ((fs_ar s.1 s.2.2.2.2.1).drop s.2.2.2.2.2.2.1).take n := by rw [g2, hsl]
      have hl8' := Nat.le_trans (fs_pz_mono (ar := fs_ar s.1 s.2.2.2.2.1) m (s.2.2.2.2.2.2.1 + n) (fs_lrn s.2.2.2.2.2.2.2 (((fs_ar s.1 s.2.2.2.2.1).drop s.2.2.2.2.2.2.1).take n))) hl8
      obtain ⟨M1, p1, k1, f1⟩ := st_learn (d := d + 1) (p := s.2.2.2.2.2.2.1) h hu hfl ha g3 (by rw [g2]; exact g1) hc hl8'
      generalize ((fs_ar s.1 s.2.2.2.2.1).drop s.2.2.2.2.2.2.1).take n = rr at *
      have k2 := k1.set (s' := ((s.1, (s.2.1, (s.2.2.1, (s.2.2.2.1, (s.2.2.2.2.1, (s.2.2.2.2.2.1, (s.2.2.2.2.2.2.1 + n, fs_lrn s.2.2.2.2.2.2.2 rr))))))) : Fl)) rfl rfl
      have v2 := st_size (d := d + 2) (p := s.2.2.2.2.2.2.1 + n) k2 ha hfl (by show s.2.2.2.2.2.2.1 + n ≤ 512; omega)
      obtain ⟨M3, k3, f3, u3, e3, q3⟩ := ih (i + 1) ((s.1, (s.2.1, (s.2.2.1, (s.2.2.2.1, (s.2.2.2.2.1, (s.2.2.2.2.2.1, (s.2.2.2.2.2.2.1 + n, fs_lrn s.2.2.2.2.2.2.2 rr))))))) : Fl) r _ (by omega) k2 hfl ha hu' g1 hl8 (by show _ ≤ s.2.2.2.2.2.2.1 + n; omega)
      refine ⟨M3, k3, (f1.tr (kf.st (by omega))).tr f3, u3, e3, fun q hq => ?_⟩
      have q4 := q3 q hq
      have o1 := k1.ob
      have o2 := k2.ob
      unfold so at o1 o2 v2 q4
      dsimp only at o1 o2 v2 q4
      have hlo := h.lo
      have hl := mq_lt k1.ob
      have hh : ¬ κ + 1 < 25 := by omega
      rw [s47_61]
      simp (disch := (first | omega | decide)) [s47_0, s47_1, s47_2, s47_5, s47_6, s47_7, s47_10, s47_11, s47_12, s47_13, s47_16, s47_17, s47_18, s47_19, s47_20, s47_23, s47_24, s47_27, s47_28, s47_31, s47_32, s47_33, s47_34, s47_37, s47_40, s47_41, s47_44, s47_45, s47_46, s47_49, s47_50, s47_51, s47_54, s47_57, s47_58, s47_59, s47_63, s47_66, s47_69, s47_70, s47_73, s47_74, s47_75, s47_78, s47_81, s47_82, s47_83, s47_86, s47_87, s47_88, s47_91, s47_92, s47_93, s47_96, s47_99, s47_100, s47_103, s47_107, s47_108, s47_111, s47_114, s47_117, s47_118, s47_121, s47_122, mq_k0s, mq_k1s, mq_k2s, mq_k4s, mq_k5s, mq_k5n, mq_k5as, mq_k6s, mj_pu, mj_lo, mj_br, mj_hr, mj_hw, mq_gf, mq_len, mq_al, mq_pf, mq_ok, mj_re, mq_lkm, mq_lkn, mj_ldi, mj_ldl, mj_lda, mj_ii, mj_ll, mj_li, mj_i1, ms_1, ms_2, f1_n, f1_i, f1_r, f1_u, f1_l, f2_n, f2_i, f2_r, f2_u, f2_l, mj_tg, mj_c1, mj_c2, mj_ar, mj_aw, mq_cb, mq_oi, mj_rm, Value.category, -getElem?_pos, List.getElem?_cons_zero, decide_eq_true, decide_eq_false, nl_lt, nl_le, ln_lt, ln_le, nl_eq, ln_eq, nl_add, ln_add, nl_sub, ln_mul, nI_sub, nI_mul, nI_add, nI_lt_iff, nI_le_iff, nI_inj, nI_num, mq_ix, nI_1, nl_mul, nl_div, hob, p1, o1, narrow, mj_E, hh, hl, o2, v2]
      refine mq_wk ?_ q4
      simp [mq_sub, mj_lk]
/-- what fs_up leaves, when an area is good -/
theorem st_wake {d κ : Nat} {s : Fl} {r : List Int32} {M : mj_H} (h : ks M κ s r) (hfl : s.1.length = 512) (hgood : (fs_gg s.1 0).isSome ∨ (fs_gg s.1 1).isSome) (hl8 : (fs_up s).2.2.2.2.2.2.2.2.2.2.2.length ≤ 8) (hr : 4 + (fs_up s).2.2.2.2.2.2.2.recs.length ≤ 256) : ∃ M' r', mj_V (d + 5) 47 [.ref (κ + 1)] M = some (none, M') ∧ ks M' κ (fs_wake s) r' ∧ kf κ M M' := by
  have hb2 : ∀ a, a ≤ 1 → bn ((s.1.drop (a * 256)).take 2) < 65536 := by
    intro a ha
    have := bn_lt _ (sl_by h.ce.2.2.2.2.1 (a * 256) 2)
    rw [sl_len (by omega)] at this
    exact this
  have hgb : ∀ a g, a ≤ 1 → fs_gg s.1 a = some g → g < 65536 := by
    intro a g ha hg
    unfold fs_gg at hg
    split at hg
    · cases hg; exact hb2 a ha
    · cases hg
  have hua : (fs_use s.1).1 ≤ 1 ∧ (fs_use s.1).2 < 65536 := by
    unfold fs_use
    cases e0 : fs_gg s.1 0 <;> cases e1 : fs_gg s.1 1 <;> dsimp only
    · exact ⟨by omega, by omega⟩
    · exact ⟨by omega, hgb 1 _ (by omega) e1⟩
    · exact ⟨by omega, hgb 0 _ (by omega) e0⟩
    · split
      · exact ⟨by omega, hgb 1 _ (by omega) e1⟩
      · exact ⟨by omega, hgb 0 _ (by omega) e0⟩
  have hob := h.ob
  have hlo := h.lo
  have hl := mq_lt h.ob
  have hh : ¬ κ + 1 < 25 := by omega
  have k0 := h.set (s' := ((s.1, (true, (s.2.2.1, (s.2.2.2.1, (s.2.2.2.2.1, (s.2.2.2.2.2.1, (s.2.2.2.2.2.2.1, s.2.2.2.2.2.2.2))))))) : Fl)) rfl rfl
  have v0 := st_good (d := d + 2) (w := 0) k0 (by omega) hfl
  have v1 := st_good (d := d + 2) (w := 1) k0 (by omega) hfl
  have k2 := h.set (s' := ((s.1, (true, (s.2.2.1, (s.2.2.2.1, ((fs_use s.1).1, ((fs_use s.1).2, (s.2.2.2.2.2.2.1, s.2.2.2.2.2.2.2))))))) : Fl)) rfl rfl
  obtain ⟨M3, p3, k3, f3⟩ := st_forget (d := d + 3) k2
  have k4 := k3.set (s' := ((s.1, (true, (s.2.2.1, (s.2.2.2.1, ((fs_use s.1).1, ((fs_use s.1).2, (4, St.none))))))) : Fl)) rfl rfl
  have v4 := st_size (d := d + 2) (p := 4) k4 hua.1 hfl (by omega)
  obtain ⟨M5, k5, f5, u5, e5, q5⟩ := l_wake (d := d) (x1 := ggI (fs_gg s.1 0)) (x2 := ggI (fs_gg s.1 1)) 256 0 _ r _ rfl k4 hfl hua.1 (by intro c hc; cases hc) (by show 4 ≤ 256; omega) hl8 (by show 4 + 5 * 0 ≤ 4; omega)
  have k5' : ks M5 κ (fs_up s) r := k5
  have u5' : okU (fs_up s).2.2.2.2.2.2.2.2.2.2.2 := u5
  have e5' : (fs_up s).2.2.2.2.2.2.1 ≤ 256 := e5
  have f15 : kf κ M M5 := (((kf.st (by omega)).tr f3).tr (kf.st (by omega))).tr f5
  have ha5 : (fs_up s).2.2.2.2.1 ≤ 1 := hua.1
  have hf5 : (fs_up s).1.length = 512 := hfl
  have v6 := st_erased (d := d + 2) (p := (fs_up s).2.2.2.2.2.2.1) k5' ha5 hf5 e5'
  have ev : fs_wake s = if ((fs_ar (fs_up s).1 (fs_up s).2.2.2.2.1).drop (fs_up s).2.2.2.2.2.2.1).all (fun v => v == 255) then fs_up s else (fs_move (fs_up s)).1 := rfl
  have o5 := k5'.ob
  unfold so at o5
  -- from the beginning to the loop
  have start : ∀ q, mj_Rn (d + 4) mj_m47 106 [(0, .ref (κ + 1))] [] M5 = some q → mj_V (d + 5) 47 [.ref (κ + 1)] M = some q := by
    intro q hq
    have q6 := q5 q hq
    have o3 := k3.ob
    have o4 := k4.ob
    unfold so at hob o3 o4 v0 v1 p3 v4 q6
    dsimp only at hob o3 o4 v0 v1 p3 v4 q6
    have hl3 := mq_lt k3.ob
    rw [nI_0] at v0 q6
    rw [show nI 1 = 1 from rfl] at v1
    rw [n4] at v4 o4 q6
    rw [St.none] at o3 o4 v4 q6
    simp only [List.length_nil, if_true] at o3 o4 v4 q6 v0 v1 p3
    have hz : ∀ n : Nat, n < 65536 → ¬ nI n ≤ -1 := by
      intro n hn hc
      have := nI_pos (show n < 2 ^ 31 by omega)
      rw [Int32.le_iff_toInt_le] at hc
      rw [Int32.lt_iff_toInt_lt] at this
      simp at hc this
      omega
    have hz' : ∀ n : Nat, n < 65536 → (-1 : Int32) ≤ nI n := by
      intro n hn
      have := nI_pos (show n < 2 ^ 31 by omega)
      rw [Int32.le_iff_toInt_le]
      rw [Int32.lt_iff_toInt_lt] at this
      simp at this ⊢
      omega
    have hzl : ∀ n : Nat, n < 65536 → (-1 : Int32) < nI n := by
      intro n hn
      have := nI_pos (show n < 2 ^ 31 by omega)
      rw [Int32.lt_iff_toInt_lt]
      rw [Int32.lt_iff_toInt_lt] at this
      simp at this ⊢
      omega
    have hznl : ∀ n : Nat, n < 65536 → ¬ nI n < (-1 : Int32) := by
      intro n hn
      have := nI_pos (show n < 2 ^ 31 by omega)
      rw [Int32.lt_iff_toInt_lt]
      rw [Int32.lt_iff_toInt_lt] at this
      simp at this ⊢
      omega
    cases e0 : fs_gg s.1 0 with
    | none =>
      cases e1 : fs_gg s.1 1 with
      | none => rw [e0, e1] at hgood; simp at hgood
      | some g1 =>
        have hb := hgb 1 _ (by omega) e1
        have eu : fs_use s.1 = (1, g1) := by unfold fs_use; rw [e0, e1]
        rw [e0, ggI] at v0
        rw [e1, ggI] at v1
        rw [eu] at p3 o3 o4 v4 q6
        simp only [show nI 1 = 1 from rfl, nI_0] at p3 o3 o4 v4 q6
        rw [e0, e1, ggI, ggI] at q6
        simp (disch := (first | omega | decide)) [c47, s47_0, s47_1, s47_2, s47_5, s47_6, s47_7, s47_10, s47_11, s47_12, s47_13, s47_16, s47_17, s47_18, s47_19, s47_20, s47_23, s47_24, s47_27, s47_28, s47_31, s47_32, s47_33, s47_34, s47_37, s47_40, s47_41, s47_44, s47_45, s47_46, s47_49, s47_50, s47_51, s47_54, s47_57, s47_58, s47_59, s47_63, s47_66, s47_69, s47_70, s47_73, s47_74, s47_75, s47_78, s47_81, s47_82, s47_83, s47_86, s47_87, s47_88, s47_91, s47_92, s47_93, s47_96, s47_99, s47_100, s47_103, s47_107, s47_108, s47_111, s47_114, s47_117, s47_118, s47_121, s47_122, mq_k0s, mq_k1s, mq_k2s, mq_k4s, mq_k5s, mq_k5n, mq_k5as, mq_k6s, mj_pu, mj_lo, mj_br, mj_hr, mj_hw, mq_gf, mq_len, mq_al, mq_pf, mq_ok, mj_re, mq_lkm, mq_lkn, mj_ldi, mj_ldl, mj_lda, mj_ii, mj_ll, mj_li, mj_i1, ms_1, ms_2, f1_n, f1_i, f1_r, f1_u, f1_l, f2_n, f2_i, f2_r, f2_u, f2_l, mj_tg, mj_c1, mj_c2, mj_ar, mj_aw, mq_cb, mq_oi, mj_rm, Value.category, -getElem?_pos, List.getElem?_cons_zero, decide_eq_true, decide_eq_false, nl_lt, nl_le, ln_lt, ln_le, nl_eq, ln_eq, nl_add, ln_add, nl_sub, ln_mul, nI_sub, nI_mul, nI_add, nI_lt_iff, nI_le_iff, nI_inj, nI_num, mq_ix, nI_1, nl_mul, nl_div, hob, v0, v1, j_max, hz g1 hb, hzl g1 hb, narrow, narrow_b1, mj_E, hh, hl, List.getElem?_set, p3, o3, o4, hl3, v4]
        exact q6
    | some g0 =>
      have hb0 := hgb 0 _ (by omega) e0
      rw [e0, ggI] at v0
      cases e1 : fs_gg s.1 1 with
      | none =>
        have eu : fs_use s.1 = (0, g0) := by unfold fs_use; rw [e0, e1]
        rw [e1, ggI] at v1
        rw [eu] at p3 o3 o4 v4 q6
        simp only [show nI 1 = 1 from rfl, nI_0] at p3 o3 o4 v4 q6
        rw [e0, e1, ggI, ggI] at q6
        simp (disch := (first | omega | decide)) [c47, s47_0, s47_1, s47_2, s47_5, s47_6, s47_7, s47_10, s47_11, s47_12, s47_13, s47_16, s47_17, s47_18, s47_19, s47_20, s47_23, s47_24, s47_27, s47_28, s47_31, s47_32, s47_33, s47_34, s47_37, s47_40, s47_41, s47_44, s47_45, s47_46, s47_49, s47_50, s47_51, s47_54, s47_57, s47_58, s47_59, s47_63, s47_66, s47_69, s47_70, s47_73, s47_74, s47_75, s47_78, s47_81, s47_82, s47_83, s47_86, s47_87, s47_88, s47_91, s47_92, s47_93, s47_96, s47_99, s47_100, s47_103, s47_107, s47_108, s47_111, s47_114, s47_117, s47_118, s47_121, s47_122, mq_k0s, mq_k1s, mq_k2s, mq_k4s, mq_k5s, mq_k5n, mq_k5as, mq_k6s, mj_pu, mj_lo, mj_br, mj_hr, mj_hw, mq_gf, mq_len, mq_al, mq_pf, mq_ok, mj_re, mq_lkm, mq_lkn, mj_ldi, mj_ldl, mj_lda, mj_ii, mj_ll, mj_li, mj_i1, ms_1, ms_2, f1_n, f1_i, f1_r, f1_u, f1_l, f2_n, f2_i, f2_r, f2_u, f2_l, mj_tg, mj_c1, mj_c2, mj_ar, mj_aw, mq_cb, mq_oi, mj_rm, Value.category, -getElem?_pos, List.getElem?_cons_zero, decide_eq_true, decide_eq_false, nl_lt, nl_le, ln_lt, ln_le, nl_eq, ln_eq, nl_add, ln_add, nl_sub, ln_mul, nI_sub, nI_mul, nI_add, nI_lt_iff, nI_le_iff, nI_inj, nI_num, mq_ix, nI_1, nl_mul, nl_div, hob, v0, v1, j_max, hz' g0 hb0, hznl g0 hb0, narrow, narrow_b1, mj_E, hh, hl, List.getElem?_set, p3, o3, o4, hl3, v4]
        exact q6
      | some g1 =>
        have hb := hgb 1 _ (by omega) e1
        rw [e1, ggI] at v1
        rw [e0, e1, ggI, ggI] at q6
        by_cases hlt : g0 < g1
        · have eu : fs_use s.1 = (1, g1) := by unfold fs_use; rw [e0, e1]; simp [hlt]
          rw [eu] at p3 o3 o4 v4 q6
          simp only [show nI 1 = 1 from rfl, nI_0] at p3 o3 o4 v4 q6
          simp (disch := (first | omega | decide)) [c47, s47_0, s47_1, s47_2, s47_5, s47_6, s47_7, s47_10, s47_11, s47_12, s47_13, s47_16, s47_17, s47_18, s47_19, s47_20, s47_23, s47_24, s47_27, s47_28, s47_31, s47_32, s47_33, s47_34, s47_37, s47_40, s47_41, s47_44, s47_45, s47_46, s47_49, s47_50, s47_51, s47_54, s47_57, s47_58, s47_59, s47_63, s47_66, s47_69, s47_70, s47_73, s47_74, s47_75, s47_78, s47_81, s47_82, s47_83, s47_86, s47_87, s47_88, s47_91, s47_92, s47_93, s47_96, s47_99, s47_100, s47_103, s47_107, s47_108, s47_111, s47_114, s47_117, s47_118, s47_121, s47_122, mq_k0s, mq_k1s, mq_k2s, mq_k4s, mq_k5s, mq_k5n, mq_k5as, mq_k6s, mj_pu, mj_lo, mj_br, mj_hr, mj_hw, mq_gf, mq_len, mq_al, mq_pf, mq_ok, mj_re, mq_lkm, mq_lkn, mj_ldi, mj_ldl, mj_lda, mj_ii, mj_ll, mj_li, mj_i1, ms_1, ms_2, f1_n, f1_i, f1_r, f1_u, f1_l, f2_n, f2_i, f2_r, f2_u, f2_l, mj_tg, mj_c1, mj_c2, mj_ar, mj_aw, mq_cb, mq_oi, mj_rm, Value.category, -getElem?_pos, List.getElem?_cons_zero, decide_eq_true, decide_eq_false, nl_lt, nl_le, ln_lt, ln_le, nl_eq, ln_eq, nl_add, ln_add, nl_sub, ln_mul, nI_sub, nI_mul, nI_add, nI_lt_iff, nI_le_iff, nI_inj, nI_num, mq_ix, nI_1, nl_mul, nl_div, hob, v0, v1, j_max, hlt, narrow, narrow_b1, mj_E, hh, hl, List.getElem?_set, p3, o3, o4, hl3, v4]
          exact q6
        · have eu : fs_use s.1 = (0, g0) := by unfold fs_use; rw [e0, e1]; simp [hlt]
          rw [eu] at p3 o3 o4 v4 q6
          simp only [show nI 1 = 1 from rfl, nI_0] at p3 o3 o4 v4 q6
          simp (disch := (first | omega | decide)) [c47, s47_0, s47_1, s47_2, s47_5, s47_6, s47_7, s47_10, s47_11, s47_12, s47_13, s47_16, s47_17, s47_18, s47_19, s47_20, s47_23, s47_24, s47_27, s47_28, s47_31, s47_32, s47_33, s47_34, s47_37, s47_40, s47_41, s47_44, s47_45, s47_46, s47_49, s47_50, s47_51, s47_54, s47_57, s47_58, s47_59, s47_63, s47_66, s47_69, s47_70, s47_73, s47_74, s47_75, s47_78, s47_81, s47_82, s47_83, s47_86, s47_87, s47_88, s47_91, s47_92, s47_93, s47_96, s47_99, s47_100, s47_103, s47_107, s47_108, s47_111, s47_114, s47_117, s47_118, s47_121, s47_122, mq_k0s, mq_k1s, mq_k2s, mq_k4s, mq_k5s, mq_k5n, mq_k5as, mq_k6s, mj_pu, mj_lo, mj_br, mj_hr, mj_hw, mq_gf, mq_len, mq_al, mq_pf, mq_ok, mj_re, mq_lkm, mq_lkn, mj_ldi, mj_ldl, mj_lda, mj_ii, mj_ll, mj_li, mj_i1, ms_1, ms_2, f1_n, f1_i, f1_r, f1_u, f1_l, f2_n, f2_i, f2_r, f2_u, f2_l, mj_tg, mj_c1, mj_c2, mj_ar, mj_aw, mq_cb, mq_oi, mj_rm, Value.category, -getElem?_pos, List.getElem?_cons_zero, decide_eq_true, decide_eq_false, nl_lt, nl_le, ln_lt, ln_le, nl_eq, ln_eq, nl_add, ln_add, nl_sub, ln_mul, nI_sub, nI_mul, nI_add, nI_lt_iff, nI_le_iff, nI_inj, nI_num, mq_ix, nI_1, nl_mul, nl_div, hob, v0, v1, j_max, hlt, narrow, narrow_b1, mj_E, hh, hl, List.getElem?_set, p3, o3, o4, hl3, v4]
          exact q6
  cases hcl : ((fs_ar (fs_up s).1 (fs_up s).2.2.2.2.1).drop (fs_up s).2.2.2.2.2.2.1).all (fun v => v == 255) with
  | true =>
    rw [hcl] at v6
    refine ⟨M5, r, start _ ?_, by rw [ev, hcl]; exact k5', f15⟩
    simp (disch := (first | omega | decide)) [s47_0, s47_1, s47_2, s47_5, s47_6, s47_7, s47_10, s47_11, s47_12, s47_13, s47_16, s47_17, s47_18, s47_19, s47_20, s47_23, s47_24, s47_27, s47_28, s47_31, s47_32, s47_33, s47_34, s47_37, s47_40, s47_41, s47_44, s47_45, s47_46, s47_49, s47_50, s47_51, s47_54, s47_57, s47_58, s47_59, s47_63, s47_66, s47_69, s47_70, s47_73, s47_74, s47_75, s47_78, s47_81, s47_82, s47_83, s47_86, s47_87, s47_88, s47_91, s47_92, s47_93, s47_96, s47_99, s47_100, s47_103, s47_106, s47_107, s47_108, s47_111, s47_114, s47_117, s47_118, s47_121, s47_122, mq_k0s, mq_k1s, mq_k2s, mq_k4s, mq_k5s, mq_k5n, mq_k5as, mq_k6s, mj_pu, mj_lo, mj_br, mj_hr, mj_hw, mq_gf, mq_len, mq_al, mq_pf, mq_ok, mj_re, mq_lkm, mq_lkn, mj_ldi, mj_ldl, mj_lda, mj_ii, mj_ll, mj_li, mj_i1, ms_1, ms_2, f1_n, f1_i, f1_r, f1_u, f1_l, f2_n, f2_i, f2_r, f2_u, f2_l, mj_tg, mj_c1, mj_c2, mj_ar, mj_aw, mq_cb, mq_oi, mj_rm, Value.category, -getElem?_pos, List.getElem?_cons_zero, decide_eq_true, decide_eq_false, nl_lt, nl_le, ln_lt, ln_le, nl_eq, ln_eq, nl_add, ln_add, nl_sub, ln_mul, nI_sub, nI_mul, nI_add, nI_lt_iff, nI_le_iff, nI_inj, nI_num, mq_ix, nI_1, nl_mul, nl_div, o5, v6, on1]
  | false =>
    rw [hcl] at v6
    obtain ⟨M7, r7, p7, k7, f7⟩ := st_move (d := d) k5' rfl hf5 ha5 (show (fs_use s.1).2 < 2 ^ 30 by omega) u5' hr
    refine ⟨M7, r7, start _ ?_, by rw [ev, hcl]; exact k7, f15.tr f7⟩
    simp (disch := (first | omega | decide)) [s47_0, s47_1, s47_2, s47_5, s47_6, s47_7, s47_10, s47_11, s47_12, s47_13, s47_16, s47_17, s47_18, s47_19, s47_20, s47_23, s47_24, s47_27, s47_28, s47_31, s47_32, s47_33, s47_34, s47_37, s47_40, s47_41, s47_44, s47_45, s47_46, s47_49, s47_50, s47_51, s47_54, s47_57, s47_58, s47_59, s47_63, s47_66, s47_69, s47_70, s47_73, s47_74, s47_75, s47_78, s47_81, s47_82, s47_83, s47_86, s47_87, s47_88, s47_91, s47_92, s47_93, s47_96, s47_99, s47_100, s47_103, s47_106, s47_107, s47_108, s47_111, s47_114, s47_117, s47_118, s47_121, s47_122, mq_k0s, mq_k1s, mq_k2s, mq_k4s, mq_k5s, mq_k5n, mq_k5as, mq_k6s, mj_pu, mj_lo, mj_br, mj_hr, mj_hw, mq_gf, mq_len, mq_al, mq_pf, mq_ok, mj_re, mq_lkm, mq_lkn, mj_ldi, mj_ldl, mj_lda, mj_ii, mj_ll, mj_li, mj_i1, ms_1, ms_2, f1_n, f1_i, f1_r, f1_u, f1_l, f2_n, f2_i, f2_r, f2_u, f2_l, mj_tg, mj_c1, mj_c2, mj_ar, mj_aw, mq_cb, mq_oi, mj_rm, Value.category, -getElem?_pos, List.getElem?_cons_zero, decide_eq_true, decide_eq_false, nl_lt, nl_le, ln_lt, ln_le, nl_eq, ln_eq, nl_add, ln_add, nl_sub, ln_mul, nI_sub, nI_mul, nI_add, nI_lt_iff, nI_le_iff, nI_inj, nI_num, mq_ix, nI_1, nl_mul, nl_div, o5, v6, on1, p7]
end
/- 80.key0 -/
section
set_option maxRecDepth 512
/-! Class: Key: its cells; what each small act leaves. -/
abbrev Ky : Type := (((Fl × (List Int32)) × (List Int32) × Cr) × (Nat × Int32) × Int32 × Nat) × ((Nat × Nat) × Bool × Nat) × (Int32 × Int32) × Int32
def ko (κ : Nat) (k : Ky) : mj_C := (5, [.ref 30, .ref 36, .ref (κ + 1), .ref (κ + 16), .ref (κ + 18), .int (nI k.1.2.1.1), .int k.1.2.1.2, .int k.1.2.2.1, .int (nI k.1.2.2.2), .int (nI k.2.1.1.1), .int (nI k.2.1.1.2), .int (if k.2.1.2.1 then 1 else 0), .int (nI k.2.1.2.2), .int k.2.2.1.1, .int k.2.2.1.2, .int k.2.2.2])
/-- the cells of the key at κ, and what it needs of others -/
def kz (A : Nat → Prop) (κ : Nat) (M : mj_H) (k : Ky) (T : Tm) (row : List Int32) : Prop := (tx A M T row) ∧ (M[κ]? = some (ko κ k)) ∧ (∃ r, ks M κ k.1.1.1.1 r) ∧ (M[κ + 15]? = some (cc k.1.1.2.2)) ∧ (bb M (κ + 16) (κ + 17) 400 k.1.1.1.2) ∧ (bb M (κ + 18) (κ + 19) 17 k.1.1.2.1) ∧ (146 ≤ κ) ∧ (∀ c, (c < 30 ∨ (36 ≤ c ∧ c ≤ 43) ∨ (κ ≤ c ∧ c ≤ κ + 19)) → A c) ∧ (∀ i, i < 11 → sg M (3 + 2 * i) (mj_str.getD i []))
theorem kz.t {A : Nat → Prop} {κ : Nat} {M : mj_H} {k : Ky} {T : Tm} {row : List Int32} (hh_ : kz A κ M k T row) : tx A M T row := hh_.1
theorem kz.ob {A : Nat → Prop} {κ : Nat} {M : mj_H} {k : Ky} {T : Tm} {row : List Int32} (hh_ : kz A κ M k T row) : M[κ]? = some (ko κ k) := hh_.2.1
theorem kz.st {A : Nat → Prop} {κ : Nat} {M : mj_H} {k : Ky} {T : Tm} {row : List Int32} (hh_ : kz A κ M k T row) : ∃ r, ks M κ k.1.1.1.1 r := hh_.2.2.1
theorem kz.cm {A : Nat → Prop} {κ : Nat} {M : mj_H} {k : Ky} {T : Tm} {row : List Int32} (hh_ : kz A κ M k T row) : M[κ + 15]? = some (cc k.1.1.2.2) := hh_.2.2.2.1
theorem kz.re {A : Nat → Prop} {κ : Nat} {M : mj_H} {k : Ky} {T : Tm} {row : List Int32} (hh_ : kz A κ M k T row) : bb M (κ + 16) (κ + 17) 400 k.1.1.1.2 := hh_.2.2.2.2.1
theorem kz.da {A : Nat → Prop} {κ : Nat} {M : mj_H} {k : Ky} {T : Tm} {row : List Int32} (hh_ : kz A κ M k T row) : bb M (κ + 18) (κ + 19) 17 k.1.1.2.1 := hh_.2.2.2.2.2.1
theorem kz.lo {A : Nat → Prop} {κ : Nat} {M : mj_H} {k : Ky} {T : Tm} {row : List Int32} (hh_ : kz A κ M k T row) : 146 ≤ κ := hh_.2.2.2.2.2.2.1
theorem kz.aA {A : Nat → Prop} {κ : Nat} {M : mj_H} {k : Ky} {T : Tm} {row : List Int32} (hh_ : kz A κ M k T row) : ∀ c, (c < 30 ∨ (36 ≤ c ∧ c ≤ 43) ∨ (κ ≤ c ∧ c ≤ κ + 19)) → A c := hh_.2.2.2.2.2.2.2.1
theorem kz.str {A : Nat → Prop} {κ : Nat} {M : mj_H} {k : Ky} {T : Tm} {row : List Int32} (hh_ : kz A κ M k T row) : ∀ i, i < 11 → sg M (3 + 2 * i) (mj_str.getD i []) := hh_.2.2.2.2.2.2.2.2
theorem kz_mk_ {A : Nat → Prop} {κ : Nat} {M : mj_H} {k : Ky} {T : Tm} {row : List Int32} (f_0_ : tx A M T row) (f_1_ : M[κ]? = some (ko κ k)) (f_2_ : ∃ r, ks M κ k.1.1.1.1 r) (f_3_ : M[κ + 15]? = some (cc k.1.1.2.2)) (f_4_ : bb M (κ + 16) (κ + 17) 400 k.1.1.1.2) (f_5_ : bb M (κ + 18) (κ + 19) 17 k.1.1.2.1) (f_6_ : 146 ≤ κ) (f_7_ : ∀ c, (c < 30 ∨ (36 ≤ c ∧ c ≤ 43) ∨ (κ ≤ c ∧ c ≤ κ + 19)) → A c) (f_8_ : ∀ i, i < 11 → sg M (3 + 2 * i) (mj_str.getD i [])) : kz A κ M k T row := And.intro f_0_ (And.intro f_1_ (And.intro f_2_ (And.intro f_3_ (And.intro f_4_ (And.intro f_5_ (And.intro f_6_ (And.intro f_7_ f_8_)))))))
def kS (A : Nat → Prop) (κ c : Nat) : Prop := ¬ A c ∨ (κ ≤ c ∧ c ≤ κ + 19)
section KZ
variable {A : Nat → Prop} {κ : Nat} {M M' : mj_H} {k : Ky} {T T' : Tm} {row row' : List Int32}
theorem kz.lt (z : kz A κ M k T row) {c : Nat} (h : c < 30 ∨ (36 ≤ c ∧ c ≤ 43) ∨ (κ ≤ c ∧ c ≤ κ + 19)) : c < M.length := z.t.lo c (z.aA c h)
theorem kz.mk_t (z : kz A κ M k T row) (h : tx A M' T' row') (f : fx (na A) M M') : kz A κ M' k T' row' ∧ fx (kS A κ) M M' := by
  have e : ∀ c, (c < 30 ∨ (36 ≤ c ∧ c ≤ 43) ∨ (κ ≤ c ∧ c ≤ κ + 19)) → M'[c]? = M[c]? := fun c hc => f.same c (z.lt hc) (fun n => n (z.aA c hc))
  obtain ⟨r, hr⟩ := z.st
  refine ⟨(kz_mk_ h ((e _ (by omega)).trans z.ob) (⟨r, hr.fr (fun c hc => e c (by omega))⟩) ((e _ (by omega)).trans z.cm) (z.re.fr (e _ (by omega)) (e _ (by omega))) (z.da.fr (e _ (by omega)) (e _ (by omega))) z.lo z.aA (fun i hi => (z.str i hi).fr (e _ (by omega)) (e _ (by omega)))), f.mono (fun c _ hc => Or.inl hc)⟩
/-- only cells of the block have changed -/
theorem kz.blk (z : kz A κ M k T row) (hl : M'.length = M.length) (hs : ∀ c, ¬ (κ ≤ c ∧ c ≤ κ + 19) → M'[c]? = M[c]?) (hg : mj_gr M M') : tx A M' T row ∧ fx (kS A κ) M M' ∧ (∀ i, i < 11 → sg M' (3 + 2 * i) (mj_str.getD i [])) := by
  have hlo := z.lo
  have h30 : M'[30]? = M[30]? := hs _ (by omega)
  have hz := mj_zz_eq hg h30 z.t.p30.pe
  have hsl := hg.sl
  rw [List.drop_eq_nil_of_le (by omega)] at hsl
  refine ⟨z.t.fr (by omega) (fun c _ hc => hs c (fun n => hc (z.aA c (Or.inr (Or.inr n))))), (fx_mk_ hg (fun c _ hc => hs c (fun n => hc (Or.inr n))) ?_ ?_), fun i hi => (z.str i hi).fr (hs _ (by omega)) (hs _ (by omega))⟩
  · rw [hsl, hz]; simp [mj_sl]
  · rw [hz, hl]; exact Nat.le_refl _
theorem kz.mk_r (z : kz A κ M k T row) {xs : List Int32} (hb : bb M' (κ + 16) (κ + 17) 400 xs) (hf : mq_fr [κ + 16, κ + 17] M M') (hg : mj_gr M M') : kz A κ M' (((((k.1.1.1.1, xs), (k.1.1.2.1, k.1.1.2.2)), ((k.1.2.1.1, k.1.2.1.2), (k.1.2.2.1, k.1.2.2.2))), (((k.2.1.1.1, k.2.1.1.2), (k.2.1.2.1, k.2.1.2.2)), ((k.2.2.1.1, k.2.2.1.2), k.2.2.2))) : Ky) T row ∧ fx (kS A κ) M M' := by
  have e : ∀ c, c ≠ κ + 16 → c ≠ κ + 17 → M'[c]? = M[c]? := fun c h1 h2 => hf.2 c (by simp [h1, h2])
  obtain ⟨h1, h2, h3⟩ := z.blk hf.1 (fun c hc => e c (by omega) (by omega)) hg
  obtain ⟨r, hr⟩ := z.st
  have hlo := z.lo
  exact ⟨(kz_mk_ h1 ((e _ (by omega) (by omega)).trans z.ob) (⟨r, hr.fr (fun c hc => e c (by omega) (by omega))⟩) ((e _ (by omega) (by omega)).trans z.cm) hb (z.da.fr (e _ (by omega) (by omega)) (e _ (by omega) (by omega))) z.lo z.aA h3), h2⟩
theorem kz.mk_d (z : kz A κ M k T row) {xs : List Int32} (hb : bb M' (κ + 18) (κ + 19) 17 xs) (hf : mq_fr [κ + 18, κ + 19] M M') (hg : mj_gr M M') : kz A κ M' (((((k.1.1.1.1, k.1.1.1.2), (xs, k.1.1.2.2)), ((k.1.2.1.1, k.1.2.1.2), (k.1.2.2.1, k.1.2.2.2))), (((k.2.1.1.1, k.2.1.1.2), (k.2.1.2.1, k.2.1.2.2)), ((k.2.2.1.1, k.2.2.1.2), k.2.2.2))) : Ky) T row ∧ fx (kS A κ) M M' := by
  have e : ∀ c, c ≠ κ + 18 → c ≠ κ + 19 → M'[c]? = M[c]? := fun c h1 h2 => hf.2 c (by simp [h1, h2])
  obtain ⟨h1, h2, h3⟩ := z.blk hf.1 (fun c hc => e c (by omega) (by omega)) hg
  obtain ⟨r, hr⟩ := z.st
  have hlo := z.lo
  exact ⟨(kz_mk_ h1 ((e _ (by omega) (by omega)).trans z.ob) (⟨r, hr.fr (fun c hc => e c (by omega) (by omega))⟩) ((e _ (by omega) (by omega)).trans z.cm) (z.re.fr (e _ (by omega) (by omega)) (e _ (by omega) (by omega))) hb z.lo z.aA h3), h2⟩
theorem kz.mk_s (z : kz A κ M k T row) {s : Fl} {r : List Int32} (hk : ks M' κ s r) (hf : kf κ M M') (hg : mj_gr M M') : kz A κ M' (((((s, k.1.1.1.2), (k.1.1.2.1, k.1.1.2.2)), ((k.1.2.1.1, k.1.2.1.2), (k.1.2.2.1, k.1.2.2.2))), (((k.2.1.1.1, k.2.1.1.2), (k.2.1.2.1, k.2.1.2.2)), ((k.2.2.1.1, k.2.2.1.2), k.2.2.2))) : Ky) T row ∧ fx (kS A κ) M M' := by
  have e : ∀ c, ¬ (κ + 1 ≤ c ∧ c ≤ κ + 14) → M'[c]? = M[c]? := hf.2
  obtain ⟨h1, h2, h3⟩ := z.blk hf.1 (fun c hc => e c (by omega)) hg
  have hlo := z.lo
  exact ⟨(kz_mk_ h1 ((e _ (by omega)).trans z.ob) (⟨r, hk⟩) ((e _ (by omega)).trans z.cm) (z.re.fr (e _ (by omega)) (e _ (by omega))) (z.da.fr (e _ (by omega)) (e _ (by omega))) z.lo z.aA h3), h2⟩
theorem kz.mk_o (z : kz A κ M k T row) (k' : Ky) (h1 : k'.1.1.1.1 = k.1.1.1.1) (h2 : k'.1.1.1.2 = k.1.1.1.2) (h3 : k'.1.1.2.1 = k.1.1.2.1) (h4 : k'.1.1.2.2 = k.1.1.2.2) : kz A κ (M.set κ (ko κ k')) k' T row ∧ fx (kS A κ) M (M.set κ (ko κ k')) := by
  have e : ∀ c, c ≠ κ → (M.set κ (ko κ k'))[c]? = M[c]? := fun c hc => List.getElem?_set_ne (fun z => hc z.symm)
  obtain ⟨g1, g2, g3⟩ := z.blk (M' := M.set κ (ko κ k')) (by simp) (fun c hc => e c (by omega)) (mj_gr.set z.ob rfl rfl)
  obtain ⟨r, hr⟩ := z.st
  have hlo := z.lo
  exact ⟨(kz_mk_ g1 (List.getElem?_set_self (mq_lt z.ob)) (⟨r, by rw [h1]; exact hr.fr (fun c hc => e c (by omega))⟩) (by rw [h4]; exact (e _ (by omega)).trans z.cm) (by rw [h2]; exact z.re.fr (e _ (by omega)) (e _ (by omega))) (by rw [h3]; exact z.da.fr (e _ (by omega)) (e _ (by omega))) z.lo z.aA g3), g2⟩
theorem kz.mk_c (z : kz A κ M k T row) (c : Cr) : kz A κ (M.set (κ + 15) (cc c)) (((((k.1.1.1.1, k.1.1.1.2), (k.1.1.2.1, c)), ((k.1.2.1.1, k.1.2.1.2), (k.1.2.2.1, k.1.2.2.2))), (((k.2.1.1.1, k.2.1.1.2), (k.2.1.2.1, k.2.1.2.2)), ((k.2.2.1.1, k.2.2.1.2), k.2.2.2))) : Ky) T row ∧ fx (kS A κ) M (M.set (κ + 15) (cc c)) := by
  have e : ∀ a, a ≠ κ + 15 → (M.set (κ + 15) (cc c))[a]? = M[a]? := fun a ha => List.getElem?_set_ne (fun z => ha z.symm)
  obtain ⟨g1, g2, g3⟩ := z.blk (M' := M.set (κ + 15) (cc c)) (by simp) (fun a ha => e a (by omega)) (mj_gr.set z.cm rfl rfl)
  obtain ⟨r, hr⟩ := z.st
  have hlo := z.lo
  exact ⟨(kz_mk_ g1 ((e _ (by omega)).trans z.ob) (⟨r, hr.fr (fun c hc => e c (by omega))⟩) (List.getElem?_set_self (mq_lt z.cm)) (z.re.fr (e _ (by omega)) (e _ (by omega))) (z.da.fr (e _ (by omega)) (e _ (by omega))) z.lo z.aA g3), g2⟩
/-- the objects that are called -/
theorem kz.fa (z : kz A κ M k T row) : ∃ u, M[30]? = some (9, u) ∧ M[κ]? = some (5, [.ref 30, .ref 36, .ref (κ + 1), .ref (κ + 16), .ref (κ + 18), .int (nI k.1.2.1.1), .int k.1.2.1.2, .int k.1.2.2.1, .int (nI k.1.2.2.2), .int (nI k.2.1.1.1), .int (nI k.2.1.1.2), .int (if k.2.1.2.1 then 1 else 0), .int (nI k.2.1.2.2), .int k.2.2.1.1, .int k.2.2.1.2, .int k.2.2.2]) ∧ M[κ + 1]? = some (8, [.ref (κ + 2), .ref (κ + 4), .ref (κ + 6), .ref (κ + 15), .int (if k.1.1.1.1.2.1 then 1 else 0), .int k.1.1.1.1.2.2.1, .int k.1.1.1.1.2.2.2.1, .int (nI k.1.1.1.1.2.2.2.2.1), .int (nI k.1.1.1.1.2.2.2.2.2.1), .int (nI k.1.1.1.1.2.2.2.2.2.2.1), .int k.1.1.1.1.2.2.2.2.2.2.2.1, .int k.1.1.1.1.2.2.2.2.2.2.2.2.1, .int k.1.1.1.1.2.2.2.2.2.2.2.2.2.1, .int k.1.1.1.1.2.2.2.2.2.2.2.2.2.2.1, .int (nI k.1.1.1.1.2.2.2.2.2.2.2.2.2.2.2.length)]) ∧ M[κ + 15]? = some (2, [.int k.1.1.2.2.1, .int k.1.1.2.2.2.1, .int k.1.1.2.2.2.2.1, .long (bt_lo k.1.1.2.2.2.2.2.1), .int (nI k.1.1.2.2.2.2.2.1.length), .int k.1.1.2.2.2.2.2.2]) ∧ M[κ + 16]? = some (1, [.ref (κ + 17), .int (nI k.1.1.1.2.length)]) ∧ M[κ + 18]? = some (1, [.ref (κ + 19), .int (nI k.1.1.2.1.length)]) := by
  obtain ⟨p, e, o, h⟩ := z.t.ob
  obtain ⟨r, hr⟩ := z.st
  exact ⟨_, h, z.ob, hr.ob, z.cm, z.re.2.2.2.2.2.1, z.da.2.2.2.2.2.1⟩
variable {d : Nat}
theorem kz_begin (z : kz A κ M k T row) (v : Int32) : ∃ M', mj_V (d + 2) 28 [.ref 30, .int v] M = some (none, M') ∧ kz A κ M' k T [v] ∧ fx (kS A κ) M M' := by
  obtain ⟨M1, p1, h1, f1⟩ := tx_begin (d := d) z.t v
  exact ⟨M1, p1, (z.mk_t h1 f1)⟩
theorem kz_add (z : kz A κ M k T row) (hl : row.length < 410) (v : Int32) : ∃ M', mj_V (d + 1) 29 [.ref 30, .int v] M = some (none, M') ∧ kz A κ M' k T (row ++ [v]) ∧ fx (kS A κ) M M' := by
  obtain ⟨M1, p1, h1, f1⟩ := tx_add (d := d) z.t hl v
  exact ⟨M1, p1, (z.mk_t h1 f1)⟩
theorem kz_addFour (z : kz A κ M k T row) (hl : row.length + 4 ≤ 410) (v : Int32) : ∃ M', mj_V (d + 2) 122 [.ref 30, .int v] M = some (none, M') ∧ kz A κ M' k T (row ++ b4 v) ∧ fx (kS A κ) M M' := by
  obtain ⟨M1, p1, h1, f1⟩ := tx_addFour (d := d) z.t hl v
  rw [b4_4] at h1
  exact ⟨M1, p1, (z.mk_t h1 f1)⟩
theorem kz_addBytes {c b cap q n : Nat} {ys : List Int32} (z : kz A κ M k T row) (hy : bb M c b cap ys) (hc : A c) (hb : A b) (hn : q + n ≤ ys.length) (hl : row.length + n ≤ 410) : ∃ M', mj_V (d + 2) 113 [.ref 30, .ref c, .int (nI q), .int (nI n)] M = some (none, M') ∧ kz A κ M' k T (row ++ (ys.drop q).take n) ∧ fx (kS A κ) M M' := by
  obtain ⟨M1, p1, h1, f1⟩ := tx_addBytes (d := d) z.t hy hc hb hn hl
  exact ⟨M1, p1, (z.mk_t h1 f1)⟩
theorem kz_made (z : kz A κ M k T row) (h0 : 0 < row.length) (hf : T.1.length < 1000) : ∃ M', mj_V (d + 4) 30 [.ref 30] M = some (some (.int (nI (tm_no T row))), M') ∧ kz A κ M' k (tm_mk T row) row ∧ fx (kS A κ) M M' := by
  obtain ⟨M1, p1, h1, f1⟩ := tx_made (d := d) z.t h0 hf
  exact ⟨M1, p1, (z.mk_t h1 f1)⟩
theorem kz_newSecret (z : kz A κ M k T row) : ∃ M', mj_V (d + 1) 66 [.ref 30] M = some (some (.int (nI (T.2.2 + 1))), M') ∧ kz A κ M' k ((T.1, (T.2.1, T.2.2 + 1)) : Tm) row ∧ fx (kS A κ) M M' := by
  obtain ⟨M1, p1, h1, f1⟩ := tx_newSecret (d := d) z.t
  exact ⟨M1, p1, (z.mk_t h1 f1)⟩
def tm_fresh (T : Tm) : Tm := (((tm_mk T [1, nI T.2.1]).1, (T.2.1 + 1, (tm_mk T [1, nI T.2.1]).2.2)) : Tm)
theorem kz_fresh (z : kz A κ M k T row) (hf : T.1.length < 1000) : ∃ M', mj_V (d + 5) 27 [.ref 30] M = some (some (.int (nI (tm_no T [1, nI T.2.1]))), M') ∧ kz A κ M' k (tm_fresh T) [1, nI T.2.1] ∧ fx (kS A κ) M M' := by
  obtain ⟨M1, p1, h1, f1⟩ := tx_freshTerm (d := d) z.t hf
  exact ⟨M1, p1, (z.mk_t h1 f1)⟩
theorem kz_public (z : kz A κ M k T row) (s : Int32) (hf : T.1.length < 1000) : ∃ M', mj_V (d + 5) 130 [.ref 30, .int s] M = some (some (.int (nI (tm_no T [2, s]))), M') ∧ kz A κ M' k (tm_mk T [2, s]) [2, s] ∧ fx (kS A κ) M M' := by
  obtain ⟨M1, p1, h1, f1⟩ := tx_publicOf (d := d) z.t s hf
  exact ⟨M1, p1, (z.mk_t h1 f1)⟩
theorem kz_agreed (z : kz A κ M k T row) (a b : Int32) : ∃ M', mj_V (d + 3) 147 [.ref 30, .int a, .int b] M = some (none, M') ∧ kz A κ M' k T (tm_agr a b) ∧ fx (kS A κ) M M' := by
  obtain ⟨M1, p1, h1, f1⟩ := tx_beginAgreed (d := d) z.t a b
  exact ⟨M1, p1, (z.mk_t h1 f1)⟩
theorem kz_addParts {t : Int32} {q : Nat} (z : kz A κ M k T row) (hq : q ≤ (tm_row T.1 t).length) (hl : row.length + (tm_row T.1 t).length ≤ 410) : ∃ M', mj_V (d + 3) 153 [.ref 30, .int t, .int (nI q)] M = some (none, M') ∧ kz A κ M' k T (row ++ (tm_row T.1 t).drop q) ∧ fx (kS A κ) M M' := by
  obtain ⟨M1, p1, h1, f1⟩ := tx_addPartsOf (d := d) z.t hq hl
  exact ⟨M1, p1, (z.mk_t h1 f1)⟩
theorem kz_clear (z : kz A κ M k T row) : ∃ M', mj_V (d + 1) 12 [.ref (κ + 16)] M = some (none, M') ∧ kz A κ M' (((((k.1.1.1.1, []), (k.1.1.2.1, k.1.1.2.2)), ((k.1.2.1.1, k.1.2.1.2), (k.1.2.2.1, k.1.2.2.2))), (((k.2.1.1.1, k.2.1.1.2), (k.2.1.2.1, k.2.1.2.2)), ((k.2.2.1.1, k.2.2.1.2), k.2.2.2))) : Ky) T row ∧ fx (kS A κ) M M' := by
  obtain ⟨M1, p1, r1, f1⟩ := v_clear (d := d) z.re
  exact ⟨M1, p1, z.mk_r r1 (f1.mono (by simp)) (mj_V_gr p1)⟩
theorem kz_push (z : kz A κ M k T row) (v : Int32) (hl : k.1.1.1.2.length < 400) : ∃ M', mj_V (d + 1) 45 [.ref (κ + 16), .int v] M = some (none, M') ∧ kz A κ M' (((((k.1.1.1.1, k.1.1.1.2 ++ [v &&& 255]), (k.1.1.2.1, k.1.1.2.2)), ((k.1.2.1.1, k.1.2.1.2), (k.1.2.2.1, k.1.2.2.2))), (((k.2.1.1.1, k.2.1.1.2), (k.2.1.2.1, k.2.1.2.2)), ((k.2.2.1.1, k.2.2.1.2), k.2.2.2))) : Ky) T row ∧ fx (kS A κ) M M' := by
  obtain ⟨M1, p1, r1, f1⟩ := v_push (d := d) z.re v
  rw [bt_app_in (by simp; omega)] at r1
  exact ⟨M1, p1, z.mk_r r1 f1 (mj_V_gr p1)⟩
theorem bt_hd_len (s n : Int32) : (bt_hd s n).length ≤ 3 := by
  unfold bt_hd
  split
  · simp
  · split <;> simp [bt_low_len]
theorem kz_head (z : kz A κ M k T row) (s n : Int32) (hl : k.1.1.1.2.length + 3 ≤ 400) : ∃ M', mj_V (d + 2) 131 [.ref (κ + 16), .int s, .int n] M = some (none, M') ∧ kz A κ M' (((((k.1.1.1.1, k.1.1.1.2 ++ bt_hd s n), (k.1.1.2.1, k.1.1.2.2)), ((k.1.2.1.1, k.1.2.1.2), (k.1.2.2.1, k.1.2.2.2))), (((k.2.1.1.1, k.2.1.1.2), (k.2.1.2.1, k.2.1.2.2)), ((k.2.2.1.1, k.2.2.1.2), k.2.2.2))) : Ky) T row ∧ fx (kS A κ) M M' := by
  obtain ⟨M1, p1, r1, f1⟩ := v_head (d := d) z.re s n
  rw [bt_app_in (by have := bt_hd_len s n; omega)] at r1
  exact ⟨M1, p1, z.mk_r r1 f1 (mj_V_gr p1)⟩
theorem kz_term (z : kz A κ M k T row) (t : Int32) (hl : k.1.1.1.2.length + 5 ≤ 400) : ∃ M', mj_V (d + 3) 134 [.ref (κ + 16), .int t] M = some (none, M') ∧ kz A κ M' (((((k.1.1.1.1, k.1.1.1.2 ++ (68 :: b4 t)), (k.1.1.2.1, k.1.1.2.2)), ((k.1.2.1.1, k.1.2.1.2), (k.1.2.2.1, k.1.2.2.2))), (((k.2.1.1.1, k.2.1.1.2), (k.2.1.2.1, k.2.1.2.2)), ((k.2.2.1.1, k.2.2.1.2), k.2.2.2))) : Ky) T row ∧ fx (kS A κ) M M' := by
  obtain ⟨M1, p1, r1, f1⟩ := v_term (d := d) z.re t
  rw [b4_low, bt_app_in (by simp [b4_len]; omega)] at r1
  exact ⟨M1, p1, z.mk_r r1 f1 (mj_V_gr p1)⟩
theorem kz_low {m : Nat} (z : kz A κ M k T row) (w : Int64) (hl : k.1.1.1.2.length + m ≤ 400) : ∃ M', mj_V (d + 1) 10 [.ref (κ + 16), .long w, .int (nI m)] M = some (none, M') ∧ kz A κ M' (((((k.1.1.1.1, k.1.1.1.2 ++ bt_low w m), (k.1.1.2.1, k.1.1.2.2)), ((k.1.2.1.1, k.1.2.1.2), (k.1.2.2.1, k.1.2.2.2))), (((k.2.1.1.1, k.2.1.1.2), (k.2.1.2.1, k.2.1.2.2)), ((k.2.2.1.1, k.2.2.1.2), k.2.2.2))) : Ky) T row ∧ fx (kS A κ) M M' := by
  obtain ⟨M1, p1, r1, f1⟩ := v_pushLow (d := d) (w := w) (m := m) (by omega) z.re
  rw [bt_app_in (by rw [bt_low_len]; omega)] at r1
  exact ⟨M1, p1, z.mk_r r1 f1 (mj_V_gr p1)⟩
theorem kz_text {i : Nat} (z : kz A κ M k T row) (hi : i < 11) (hl : k.1.1.1.2.length + 13 ≤ 400) : ∃ M', mj_V (d + 5) 132 [.ref (κ + 16), .ref (3 + 2 * i)] M = some (none, M') ∧ kz A κ M' (((((k.1.1.1.1, k.1.1.1.2 ++ (bt_hd 3 (nI (mj_str.getD i []).length) ++ mj_str.getD i [])), (k.1.1.2.1, k.1.1.2.2)), ((k.1.2.1.1, k.1.2.1.2), (k.1.2.2.1, k.1.2.2.2))), (((k.2.1.1.1, k.2.1.1.2), (k.2.1.2.1, k.2.1.2.2)), ((k.2.2.1.1, k.2.2.1.2), k.2.2.2))) : Ky) T row ∧ fx (kS A κ) M M' := by
  have hlo := z.lo
  have hs : (mj_str.getD i []).length ≤ 10 := by
    have : ∀ i, i < 11 → (mj_str.getD i []).length ≤ 10 := by decide
    exact this i hi
  obtain ⟨M1, p1, r1, f1⟩ := v_text (d := d) z.re (z.str i hi) (by omega)
  have h3 := bt_hd_len 3 (nI (mj_str.getD i []).length)
  rw [bt_app_in (by rw [List.length_append]; omega)] at r1
  exact ⟨M1, p1, z.mk_r r1 f1 (mj_V_gr p1)⟩
/-- DATA goes behind the answer -/
theorem kz_part (z : kz A κ M k T row) (hl : k.1.1.1.2.length + k.1.1.2.1.length ≤ 400) : ∃ M', mj_V (d + 2) 77 [.ref (κ + 16), .ref (κ + 18), .int 0, .int (nI k.1.1.2.1.length)] M = some (none, M') ∧ kz A κ M' (((((k.1.1.1.1, k.1.1.1.2 ++ k.1.1.2.1), (k.1.1.2.1, k.1.1.2.2)), ((k.1.2.1.1, k.1.2.1.2), (k.1.2.2.1, k.1.2.2.2))), (((k.2.1.1.1, k.2.1.1.2), (k.2.1.2.1, k.2.1.2.2)), ((k.2.2.1.1, k.2.2.1.2), k.2.2.2))) : Ky) T row ∧ fx (kS A κ) M M' := by
  obtain ⟨M1, p1, r1, f1⟩ := v_pushPart (d := d) (p := 0) (n := k.1.1.2.1.length) (by omega) (by omega) (by omega) (by omega) (by omega) z.re z.da
  rw [List.drop_zero, List.take_of_length_le (Nat.le_refl _), bt_app_in (by omega)] at r1
  rw [nI_0] at p1
  exact ⟨M1, p1, z.mk_r r1 f1 (mj_V_gr p1)⟩
theorem kz_dclear (z : kz A κ M k T row) : ∃ M', mj_V (d + 1) 12 [.ref (κ + 18)] M = some (none, M') ∧ kz A κ M' (((((k.1.1.1.1, k.1.1.1.2), ([], k.1.1.2.2)), ((k.1.2.1.1, k.1.2.1.2), (k.1.2.2.1, k.1.2.2.2))), (((k.2.1.1.1, k.2.1.1.2), (k.2.1.2.1, k.2.1.2.2)), ((k.2.2.1.1, k.2.2.1.2), k.2.2.2))) : Ky) T row ∧ fx (kS A κ) M M' := by
  obtain ⟨M1, p1, r1, f1⟩ := v_clear (d := d) z.da
  exact ⟨M1, p1, z.mk_d r1 (f1.mono (by simp)) (mj_V_gr p1)⟩
theorem kz_dpush (z : kz A κ M k T row) (v : Int32) (hl : k.1.1.2.1.length < 17) : ∃ M', mj_V (d + 1) 45 [.ref (κ + 18), .int v] M = some (none, M') ∧ kz A κ M' (((((k.1.1.1.1, k.1.1.1.2), (k.1.1.2.1 ++ [v &&& 255], k.1.1.2.2)), ((k.1.2.1.1, k.1.2.1.2), (k.1.2.2.1, k.1.2.2.2))), (((k.2.1.1.1, k.2.1.1.2), (k.2.1.2.1, k.2.1.2.2)), ((k.2.2.1.1, k.2.2.1.2), k.2.2.2))) : Ky) T row ∧ fx (kS A κ) M M' := by
  obtain ⟨M1, p1, r1, f1⟩ := v_push (d := d) z.da v
  rw [bt_app_in (by simp; omega)] at r1
  exact ⟨M1, p1, z.mk_d r1 f1 (mj_V_gr p1)⟩
theorem kz_dfour (z : kz A κ M k T row) (v : Int32) (hl : k.1.1.2.1.length + 4 ≤ 17) : ∃ M', mj_V (d + 1) 10 [.ref (κ + 18), .long v.toInt64, .int 4] M = some (none, M') ∧ kz A κ M' (((((k.1.1.1.1, k.1.1.1.2), (k.1.1.2.1 ++ b4 v, k.1.1.2.2)), ((k.1.2.1.1, k.1.2.1.2), (k.1.2.2.1, k.1.2.2.2))), (((k.2.1.1.1, k.2.1.1.2), (k.2.1.2.1, k.2.1.2.2)), ((k.2.2.1.1, k.2.2.1.2), k.2.2.2))) : Ky) T row ∧ fx (kS A κ) M M' := by
  obtain ⟨M1, p1, r1, f1⟩ := v_pushLow (d := d) (w := v.toInt64) (m := 4) (by omega) z.da
  rw [b4_low, bt_app_in (by rw [b4_len]; omega)] at r1
  exact ⟨M1, p1, z.mk_d r1 f1 (mj_V_gr p1)⟩
end KZ
end
/- 81.key1 -/
section
set_option maxRecDepth 512
/-! Class: Key: power, presses, DATA, signatures. -/
/- 65 PasskeyHouse$Key.renew()V -/
theorem s65_0 {d : Nat} {ls : mj_L} {st : List Value} {M : mj_H} : mj_Rn d mj_m65 0 ls st M = mq_k0 d mj_m65 1 ls M (mj_lda (mj_lk ls 0) st) := mj_R0 (r := (.aload_n 0, 1, 0, 0, 0)) rfl rfl
theorem s65_1 {d : Nat} {ls : mj_L} {st : List Value} {M : mj_H} : mj_Rn d mj_m65 1 ls st M = mq_k0 d mj_m65 2 ls M (mj_lda (mj_lk ls 0) st) := mj_R0 (r := (.aload_n 0, 1, 0, 0, 0)) rfl rfl
theorem s65_2 {d : Nat} {ls : mj_L} {st : List Value} {M : mj_H} : mj_Rn d mj_m65 2 ls st M = mq_k0 d mj_m65 5 ls M (mq_gf 5 0 st M) := (mj_R3 (r := (.getfield 9, 3, 5, 0, 16596)) rfl rfl).trans (congrArg (mq_k0 d mj_m65 5 ls M) mq_gf_eq)
theorem s65_5 {d : Nat} {ls : mj_L} {st : List Value} {M : mj_H} : mj_Rn (d + 1) mj_m65 5 ls st M = mq_k5a (d + 1) mj_m65 8 ls M 66 (mq_cb 0 0 9 st M) := mj_R5e (r := (.invokevirtual 65, 3, 0, 66, 12385)) (z := mj_m66) rfl rfl (by decide) (by decide) rfl
theorem s65_8 {d : Nat} {ls : mj_L} {st : List Value} {M : mj_H} : mj_Rn d mj_m65 8 ls st M = mq_k4 d mj_m65 11 ls (mq_pf 5 8 0 st M) := (mj_R4 (r := (.putfield 68, 3, 5, 8, 16616)) rfl rfl).trans (congrArg (mq_k4 d mj_m65 11 ls) (mq_pf_eq rfl rfl))
theorem s65_11 {d : Nat} {ls : mj_L} {st : List Value} {M : mj_H} : mj_Rn d mj_m65 11 ls st M = mq_k0 d mj_m65 12 ls M (mj_lda (mj_lk ls 0) st) := mj_R0 (r := (.aload_n 0, 1, 0, 0, 0)) rfl rfl
theorem s65_12 {d : Nat} {ls : mj_L} {st : List Value} {M : mj_H} : mj_Rn d mj_m65 12 ls st M = mq_k0 d mj_m65 13 ls M (mj_lda (mj_lk ls 0) st) := mj_R0 (r := (.aload_n 0, 1, 0, 0, 0)) rfl rfl
theorem s65_13 {d : Nat} {ls : mj_L} {st : List Value} {M : mj_H} : mj_Rn d mj_m65 13 ls st M = mq_k0 d mj_m65 16 ls M (mq_gf 5 0 st M) := (mj_R3 (r := (.getfield 9, 3, 5, 0, 16596)) rfl rfl).trans (congrArg (mq_k0 d mj_m65 16 ls M) mq_gf_eq)
theorem s65_16 {d : Nat} {ls : mj_L} {st : List Value} {M : mj_H} : mj_Rn (d + 1) mj_m65 16 ls st M = mq_k5a (d + 1) mj_m65 19 ls M 66 (mq_cb 0 0 9 st M) := mj_R5e (r := (.invokevirtual 65, 3, 0, 66, 12385)) (z := mj_m66) rfl rfl (by decide) (by decide) rfl
theorem s65_19 {d : Nat} {ls : mj_L} {st : List Value} {M : mj_H} : mj_Rn d mj_m65 19 ls st M = mq_k4 d mj_m65 22 ls (mq_pf 5 9 0 st M) := (mj_R4 (r := (.putfield 71, 3, 5, 9, 16618)) rfl rfl).trans (congrArg (mq_k4 d mj_m65 22 ls) (mq_pf_eq rfl rfl))
theorem s65_22 {d : Nat} {ls : mj_L} {st : List Value} {M : mj_H} : mj_Rn d mj_m65 22 ls st M = mq_k0 d mj_m65 23 ls M (mj_lda (mj_lk ls 0) st) := mj_R0 (r := (.aload_n 0, 1, 0, 0, 0)) rfl rfl
theorem s65_23 {d : Nat} {ls : mj_L} {st : List Value} {M : mj_H} : mj_Rn d mj_m65 23 ls st M = mj_Rn d mj_m65 24 ls (.int 0 :: st) M := mj_R0 (r := (.iconst 0, 1, 0, 0, 0)) rfl rfl
theorem s65_24 {d : Nat} {ls : mj_L} {st : List Value} {M : mj_H} : mj_Rn d mj_m65 24 ls st M = mq_k4 d mj_m65 27 ls (mq_pf 5 10 0 st M) := (mj_R4 (r := (.putfield 74, 3, 5, 10, 16620)) rfl rfl).trans (congrArg (mq_k4 d mj_m65 27 ls) (mq_pf_eq rfl rfl))
theorem s65_27 {d : Nat} {ls : mj_L} {st : List Value} {M : mj_H} : mj_Rn d mj_m65 27 ls st M = mq_k6 M (mj_re none (.return_) st) := mj_R6 (r := (.return_, 1, 0, 0, 0)) rfl rfl
/- 46 PasskeyHouse$Key.wake()V -/
theorem s46_0 {d : Nat} {ls : mj_L} {st : List Value} {M : mj_H} : mj_Rn d mj_m46 0 ls st M = mq_k0 d mj_m46 1 ls M (mj_lda (mj_lk ls 0) st) := mj_R0 (r := (.aload_n 0, 1, 0, 0, 0)) rfl rfl
theorem s46_1 {d : Nat} {ls : mj_L} {st : List Value} {M : mj_H} : mj_Rn d mj_m46 1 ls st M = mq_k0 d mj_m46 4 ls M (mq_gf 5 2 st M) := (mj_R3 (r := (.getfield 22, 3, 5, 2, 16600)) rfl rfl).trans (congrArg (mq_k0 d mj_m46 4 ls M) mq_gf_eq)
theorem s46_4 {d : Nat} {ls : mj_L} {st : List Value} {M : mj_H} : mj_Rn (d + 1) mj_m46 4 ls st M = mq_k5a (d + 1) mj_m46 7 ls M 47 (mq_cb 0 0 8 st M) := mj_R5e (r := (.invokevirtual 54, 3, 0, 47, 12303)) (z := mj_m47) rfl rfl (by decide) (by decide) rfl
theorem s46_7 {d : Nat} {ls : mj_L} {st : List Value} {M : mj_H} : mj_Rn d mj_m46 7 ls st M = mq_k0 d mj_m46 8 ls M (mj_lda (mj_lk ls 0) st) := mj_R0 (r := (.aload_n 0, 1, 0, 0, 0)) rfl rfl
theorem s46_8 {d : Nat} {ls : mj_L} {st : List Value} {M : mj_H} : mj_Rn d mj_m46 8 ls st M = mq_k0 d mj_m46 11 ls M (mq_gf 5 2 st M) := (mj_R3 (r := (.getfield 22, 3, 5, 2, 16600)) rfl rfl).trans (congrArg (mq_k0 d mj_m46 11 ls M) mq_gf_eq)
theorem s46_11 {d : Nat} {ls : mj_L} {st : List Value} {M : mj_H} : mj_Rn d mj_m46 11 ls st M = mq_k0 d mj_m46 14 ls M (mq_gf 8 4 st M) := (mj_R3 (r := (.getfield 50, 3, 8, 4, 16495)) rfl rfl).trans (congrArg (mq_k0 d mj_m46 14 ls M) mq_gf_eq)
theorem s46_14 {d : Nat} {ls : mj_L} {st : List Value} {M : mj_H} : mj_Rn d mj_m46 14 ls st M = mq_k2 d mj_m46 ls M (mj_br (.ifCond .eq 17) 14 st) := mj_R2 (r := (.ifCond .eq 17, 3, 0, 0, 0)) rfl rfl
theorem s46_17 {d : Nat} {ls : mj_L} {st : List Value} {M : mj_H} : mj_Rn d mj_m46 17 ls st M = mq_k0 d mj_m46 18 ls M (mj_lda (mj_lk ls 0) st) := mj_R0 (r := (.aload_n 0, 1, 0, 0, 0)) rfl rfl
theorem s46_18 {d : Nat} {ls : mj_L} {st : List Value} {M : mj_H} : mj_Rn (d + 1) mj_m46 18 ls st M = mq_k5a (d + 1) mj_m46 21 ls M 65 (mq_cb 0 0 5 st M) := mj_R5e (r := (.invokevirtual 55, 3, 0, 65, 12381)) (z := mj_m65) rfl rfl (by decide) (by decide) rfl
theorem s46_21 {d : Nat} {ls : mj_L} {st : List Value} {M : mj_H} : mj_Rn d mj_m46 21 ls st M = mq_k0 d mj_m46 22 ls M (mj_lda (mj_lk ls 0) st) := mj_R0 (r := (.aload_n 0, 1, 0, 0, 0)) rfl rfl
theorem s46_22 {d : Nat} {ls : mj_L} {st : List Value} {M : mj_H} : mj_Rn d mj_m46 22 ls st M = mj_Rn d mj_m46 23 ls (.int 0 :: st) M := mj_R0 (r := (.iconst 0, 1, 0, 0, 0)) rfl rfl
theorem s46_23 {d : Nat} {ls : mj_L} {st : List Value} {M : mj_H} : mj_Rn d mj_m46 23 ls st M = mq_k4 d mj_m46 26 ls (mq_pf 5 12 0 st M) := (mj_R4 (r := (.putfield 58, 3, 5, 12, 16624)) rfl rfl).trans (congrArg (mq_k4 d mj_m46 26 ls) (mq_pf_eq rfl rfl))
theorem s46_26 {d : Nat} {ls : mj_L} {st : List Value} {M : mj_H} : mj_Rn d mj_m46 26 ls st M = mq_k0 d mj_m46 27 ls M (mj_lda (mj_lk ls 0) st) := mj_R0 (r := (.aload_n 0, 1, 0, 0, 0)) rfl rfl
theorem s46_27 {d : Nat} {ls : mj_L} {st : List Value} {M : mj_H} : mj_Rn d mj_m46 27 ls st M = mj_Rn d mj_m46 28 ls (.int 0 :: st) M := mj_R0 (r := (.iconst 0, 1, 0, 0, 0)) rfl rfl
theorem s46_28 {d : Nat} {ls : mj_L} {st : List Value} {M : mj_H} : mj_Rn d mj_m46 28 ls st M = mq_k4 d mj_m46 31 ls (mq_pf 5 11 3 st M) := (mj_R4 (r := (.putfield 62, 3, 5, 11, 16622)) rfl rfl).trans (congrArg (mq_k4 d mj_m46 31 ls) (mq_pf_eq rfl rfl))
theorem s46_31 {d : Nat} {ls : mj_L} {st : List Value} {M : mj_H} : mj_Rn d mj_m46 31 ls st M = mq_k6 M (mj_re none (.return_) st) := mj_R6 (r := (.return_, 1, 0, 0, 0)) rfl rfl
/- 69 PasskeyHouse$Key.switchTo(Z)V -/
theorem s69_0 {d : Nat} {ls : mj_L} {st : List Value} {M : mj_H} : mj_Rn d mj_m69 0 ls st M = mq_k0 d mj_m69 1 ls M (mj_ldi (mj_lk ls 1) st) := mj_R0 (r := (.iload_n 1, 1, 0, 0, 0)) rfl rfl
theorem s69_1 {d : Nat} {ls : mj_L} {st : List Value} {M : mj_H} : mj_Rn d mj_m69 1 ls st M = mq_k2 d mj_m69 ls M (mj_br (.ifCond .ne 14) 1 st) := mj_R2 (r := (.ifCond .ne 14, 3, 0, 0, 0)) rfl rfl
theorem s69_4 {d : Nat} {ls : mj_L} {st : List Value} {M : mj_H} : mj_Rn d mj_m69 4 ls st M = mq_k0 d mj_m69 5 ls M (mj_lda (mj_lk ls 0) st) := mj_R0 (r := (.aload_n 0, 1, 0, 0, 0)) rfl rfl
theorem s69_5 {d : Nat} {ls : mj_L} {st : List Value} {M : mj_H} : mj_Rn d mj_m69 5 ls st M = mq_k0 d mj_m69 8 ls M (mq_gf 5 2 st M) := (mj_R3 (r := (.getfield 22, 3, 5, 2, 16600)) rfl rfl).trans (congrArg (mq_k0 d mj_m69 8 ls M) mq_gf_eq)
theorem s69_8 {d : Nat} {ls : mj_L} {st : List Value} {M : mj_H} : mj_Rn d mj_m69 8 ls st M = mj_Rn d mj_m69 9 ls (.int 0 :: st) M := mj_R0 (r := (.iconst 0, 1, 0, 0, 0)) rfl rfl
theorem s69_9 {d : Nat} {ls : mj_L} {st : List Value} {M : mj_H} : mj_Rn d mj_m69 9 ls st M = mq_k4 d mj_m69 12 ls (mq_pf 8 4 3 st M) := (mj_R4 (r := (.putfield 50, 3, 8, 4, 16495)) rfl rfl).trans (congrArg (mq_k4 d mj_m69 12 ls) (mq_pf_eq rfl rfl))
theorem s69_12 {d : Nat} {ls : mj_L} {st : List Value} {M : mj_H} : mj_Rn d mj_m69 12 ls st M = mj_Rn d mj_m69 29 ls st M := mj_R2 (r := (.goto 17, 3, 0, 0, 0)) rfl rfl
theorem s69_15 {d : Nat} {ls : mj_L} {st : List Value} {M : mj_H} : mj_Rn d mj_m69 15 ls st M = mq_k0 d mj_m69 16 ls M (mj_lda (mj_lk ls 0) st) := mj_R0 (r := (.aload_n 0, 1, 0, 0, 0)) rfl rfl
theorem s69_16 {d : Nat} {ls : mj_L} {st : List Value} {M : mj_H} : mj_Rn d mj_m69 16 ls st M = mq_k0 d mj_m69 19 ls M (mq_gf 5 2 st M) := (mj_R3 (r := (.getfield 22, 3, 5, 2, 16600)) rfl rfl).trans (congrArg (mq_k0 d mj_m69 19 ls M) mq_gf_eq)
theorem s69_19 {d : Nat} {ls : mj_L} {st : List Value} {M : mj_H} : mj_Rn d mj_m69 19 ls st M = mq_k0 d mj_m69 22 ls M (mq_gf 8 4 st M) := (mj_R3 (r := (.getfield 50, 3, 8, 4, 16495)) rfl rfl).trans (congrArg (mq_k0 d mj_m69 22 ls M) mq_gf_eq)
theorem s69_22 {d : Nat} {ls : mj_L} {st : List Value} {M : mj_H} : mj_Rn d mj_m69 22 ls st M = mq_k2 d mj_m69 ls M (mj_br (.ifCond .ne 7) 22 st) := mj_R2 (r := (.ifCond .ne 7, 3, 0, 0, 0)) rfl rfl
theorem s69_25 {d : Nat} {ls : mj_L} {st : List Value} {M : mj_H} : mj_Rn d mj_m69 25 ls st M = mq_k0 d mj_m69 26 ls M (mj_lda (mj_lk ls 0) st) := mj_R0 (r := (.aload_n 0, 1, 0, 0, 0)) rfl rfl
theorem s69_26 {d : Nat} {ls : mj_L} {st : List Value} {M : mj_H} : mj_Rn (d + 1) mj_m69 26 ls st M = mq_k5a (d + 1) mj_m69 29 ls M 46 (mq_cb 0 0 5 st M) := mj_R5e (r := (.invokevirtual 47, 3, 0, 46, 12299)) (z := mj_m46) rfl rfl (by decide) (by decide) rfl
theorem s69_29 {d : Nat} {ls : mj_L} {st : List Value} {M : mj_H} : mj_Rn d mj_m69 29 ls st M = mq_k6 M (mj_re none (.return_) st) := mj_R6 (r := (.return_, 1, 0, 0, 0)) rfl rfl
/- 70 PasskeyHouse$Key.isOn()Z -/
theorem s70_0 {d : Nat} {ls : mj_L} {st : List Value} {M : mj_H} : mj_Rn d mj_m70 0 ls st M = mq_k0 d mj_m70 1 ls M (mj_lda (mj_lk ls 0) st) := mj_R0 (r := (.aload_n 0, 1, 0, 0, 0)) rfl rfl
theorem s70_1 {d : Nat} {ls : mj_L} {st : List Value} {M : mj_H} : mj_Rn d mj_m70 1 ls st M = mq_k0 d mj_m70 4 ls M (mq_gf 5 2 st M) := (mj_R3 (r := (.getfield 22, 3, 5, 2, 16600)) rfl rfl).trans (congrArg (mq_k0 d mj_m70 4 ls M) mq_gf_eq)
theorem s70_4 {d : Nat} {ls : mj_L} {st : List Value} {M : mj_H} : mj_Rn d mj_m70 4 ls st M = mq_k0 d mj_m70 7 ls M (mq_gf 8 4 st M) := (mj_R3 (r := (.getfield 50, 3, 8, 4, 16495)) rfl rfl).trans (congrArg (mq_k0 d mj_m70 7 ls M) mq_gf_eq)
theorem s70_7 {d : Nat} {ls : mj_L} {st : List Value} {M : mj_H} : mj_Rn d mj_m70 7 ls st M = mq_k6 M (mj_re (some .boolean) (.ireturn) st) := mj_R6 (r := (.ireturn, 1, 0, 0, 0)) rfl rfl
/- 72 PasskeyHouse$Key.addPress()I -/
theorem s72_0 {d : Nat} {ls : mj_L} {st : List Value} {M : mj_H} : mj_Rn d mj_m72 0 ls st M = mq_k0 d mj_m72 1 ls M (mj_lda (mj_lk ls 0) st) := mj_R0 (r := (.aload_n 0, 1, 0, 0, 0)) rfl rfl
theorem s72_1 {d : Nat} {ls : mj_L} {st : List Value} {M : mj_H} : mj_Rn d mj_m72 1 ls st M = mq_k0 d mj_m72 4 ls M (mq_gf 5 5 st M) := (mj_R3 (r := (.getfield 77, 3, 5, 5, 16610)) rfl rfl).trans (congrArg (mq_k0 d mj_m72 4 ls M) mq_gf_eq)
theorem s72_4 {d : Nat} {ls : mj_L} {st : List Value} {M : mj_H} : mj_Rn d mj_m72 4 ls st M = mj_Rn d mj_m72 6 ls (.int 9 :: st) M := mj_R0 (r := (.bipush 9, 2, 0, 0, 0)) rfl rfl
theorem s72_6 {d : Nat} {ls : mj_L} {st : List Value} {M : mj_H} : mj_Rn d mj_m72 6 ls st M = mq_k2 d mj_m72 ls M (mj_br (.if_icmp .lt 5) 6 st) := mj_R2 (r := (.if_icmp .lt 5, 3, 0, 0, 0)) rfl rfl
theorem s72_9 {d : Nat} {ls : mj_L} {st : List Value} {M : mj_H} : mj_Rn d mj_m72 9 ls st M = mj_Rn d mj_m72 10 ls (.int (-1) :: st) M := mj_R0 (r := (.iconst (-1), 1, 0, 0, 0)) rfl rfl
theorem s72_10 {d : Nat} {ls : mj_L} {st : List Value} {M : mj_H} : mj_Rn d mj_m72 10 ls st M = mq_k6 M (mj_re (some .int) (.ireturn) st) := mj_R6 (r := (.ireturn, 1, 0, 0, 0)) rfl rfl
theorem s72_11 {d : Nat} {ls : mj_L} {st : List Value} {M : mj_H} : mj_Rn d mj_m72 11 ls st M = mq_k0 d mj_m72 12 ls M (mj_lda (mj_lk ls 0) st) := mj_R0 (r := (.aload_n 0, 1, 0, 0, 0)) rfl rfl
theorem s72_12 {d : Nat} {ls : mj_L} {st : List Value} {M : mj_H} : mj_Rn d mj_m72 12 ls st M = mq_k0 d mj_m72 13 ls M (mj_pu .dup ls st) := mj_R0 (r := (.dup, 1, 0, 0, 0)) rfl rfl
theorem s72_13 {d : Nat} {ls : mj_L} {st : List Value} {M : mj_H} : mj_Rn d mj_m72 13 ls st M = mq_k0 d mj_m72 16 ls M (mq_gf 5 5 st M) := (mj_R3 (r := (.getfield 77, 3, 5, 5, 16610)) rfl rfl).trans (congrArg (mq_k0 d mj_m72 16 ls M) mq_gf_eq)
theorem s72_16 {d : Nat} {ls : mj_L} {st : List Value} {M : mj_H} : mj_Rn d mj_m72 16 ls st M = mj_Rn d mj_m72 17 ls (.int 1 :: st) M := mj_R0 (r := (.iconst 1, 1, 0, 0, 0)) rfl rfl
theorem s72_17 {d : Nat} {ls : mj_L} {st : List Value} {M : mj_H} : mj_Rn d mj_m72 17 ls st M = mq_k0 d mj_m72 18 ls M (mj_pu .iadd ls st) := mj_R0 (r := (.iadd, 1, 0, 0, 0)) rfl rfl
theorem s72_18 {d : Nat} {ls : mj_L} {st : List Value} {M : mj_H} : mj_Rn d mj_m72 18 ls st M = mq_k4 d mj_m72 21 ls (mq_pf 5 5 0 st M) := (mj_R4 (r := (.putfield 77, 3, 5, 5, 16610)) rfl rfl).trans (congrArg (mq_k4 d mj_m72 21 ls) (mq_pf_eq rfl rfl))
theorem s72_21 {d : Nat} {ls : mj_L} {st : List Value} {M : mj_H} : mj_Rn d mj_m72 21 ls st M = mq_k0 d mj_m72 22 ls M (mj_lda (mj_lk ls 0) st) := mj_R0 (r := (.aload_n 0, 1, 0, 0, 0)) rfl rfl
theorem s72_22 {d : Nat} {ls : mj_L} {st : List Value} {M : mj_H} : mj_Rn d mj_m72 22 ls st M = mq_k0 d mj_m72 25 ls M (mq_gf 5 5 st M) := (mj_R3 (r := (.getfield 77, 3, 5, 5, 16610)) rfl rfl).trans (congrArg (mq_k0 d mj_m72 25 ls M) mq_gf_eq)
theorem s72_25 {d : Nat} {ls : mj_L} {st : List Value} {M : mj_H} : mj_Rn d mj_m72 25 ls st M = mq_k6 M (mj_re (some .int) (.ireturn) st) := mj_R6 (r := (.ireturn, 1, 0, 0, 0)) rfl rfl
/- 74 PasskeyHouse$Key.failAfter(I)V -/
theorem s74_0 {d : Nat} {ls : mj_L} {st : List Value} {M : mj_H} : mj_Rn d mj_m74 0 ls st M = mq_k0 d mj_m74 1 ls M (mj_lda (mj_lk ls 0) st) := mj_R0 (r := (.aload_n 0, 1, 0, 0, 0)) rfl rfl
theorem s74_1 {d : Nat} {ls : mj_L} {st : List Value} {M : mj_H} : mj_Rn d mj_m74 1 ls st M = mq_k0 d mj_m74 4 ls M (mq_gf 5 2 st M) := (mj_R3 (r := (.getfield 22, 3, 5, 2, 16600)) rfl rfl).trans (congrArg (mq_k0 d mj_m74 4 ls M) mq_gf_eq)
theorem s74_4 {d : Nat} {ls : mj_L} {st : List Value} {M : mj_H} : mj_Rn d mj_m74 4 ls st M = mq_k0 d mj_m74 5 ls M (mj_ldi (mj_lk ls 1) st) := mj_R0 (r := (.iload_n 1, 1, 0, 0, 0)) rfl rfl
theorem s74_5 {d : Nat} {ls : mj_L} {st : List Value} {M : mj_H} : mj_Rn d mj_m74 5 ls st M = mq_k4 d mj_m74 8 ls (mq_pf 8 6 0 st M) := (mj_R4 (r := (.putfield 80, 3, 8, 6, 16503)) rfl rfl).trans (congrArg (mq_k4 d mj_m74 8 ls) (mq_pf_eq rfl rfl))
theorem s74_8 {d : Nat} {ls : mj_L} {st : List Value} {M : mj_H} : mj_Rn d mj_m74 8 ls st M = mq_k6 M (mj_re none (.return_) st) := mj_R6 (r := (.return_, 1, 0, 0, 0)) rfl rfl
/- 118 PasskeyHouse$Key.takePress()Z -/
theorem s118_0 {d : Nat} {ls : mj_L} {st : List Value} {M : mj_H} : mj_Rn d mj_m118 0 ls st M = mq_k0 d mj_m118 1 ls M (mj_lda (mj_lk ls 0) st) := mj_R0 (r := (.aload_n 0, 1, 0, 0, 0)) rfl rfl
theorem s118_1 {d : Nat} {ls : mj_L} {st : List Value} {M : mj_H} : mj_Rn d mj_m118 1 ls st M = mq_k0 d mj_m118 4 ls M (mq_gf 5 5 st M) := (mj_R3 (r := (.getfield 77, 3, 5, 5, 16610)) rfl rfl).trans (congrArg (mq_k0 d mj_m118 4 ls M) mq_gf_eq)
theorem s118_4 {d : Nat} {ls : mj_L} {st : List Value} {M : mj_H} : mj_Rn d mj_m118 4 ls st M = mq_k2 d mj_m118 ls M (mj_br (.ifCond .gt 5) 4 st) := mj_R2 (r := (.ifCond .gt 5, 3, 0, 0, 0)) rfl rfl
theorem s118_7 {d : Nat} {ls : mj_L} {st : List Value} {M : mj_H} : mj_Rn d mj_m118 7 ls st M = mj_Rn d mj_m118 8 ls (.int 0 :: st) M := mj_R0 (r := (.iconst 0, 1, 0, 0, 0)) rfl rfl
theorem s118_8 {d : Nat} {ls : mj_L} {st : List Value} {M : mj_H} : mj_Rn d mj_m118 8 ls st M = mq_k6 M (mj_re (some .boolean) (.ireturn) st) := mj_R6 (r := (.ireturn, 1, 0, 0, 0)) rfl rfl
theorem s118_9 {d : Nat} {ls : mj_L} {st : List Value} {M : mj_H} : mj_Rn d mj_m118 9 ls st M = mq_k0 d mj_m118 10 ls M (mj_lda (mj_lk ls 0) st) := mj_R0 (r := (.aload_n 0, 1, 0, 0, 0)) rfl rfl
theorem s118_10 {d : Nat} {ls : mj_L} {st : List Value} {M : mj_H} : mj_Rn d mj_m118 10 ls st M = mq_k0 d mj_m118 11 ls M (mj_pu .dup ls st) := mj_R0 (r := (.dup, 1, 0, 0, 0)) rfl rfl
theorem s118_11 {d : Nat} {ls : mj_L} {st : List Value} {M : mj_H} : mj_Rn d mj_m118 11 ls st M = mq_k0 d mj_m118 14 ls M (mq_gf 5 5 st M) := (mj_R3 (r := (.getfield 77, 3, 5, 5, 16610)) rfl rfl).trans (congrArg (mq_k0 d mj_m118 14 ls M) mq_gf_eq)
theorem s118_14 {d : Nat} {ls : mj_L} {st : List Value} {M : mj_H} : mj_Rn d mj_m118 14 ls st M = mj_Rn d mj_m118 15 ls (.int 1 :: st) M := mj_R0 (r := (.iconst 1, 1, 0, 0, 0)) rfl rfl
theorem s118_15 {d : Nat} {ls : mj_L} {st : List Value} {M : mj_H} : mj_Rn d mj_m118 15 ls st M = mq_k0 d mj_m118 16 ls M (mj_pu .isub ls st) := mj_R0 (r := (.isub, 1, 0, 0, 0)) rfl rfl
theorem s118_16 {d : Nat} {ls : mj_L} {st : List Value} {M : mj_H} : mj_Rn d mj_m118 16 ls st M = mq_k4 d mj_m118 19 ls (mq_pf 5 5 0 st M) := (mj_R4 (r := (.putfield 77, 3, 5, 5, 16610)) rfl rfl).trans (congrArg (mq_k4 d mj_m118 19 ls) (mq_pf_eq rfl rfl))
theorem s118_19 {d : Nat} {ls : mj_L} {st : List Value} {M : mj_H} : mj_Rn d mj_m118 19 ls st M = mq_k0 d mj_m118 20 ls M (mj_lda (mj_lk ls 0) st) := mj_R0 (r := (.aload_n 0, 1, 0, 0, 0)) rfl rfl
theorem s118_20 {d : Nat} {ls : mj_L} {st : List Value} {M : mj_H} : mj_Rn d mj_m118 20 ls st M = mq_k0 d mj_m118 21 ls M (mj_pu .dup ls st) := mj_R0 (r := (.dup, 1, 0, 0, 0)) rfl rfl
theorem s118_21 {d : Nat} {ls : mj_L} {st : List Value} {M : mj_H} : mj_Rn d mj_m118 21 ls st M = mq_k0 d mj_m118 24 ls M (mq_gf 5 6 st M) := (mj_R3 (r := (.getfield 86, 3, 5, 6, 16612)) rfl rfl).trans (congrArg (mq_k0 d mj_m118 24 ls M) mq_gf_eq)
theorem s118_24 {d : Nat} {ls : mj_L} {st : List Value} {M : mj_H} : mj_Rn d mj_m118 24 ls st M = mj_Rn d mj_m118 25 ls (.int 1 :: st) M := mj_R0 (r := (.iconst 1, 1, 0, 0, 0)) rfl rfl
theorem s118_25 {d : Nat} {ls : mj_L} {st : List Value} {M : mj_H} : mj_Rn d mj_m118 25 ls st M = mq_k0 d mj_m118 26 ls M (mj_pu .iadd ls st) := mj_R0 (r := (.iadd, 1, 0, 0, 0)) rfl rfl
theorem s118_26 {d : Nat} {ls : mj_L} {st : List Value} {M : mj_H} : mj_Rn d mj_m118 26 ls st M = mq_k4 d mj_m118 29 ls (mq_pf 5 6 0 st M) := (mj_R4 (r := (.putfield 86, 3, 5, 6, 16612)) rfl rfl).trans (congrArg (mq_k4 d mj_m118 29 ls) (mq_pf_eq rfl rfl))
theorem s118_29 {d : Nat} {ls : mj_L} {st : List Value} {M : mj_H} : mj_Rn d mj_m118 29 ls st M = mj_Rn d mj_m118 30 ls (.int 1 :: st) M := mj_R0 (r := (.iconst 1, 1, 0, 0, 0)) rfl rfl
theorem s118_30 {d : Nat} {ls : mj_L} {st : List Value} {M : mj_H} : mj_Rn d mj_m118 30 ls st M = mq_k6 M (mj_re (some .boolean) (.ireturn) st) := mj_R6 (r := (.ireturn, 1, 0, 0, 0)) rfl rfl
/- 129 PasskeyHouse$Key.beginData(III)V -/
theorem s129_0 {d : Nat} {ls : mj_L} {st : List Value} {M : mj_H} : mj_Rn d mj_m129 0 ls st M = mq_k0 d mj_m129 1 ls M (mj_lda (mj_lk ls 0) st) := mj_R0 (r := (.aload_n 0, 1, 0, 0, 0)) rfl rfl
theorem s129_1 {d : Nat} {ls : mj_L} {st : List Value} {M : mj_H} : mj_Rn d mj_m129 1 ls st M = mq_k0 d mj_m129 4 ls M (mq_gf 5 4 st M) := (mj_R3 (r := (.getfield 35, 3, 5, 4, 16608)) rfl rfl).trans (congrArg (mq_k0 d mj_m129 4 ls M) mq_gf_eq)
theorem s129_4 {d : Nat} {ls : mj_L} {st : List Value} {M : mj_H} : mj_Rn (d + 1) mj_m129 4 ls st M = mq_k5a (d + 1) mj_m129 7 ls M 12 (mq_cb 0 0 1 st M) := mj_R5e (r := (.invokevirtual 92, 3, 0, 12, 12439)) (z := mj_m12) rfl rfl (by decide) (by decide) rfl
theorem s129_7 {d : Nat} {ls : mj_L} {st : List Value} {M : mj_H} : mj_Rn d mj_m129 7 ls st M = mq_k0 d mj_m129 8 ls M (mj_lda (mj_lk ls 0) st) := mj_R0 (r := (.aload_n 0, 1, 0, 0, 0)) rfl rfl
theorem s129_8 {d : Nat} {ls : mj_L} {st : List Value} {M : mj_H} : mj_Rn d mj_m129 8 ls st M = mq_k0 d mj_m129 11 ls M (mq_gf 5 4 st M) := (mj_R3 (r := (.getfield 35, 3, 5, 4, 16608)) rfl rfl).trans (congrArg (mq_k0 d mj_m129 11 ls M) mq_gf_eq)
theorem s129_11 {d : Nat} {ls : mj_L} {st : List Value} {M : mj_H} : mj_Rn d mj_m129 11 ls st M = mq_k0 d mj_m129 12 ls M (mj_ldi (mj_lk ls 1) st) := mj_R0 (r := (.iload_n 1, 1, 0, 0, 0)) rfl rfl
theorem s129_12 {d : Nat} {ls : mj_L} {st : List Value} {M : mj_H} : mj_Rn d mj_m129 12 ls st M = mq_k0 d mj_m129 13 ls M (mj_pu .i2l ls st) := mj_R0 (r := (.i2l, 1, 0, 0, 0)) rfl rfl
theorem s129_13 {d : Nat} {ls : mj_L} {st : List Value} {M : mj_H} : mj_Rn d mj_m129 13 ls st M = mj_Rn d mj_m129 14 ls (.int 4 :: st) M := mj_R0 (r := (.iconst 4, 1, 0, 0, 0)) rfl rfl
theorem s129_14 {d : Nat} {ls : mj_L} {st : List Value} {M : mj_H} : mj_Rn (d + 1) mj_m129 14 ls st M = mq_k5a (d + 1) mj_m129 17 ls M 10 (mq_cb 0 2 1 st M) := mj_R5e (r := (.invokevirtual 302, 3, 0, 10, 16535)) (z := mj_m10) rfl rfl (by decide) (by decide) rfl
theorem s129_17 {d : Nat} {ls : mj_L} {st : List Value} {M : mj_H} : mj_Rn d mj_m129 17 ls st M = mq_k0 d mj_m129 18 ls M (mj_lda (mj_lk ls 0) st) := mj_R0 (r := (.aload_n 0, 1, 0, 0, 0)) rfl rfl
theorem s129_18 {d : Nat} {ls : mj_L} {st : List Value} {M : mj_H} : mj_Rn d mj_m129 18 ls st M = mq_k0 d mj_m129 21 ls M (mq_gf 5 4 st M) := (mj_R3 (r := (.getfield 35, 3, 5, 4, 16608)) rfl rfl).trans (congrArg (mq_k0 d mj_m129 21 ls M) mq_gf_eq)
theorem s129_21 {d : Nat} {ls : mj_L} {st : List Value} {M : mj_H} : mj_Rn d mj_m129 21 ls st M = mq_k0 d mj_m129 22 ls M (mj_ldi (mj_lk ls 2) st) := mj_R0 (r := (.iload_n 2, 1, 0, 0, 0)) rfl rfl
theorem s129_22 {d : Nat} {ls : mj_L} {st : List Value} {M : mj_H} : mj_Rn (d + 1) mj_m129 22 ls st M = mq_k5a (d + 1) mj_m129 25 ls M 45 (mq_cb 0 1 1 st M) := mj_R5e (r := (.invokevirtual 102, 3, 0, 45, 12442)) (z := mj_m45) rfl rfl (by decide) (by decide) rfl
theorem s129_25 {d : Nat} {ls : mj_L} {st : List Value} {M : mj_H} : mj_Rn d mj_m129 25 ls st M = mq_k0 d mj_m129 26 ls M (mj_lda (mj_lk ls 0) st) := mj_R0 (r := (.aload_n 0, 1, 0, 0, 0)) rfl rfl
theorem s129_26 {d : Nat} {ls : mj_L} {st : List Value} {M : mj_H} : mj_Rn d mj_m129 26 ls st M = mq_k0 d mj_m129 29 ls M (mq_gf 5 4 st M) := (mj_R3 (r := (.getfield 35, 3, 5, 4, 16608)) rfl rfl).trans (congrArg (mq_k0 d mj_m129 29 ls M) mq_gf_eq)
theorem s129_29 {d : Nat} {ls : mj_L} {st : List Value} {M : mj_H} : mj_Rn d mj_m129 29 ls st M = mq_k0 d mj_m129 30 ls M (mj_ldi (mj_lk ls 3) st) := mj_R0 (r := (.iload_n 3, 1, 0, 0, 0)) rfl rfl
theorem s129_30 {d : Nat} {ls : mj_L} {st : List Value} {M : mj_H} : mj_Rn d mj_m129 30 ls st M = mq_k0 d mj_m129 31 ls M (mj_pu .i2l ls st) := mj_R0 (r := (.i2l, 1, 0, 0, 0)) rfl rfl
theorem s129_31 {d : Nat} {ls : mj_L} {st : List Value} {M : mj_H} : mj_Rn d mj_m129 31 ls st M = mj_Rn d mj_m129 32 ls (.int 4 :: st) M := mj_R0 (r := (.iconst 4, 1, 0, 0, 0)) rfl rfl
theorem s129_32 {d : Nat} {ls : mj_L} {st : List Value} {M : mj_H} : mj_Rn (d + 1) mj_m129 32 ls st M = mq_k5a (d + 1) mj_m129 35 ls M 10 (mq_cb 0 2 1 st M) := mj_R5e (r := (.invokevirtual 302, 3, 0, 10, 16535)) (z := mj_m10) rfl rfl (by decide) (by decide) rfl
theorem s129_35 {d : Nat} {ls : mj_L} {st : List Value} {M : mj_H} : mj_Rn d mj_m129 35 ls st M = mq_k6 M (mj_re none (.return_) st) := mj_R6 (r := (.return_, 1, 0, 0, 0)) rfl rfl
/- 133 PasskeyHouse$Key.signature(II)I -/
theorem s133_0 {d : Nat} {ls : mj_L} {st : List Value} {M : mj_H} : mj_Rn d mj_m133 0 ls st M = mq_k0 d mj_m133 1 ls M (mj_lda (mj_lk ls 0) st) := mj_R0 (r := (.aload_n 0, 1, 0, 0, 0)) rfl rfl
theorem s133_1 {d : Nat} {ls : mj_L} {st : List Value} {M : mj_H} : mj_Rn d mj_m133 1 ls st M = mq_k0 d mj_m133 4 ls M (mq_gf 5 0 st M) := (mj_R3 (r := (.getfield 9, 3, 5, 0, 16596)) rfl rfl).trans (congrArg (mq_k0 d mj_m133 4 ls M) mq_gf_eq)
theorem s133_4 {d : Nat} {ls : mj_L} {st : List Value} {M : mj_H} : mj_Rn d mj_m133 4 ls st M = mj_Rn d mj_m133 6 ls (.int 6 :: st) M := mj_R0 (r := (.bipush 6, 2, 0, 0, 0)) rfl rfl
theorem s133_6 {d : Nat} {ls : mj_L} {st : List Value} {M : mj_H} : mj_Rn (d + 1) mj_m133 6 ls st M = mq_k5a (d + 1) mj_m133 9 ls M 28 (mq_cb 0 1 9 st M) := mj_R5e (r := (.invokevirtual 145, 3, 0, 28, 16456)) (z := mj_m28) rfl rfl (by decide) (by decide) rfl
theorem s133_9 {d : Nat} {ls : mj_L} {st : List Value} {M : mj_H} : mj_Rn d mj_m133 9 ls st M = mq_k0 d mj_m133 10 ls M (mj_lda (mj_lk ls 0) st) := mj_R0 (r := (.aload_n 0, 1, 0, 0, 0)) rfl rfl
theorem s133_10 {d : Nat} {ls : mj_L} {st : List Value} {M : mj_H} : mj_Rn d mj_m133 10 ls st M = mq_k0 d mj_m133 13 ls M (mq_gf 5 0 st M) := (mj_R3 (r := (.getfield 9, 3, 5, 0, 16596)) rfl rfl).trans (congrArg (mq_k0 d mj_m133 13 ls M) mq_gf_eq)
theorem s133_13 {d : Nat} {ls : mj_L} {st : List Value} {M : mj_H} : mj_Rn d mj_m133 13 ls st M = mq_k0 d mj_m133 14 ls M (mj_ldi (mj_lk ls 1) st) := mj_R0 (r := (.iload_n 1, 1, 0, 0, 0)) rfl rfl
theorem s133_14 {d : Nat} {ls : mj_L} {st : List Value} {M : mj_H} : mj_Rn (d + 1) mj_m133 14 ls st M = mq_k5a (d + 1) mj_m133 17 ls M 29 (mq_cb 0 1 9 st M) := mj_R5e (r := (.invokevirtual 197, 3, 0, 29, 16500)) (z := mj_m29) rfl rfl (by decide) (by decide) rfl
theorem s133_17 {d : Nat} {ls : mj_L} {st : List Value} {M : mj_H} : mj_Rn d mj_m133 17 ls st M = mq_k0 d mj_m133 18 ls M (mj_lda (mj_lk ls 0) st) := mj_R0 (r := (.aload_n 0, 1, 0, 0, 0)) rfl rfl
theorem s133_18 {d : Nat} {ls : mj_L} {st : List Value} {M : mj_H} : mj_Rn d mj_m133 18 ls st M = mq_k0 d mj_m133 21 ls M (mq_gf 5 0 st M) := (mj_R3 (r := (.getfield 9, 3, 5, 0, 16596)) rfl rfl).trans (congrArg (mq_k0 d mj_m133 21 ls M) mq_gf_eq)
theorem s133_21 {d : Nat} {ls : mj_L} {st : List Value} {M : mj_H} : mj_Rn d mj_m133 21 ls st M = mq_k0 d mj_m133 22 ls M (mj_lda (mj_lk ls 0) st) := mj_R0 (r := (.aload_n 0, 1, 0, 0, 0)) rfl rfl
theorem s133_22 {d : Nat} {ls : mj_L} {st : List Value} {M : mj_H} : mj_Rn d mj_m133 22 ls st M = mq_k0 d mj_m133 25 ls M (mq_gf 5 4 st M) := (mj_R3 (r := (.getfield 35, 3, 5, 4, 16608)) rfl rfl).trans (congrArg (mq_k0 d mj_m133 25 ls M) mq_gf_eq)
theorem s133_25 {d : Nat} {ls : mj_L} {st : List Value} {M : mj_H} : mj_Rn d mj_m133 25 ls st M = mj_Rn d mj_m133 26 ls (.int 0 :: st) M := mj_R0 (r := (.iconst 0, 1, 0, 0, 0)) rfl rfl
theorem s133_26 {d : Nat} {ls : mj_L} {st : List Value} {M : mj_H} : mj_Rn d mj_m133 26 ls st M = mq_k0 d mj_m133 27 ls M (mj_lda (mj_lk ls 0) st) := mj_R0 (r := (.aload_n 0, 1, 0, 0, 0)) rfl rfl
theorem s133_27 {d : Nat} {ls : mj_L} {st : List Value} {M : mj_H} : mj_Rn d mj_m133 27 ls st M = mq_k0 d mj_m133 30 ls M (mq_gf 5 4 st M) := (mj_R3 (r := (.getfield 35, 3, 5, 4, 16608)) rfl rfl).trans (congrArg (mq_k0 d mj_m133 30 ls M) mq_gf_eq)
theorem s133_30 {d : Nat} {ls : mj_L} {st : List Value} {M : mj_H} : mj_Rn (d + 1) mj_m133 30 ls st M = mq_k5a (d + 1) mj_m133 33 ls M 9 (mq_cb 0 0 1 st M) := mj_R5e (r := (.invokevirtual 99, 3, 0, 9, 12441)) (z := mj_m9) rfl rfl (by decide) (by decide) rfl
theorem s133_33 {d : Nat} {ls : mj_L} {st : List Value} {M : mj_H} : mj_Rn (d + 1) mj_m133 33 ls st M = mq_k5a (d + 1) mj_m133 36 ls M 113 (mq_cb 0 3 9 st M) := mj_R5e (r := (.invokevirtual 157, 3, 0, 113, 16459)) (z := mj_m113) rfl rfl (by decide) (by decide) rfl
theorem s133_36 {d : Nat} {ls : mj_L} {st : List Value} {M : mj_H} : mj_Rn d mj_m133 36 ls st M = mq_k0 d mj_m133 37 ls M (mj_lda (mj_lk ls 0) st) := mj_R0 (r := (.aload_n 0, 1, 0, 0, 0)) rfl rfl
theorem s133_37 {d : Nat} {ls : mj_L} {st : List Value} {M : mj_H} : mj_Rn d mj_m133 37 ls st M = mq_k0 d mj_m133 40 ls M (mq_gf 5 0 st M) := (mj_R3 (r := (.getfield 9, 3, 5, 0, 16596)) rfl rfl).trans (congrArg (mq_k0 d mj_m133 40 ls M) mq_gf_eq)
theorem s133_40 {d : Nat} {ls : mj_L} {st : List Value} {M : mj_H} : mj_Rn d mj_m133 40 ls st M = mq_k0 d mj_m133 41 ls M (mj_ldi (mj_lk ls 2) st) := mj_R0 (r := (.iload_n 2, 1, 0, 0, 0)) rfl rfl
theorem s133_41 {d : Nat} {ls : mj_L} {st : List Value} {M : mj_H} : mj_Rn (d + 1) mj_m133 41 ls st M = mq_k5a (d + 1) mj_m133 44 ls M 122 (mq_cb 0 1 9 st M) := mj_R5e (r := (.invokevirtual 200, 3, 0, 122, 16501)) (z := mj_m122) rfl rfl (by decide) (by decide) rfl
theorem s133_44 {d : Nat} {ls : mj_L} {st : List Value} {M : mj_H} : mj_Rn d mj_m133 44 ls st M = mq_k0 d mj_m133 45 ls M (mj_lda (mj_lk ls 0) st) := mj_R0 (r := (.aload_n 0, 1, 0, 0, 0)) rfl rfl
theorem s133_45 {d : Nat} {ls : mj_L} {st : List Value} {M : mj_H} : mj_Rn d mj_m133 45 ls st M = mq_k0 d mj_m133 48 ls M (mq_gf 5 0 st M) := (mj_R3 (r := (.getfield 9, 3, 5, 0, 16596)) rfl rfl).trans (congrArg (mq_k0 d mj_m133 48 ls M) mq_gf_eq)
theorem s133_48 {d : Nat} {ls : mj_L} {st : List Value} {M : mj_H} : mj_Rn (d + 1) mj_m133 48 ls st M = mq_k5a (d + 1) mj_m133 51 ls M 30 (mq_cb 0 0 9 st M) := mj_R5e (r := (.invokevirtual 283, 3, 0, 30, 16518)) (z := mj_m30) rfl rfl (by decide) (by decide) rfl
theorem s133_51 {d : Nat} {ls : mj_L} {st : List Value} {M : mj_H} : mj_Rn d mj_m133 51 ls st M = mq_k6 M (mj_re (some .int) (.ireturn) st) := mj_R6 (r := (.ireturn, 1, 0, 0, 0)) rfl rfl
/- 157 PasskeyHouse$Key.ended(I)I -/
theorem s157_0 {d : Nat} {ls : mj_L} {st : List Value} {M : mj_H} : mj_Rn d mj_m157 0 ls st M = mq_k0 d mj_m157 1 ls M (mj_lda (mj_lk ls 0) st) := mj_R0 (r := (.aload_n 0, 1, 0, 0, 0)) rfl rfl
theorem s157_1 {d : Nat} {ls : mj_L} {st : List Value} {M : mj_H} : mj_Rn d mj_m157 1 ls st M = mq_k0 d mj_m157 4 ls M (mq_gf 5 2 st M) := (mj_R3 (r := (.getfield 22, 3, 5, 2, 16600)) rfl rfl).trans (congrArg (mq_k0 d mj_m157 4 ls M) mq_gf_eq)
theorem s157_4 {d : Nat} {ls : mj_L} {st : List Value} {M : mj_H} : mj_Rn d mj_m157 4 ls st M = mq_k0 d mj_m157 7 ls M (mq_gf 8 4 st M) := (mj_R3 (r := (.getfield 50, 3, 8, 4, 16495)) rfl rfl).trans (congrArg (mq_k0 d mj_m157 7 ls M) mq_gf_eq)
theorem s157_7 {d : Nat} {ls : mj_L} {st : List Value} {M : mj_H} : mj_Rn d mj_m157 7 ls st M = mq_k2 d mj_m157 ls M (mj_br (.ifCond .ne 13) 7 st) := mj_R2 (r := (.ifCond .ne 13, 3, 0, 0, 0)) rfl rfl
theorem s157_10 {d : Nat} {ls : mj_L} {st : List Value} {M : mj_H} : mj_Rn d mj_m157 10 ls st M = mq_k0 d mj_m157 11 ls M (mj_lda (mj_lk ls 0) st) := mj_R0 (r := (.aload_n 0, 1, 0, 0, 0)) rfl rfl
theorem s157_11 {d : Nat} {ls : mj_L} {st : List Value} {M : mj_H} : mj_Rn d mj_m157 11 ls st M = mq_k0 d mj_m157 14 ls M (mq_gf 5 3 st M) := (mj_R3 (r := (.getfield 31, 3, 5, 3, 16604)) rfl rfl).trans (congrArg (mq_k0 d mj_m157 14 ls M) mq_gf_eq)
theorem s157_14 {d : Nat} {ls : mj_L} {st : List Value} {M : mj_H} : mj_Rn (d + 1) mj_m157 14 ls st M = mq_k5a (d + 1) mj_m157 17 ls M 12 (mq_cb 0 0 1 st M) := mj_R5e (r := (.invokevirtual 92, 3, 0, 12, 12439)) (z := mj_m12) rfl rfl (by decide) (by decide) rfl
theorem s157_17 {d : Nat} {ls : mj_L} {st : List Value} {M : mj_H} : mj_Rn d mj_m157 17 ls st M = mj_Rn d mj_m157 19 ls (.int (-3) :: st) M := mj_R0 (r := (.bipush (-3), 2, 0, 0, 0)) rfl rfl
theorem s157_19 {d : Nat} {ls : mj_L} {st : List Value} {M : mj_H} : mj_Rn d mj_m157 19 ls st M = mq_k6 M (mj_re (some .int) (.ireturn) st) := mj_R6 (r := (.ireturn, 1, 0, 0, 0)) rfl rfl
theorem s157_20 {d : Nat} {ls : mj_L} {st : List Value} {M : mj_H} : mj_Rn d mj_m157 20 ls st M = mq_k0 d mj_m157 21 ls M (mj_lda (mj_lk ls 0) st) := mj_R0 (r := (.aload_n 0, 1, 0, 0, 0)) rfl rfl
theorem s157_21 {d : Nat} {ls : mj_L} {st : List Value} {M : mj_H} : mj_Rn d mj_m157 21 ls st M = mq_k0 d mj_m157 22 ls M (mj_pu .dup ls st) := mj_R0 (r := (.dup, 1, 0, 0, 0)) rfl rfl
theorem s157_22 {d : Nat} {ls : mj_L} {st : List Value} {M : mj_H} : mj_Rn d mj_m157 22 ls st M = mq_k0 d mj_m157 25 ls M (mq_gf 5 7 st M) := (mj_R3 (r := (.getfield 89, 3, 5, 7, 16614)) rfl rfl).trans (congrArg (mq_k0 d mj_m157 25 ls M) mq_gf_eq)
theorem s157_25 {d : Nat} {ls : mj_L} {st : List Value} {M : mj_H} : mj_Rn d mj_m157 25 ls st M = mj_Rn d mj_m157 26 ls (.int 1 :: st) M := mj_R0 (r := (.iconst 1, 1, 0, 0, 0)) rfl rfl
theorem s157_26 {d : Nat} {ls : mj_L} {st : List Value} {M : mj_H} : mj_Rn d mj_m157 26 ls st M = mq_k0 d mj_m157 27 ls M (mj_pu .iadd ls st) := mj_R0 (r := (.iadd, 1, 0, 0, 0)) rfl rfl
theorem s157_27 {d : Nat} {ls : mj_L} {st : List Value} {M : mj_H} : mj_Rn d mj_m157 27 ls st M = mq_k4 d mj_m157 30 ls (mq_pf 5 7 0 st M) := (mj_R4 (r := (.putfield 89, 3, 5, 7, 16614)) rfl rfl).trans (congrArg (mq_k4 d mj_m157 30 ls) (mq_pf_eq rfl rfl))
theorem s157_30 {d : Nat} {ls : mj_L} {st : List Value} {M : mj_H} : mj_Rn d mj_m157 30 ls st M = mq_k0 d mj_m157 31 ls M (mj_ldi (mj_lk ls 1) st) := mj_R0 (r := (.iload_n 1, 1, 0, 0, 0)) rfl rfl
theorem s157_31 {d : Nat} {ls : mj_L} {st : List Value} {M : mj_H} : mj_Rn d mj_m157 31 ls st M = mq_k2 d mj_m157 ls M (mj_br (.ifCond .eq 18) 31 st) := mj_R2 (r := (.ifCond .eq 18, 3, 0, 0, 0)) rfl rfl
theorem s157_34 {d : Nat} {ls : mj_L} {st : List Value} {M : mj_H} : mj_Rn d mj_m157 34 ls st M = mq_k0 d mj_m157 35 ls M (mj_lda (mj_lk ls 0) st) := mj_R0 (r := (.aload_n 0, 1, 0, 0, 0)) rfl rfl
theorem s157_35 {d : Nat} {ls : mj_L} {st : List Value} {M : mj_H} : mj_Rn d mj_m157 35 ls st M = mq_k0 d mj_m157 38 ls M (mq_gf 5 3 st M) := (mj_R3 (r := (.getfield 31, 3, 5, 3, 16604)) rfl rfl).trans (congrArg (mq_k0 d mj_m157 38 ls M) mq_gf_eq)
theorem s157_38 {d : Nat} {ls : mj_L} {st : List Value} {M : mj_H} : mj_Rn (d + 1) mj_m157 38 ls st M = mq_k5a (d + 1) mj_m157 41 ls M 12 (mq_cb 0 0 1 st M) := mj_R5e (r := (.invokevirtual 92, 3, 0, 12, 12439)) (z := mj_m12) rfl rfl (by decide) (by decide) rfl
theorem s157_41 {d : Nat} {ls : mj_L} {st : List Value} {M : mj_H} : mj_Rn d mj_m157 41 ls st M = mq_k0 d mj_m157 42 ls M (mj_lda (mj_lk ls 0) st) := mj_R0 (r := (.aload_n 0, 1, 0, 0, 0)) rfl rfl
theorem s157_42 {d : Nat} {ls : mj_L} {st : List Value} {M : mj_H} : mj_Rn d mj_m157 42 ls st M = mq_k0 d mj_m157 45 ls M (mq_gf 5 3 st M) := (mj_R3 (r := (.getfield 31, 3, 5, 3, 16604)) rfl rfl).trans (congrArg (mq_k0 d mj_m157 45 ls M) mq_gf_eq)
theorem s157_45 {d : Nat} {ls : mj_L} {st : List Value} {M : mj_H} : mj_Rn d mj_m157 45 ls st M = mq_k0 d mj_m157 46 ls M (mj_ldi (mj_lk ls 1) st) := mj_R0 (r := (.iload_n 1, 1, 0, 0, 0)) rfl rfl
theorem s157_46 {d : Nat} {ls : mj_L} {st : List Value} {M : mj_H} : mj_Rn (d + 1) mj_m157 46 ls st M = mq_k5a (d + 1) mj_m157 49 ls M 45 (mq_cb 0 1 1 st M) := mj_R5e (r := (.invokevirtual 102, 3, 0, 45, 12442)) (z := mj_m45) rfl rfl (by decide) (by decide) rfl
theorem s157_49 {d : Nat} {ls : mj_L} {st : List Value} {M : mj_H} : mj_Rn d mj_m157 49 ls st M = mq_k0 d mj_m157 50 ls M (mj_ldi (mj_lk ls 1) st) := mj_R0 (r := (.iload_n 1, 1, 0, 0, 0)) rfl rfl
theorem s157_50 {d : Nat} {ls : mj_L} {st : List Value} {M : mj_H} : mj_Rn d mj_m157 50 ls st M = mq_k6 M (mj_re (some .int) (.ireturn) st) := mj_R6 (r := (.ireturn, 1, 0, 0, 0)) rfl rfl
/- 26 PasskeyHouse$Key.begin()V -/
theorem s26_0 {d : Nat} {ls : mj_L} {st : List Value} {M : mj_H} : mj_Rn d mj_m26 0 ls st M = mq_k0 d mj_m26 1 ls M (mj_lda (mj_lk ls 0) st) := mj_R0 (r := (.aload_n 0, 1, 0, 0, 0)) rfl rfl
theorem s26_1 {d : Nat} {ls : mj_L} {st : List Value} {M : mj_H} : mj_Rn d mj_m26 1 ls st M = mq_k0 d mj_m26 4 ls M (mq_gf 5 2 st M) := (mj_R3 (r := (.getfield 22, 3, 5, 2, 16600)) rfl rfl).trans (congrArg (mq_k0 d mj_m26 4 ls M) mq_gf_eq)
theorem s26_4 {d : Nat} {ls : mj_L} {st : List Value} {M : mj_H} : mj_Rn d mj_m26 4 ls st M = mq_k0 d mj_m26 5 ls M (mj_lda (mj_lk ls 0) st) := mj_R0 (r := (.aload_n 0, 1, 0, 0, 0)) rfl rfl
theorem s26_5 {d : Nat} {ls : mj_L} {st : List Value} {M : mj_H} : mj_Rn d mj_m26 5 ls st M = mq_k0 d mj_m26 8 ls M (mq_gf 5 0 st M) := (mj_R3 (r := (.getfield 9, 3, 5, 0, 16596)) rfl rfl).trans (congrArg (mq_k0 d mj_m26 8 ls M) mq_gf_eq)
theorem s26_8 {d : Nat} {ls : mj_L} {st : List Value} {M : mj_H} : mj_Rn (d + 1) mj_m26 8 ls st M = mq_k5a (d + 1) mj_m26 11 ls M 27 (mq_cb 0 0 9 st M) := mj_R5e (r := (.invokevirtual 38, 3, 0, 27, 8353)) (z := mj_m27) rfl rfl (by decide) (by decide) rfl
theorem s26_11 {d : Nat} {ls : mj_L} {st : List Value} {M : mj_H} : mj_Rn (d + 1) mj_m26 11 ls st M = mq_k5a (d + 1) mj_m26 14 ls M 38 (mq_cb 0 1 8 st M) := mj_R5e (r := (.invokevirtual 44, 3, 0, 38, 8406)) (z := mj_m38) rfl rfl (by decide) (by decide) rfl
theorem s26_14 {d : Nat} {ls : mj_L} {st : List Value} {M : mj_H} : mj_Rn d mj_m26 14 ls st M = mq_k0 d mj_m26 15 ls M (mj_lda (mj_lk ls 0) st) := mj_R0 (r := (.aload_n 0, 1, 0, 0, 0)) rfl rfl
theorem s26_15 {d : Nat} {ls : mj_L} {st : List Value} {M : mj_H} : mj_Rn (d + 1) mj_m26 15 ls st M = mq_k5a (d + 1) mj_m26 18 ls M 46 (mq_cb 0 0 5 st M) := mj_R5e (r := (.invokevirtual 47, 3, 0, 46, 12299)) (z := mj_m46) rfl rfl (by decide) (by decide) rfl
theorem s26_18 {d : Nat} {ls : mj_L} {st : List Value} {M : mj_H} : mj_Rn d mj_m26 18 ls st M = mq_k6 M (mj_re none (.return_) st) := mj_R6 (r := (.return_, 1, 0, 0, 0)) rfl rfl
theorem c65 {d : Nat} {a0 : Nat} {M : mj_H} : mj_V (d + 1) 65 [.ref a0] M = mj_Rn d mj_m65 0 [(0, .ref a0)] [] M := mj_V_go rfl (Nat.le_of_ble_eq_true rfl)
theorem c46 {d : Nat} {a0 : Nat} {M : mj_H} : mj_V (d + 1) 46 [.ref a0] M = mj_Rn d mj_m46 0 [(0, .ref a0)] [] M := mj_V_go rfl (Nat.le_of_ble_eq_true rfl)
theorem c69 {d : Nat} {a0 : Nat} {x1 : Int32} {M : mj_H} : mj_V (d + 1) 69 [.ref a0, .int x1] M = mj_Rn d mj_m69 0 [(0, .ref a0), (1, .int x1)] [] M := mj_V_go rfl (Nat.le_of_ble_eq_true rfl)
theorem c70 {d : Nat} {a0 : Nat} {M : mj_H} : mj_V (d + 1) 70 [.ref a0] M = mj_Rn d mj_m70 0 [(0, .ref a0)] [] M := mj_V_go rfl (Nat.le_of_ble_eq_true rfl)
theorem c72 {d : Nat} {a0 : Nat} {M : mj_H} : mj_V (d + 1) 72 [.ref a0] M = mj_Rn d mj_m72 0 [(0, .ref a0)] [] M := mj_V_go rfl (Nat.le_of_ble_eq_true rfl)
theorem c74 {d : Nat} {a0 : Nat} {x1 : Int32} {M : mj_H} : mj_V (d + 1) 74 [.ref a0, .int x1] M = mj_Rn d mj_m74 0 [(0, .ref a0), (1, .int x1)] [] M := mj_V_go rfl (Nat.le_of_ble_eq_true rfl)
theorem c118 {d : Nat} {a0 : Nat} {M : mj_H} : mj_V (d + 1) 118 [.ref a0] M = mj_Rn d mj_m118 0 [(0, .ref a0)] [] M := mj_V_go rfl (Nat.le_of_ble_eq_true rfl)
theorem c129 {d : Nat} {a0 : Nat} {x1 : Int32} {x2 : Int32} {x3 : Int32} {M : mj_H} : mj_V (d + 1) 129 [.ref a0, .int x1, .int x2, .int x3] M = mj_Rn d mj_m129 0 [(0, .ref a0), (1, .int x1), (2, .int x2), (3, .int x3)] [] M := mj_V_go rfl (Nat.le_of_ble_eq_true rfl)
theorem c133 {d : Nat} {a0 : Nat} {x1 : Int32} {x2 : Int32} {M : mj_H} : mj_V (d + 1) 133 [.ref a0, .int x1, .int x2] M = mj_Rn d mj_m133 0 [(0, .ref a0), (1, .int x1), (2, .int x2)] [] M := mj_V_go rfl (Nat.le_of_ble_eq_true rfl)
theorem c157 {d : Nat} {a0 : Nat} {x1 : Int32} {M : mj_H} : mj_V (d + 1) 157 [.ref a0, .int x1] M = mj_Rn d mj_m157 0 [(0, .ref a0), (1, .int x1)] [] M := mj_V_go rfl (Nat.le_of_ble_eq_true rfl)
theorem c26 {d : Nat} {a0 : Nat} {M : mj_H} : mj_V (d + 1) 26 [.ref a0] M = mj_Rn d mj_m26 0 [(0, .ref a0)] [] M := mj_V_go rfl (Nat.le_of_ble_eq_true rfl)
section KZ
variable {A : Nat → Prop} {κ : Nat} {M M' : mj_H} {k : Ky} {T T' : Tm} {row row' : List Int32} {d : Nat}
def ky_renew (k : Ky) (T : Tm) : Ky := (((((k.1.1.1.1, k.1.1.1.2), (k.1.1.2.1, k.1.1.2.2)), ((k.1.2.1.1, k.1.2.1.2), (k.1.2.2.1, T.2.2 + 1))), (((T.2.2 + 2, 0), (k.2.1.2.1, k.2.1.2.2)), ((k.2.2.1.1, k.2.2.1.2), k.2.2.2))) : Ky)
def tm_two (T : Tm) : Tm := ((T.1, (T.2.1, T.2.2 + 2)) : Tm)
theorem ky_ren (z : kz A κ M k T row) : ∃ M', mj_V (d + 2) 65 [.ref κ] M = some (none, M') ∧ kz A κ M' (ky_renew k T) (tm_two T) row ∧ fx (kS A κ) M M' := by
  obtain ⟨u0, x0⟩ := z.fa
  obtain ⟨M1, p1, z1, f1⟩ := kz_newSecret (d := d) z
  obtain ⟨u1, x1⟩ := z1.fa
  obtain ⟨z2, f2⟩ := z1.mk_o (((((k.1.1.1.1, k.1.1.1.2), (k.1.1.2.1, k.1.1.2.2)), ((k.1.2.1.1, k.1.2.1.2), (k.1.2.2.1, T.2.2 + 1))), (((k.2.1.1.1, k.2.1.1.2), (k.2.1.2.1, k.2.1.2.2)), ((k.2.2.1.1, k.2.2.1.2), k.2.2.2))) : Ky) rfl rfl rfl rfl
  obtain ⟨u2, x2⟩ := z2.fa
  obtain ⟨M3, p3, z3, f3⟩ := kz_newSecret (d := d) z2
  obtain ⟨u3, x3⟩ := z3.fa
  obtain ⟨z4, f4⟩ := z3.mk_o (ky_renew k T) rfl rfl rfl rfl
  refine ⟨_, ?_, z4, ((((f1).trs f2).trs f3).trs f4)⟩
  have hlo := z.lo
  have hh : ¬ κ < 25 := by omega
  have l1 := mq_lt z1.ob
  have l3 := mq_lt z3.ob
  unfold ko at x2 p3
  dsimp only at x2 p3
  simp (disch := (first | omega | decide)) [c65, s65_0, s65_1, s65_2, s65_5, s65_8, s65_11, s65_12, s65_13, s65_16, s65_19, s65_22, s65_23, s65_24, s65_27, mq_k0s, mq_k1s, mq_k2s, mq_k4s, mq_k5s, mq_k5n, mq_k5as, mq_k6s, mj_pu, mj_lo, mj_br, mj_hr, mj_hw, mq_gf, mq_len, mq_al, mq_pf, mq_ok, mj_re, mq_lkm, mq_lkn, mj_ldi, mj_ldl, mj_lda, mj_ii, mj_ll, mj_li, mj_i1, ms_1, ms_2, f1_n, f1_i, f1_r, f1_u, f1_l, f2_n, f2_i, f2_r, f2_u, f2_l, mj_tg, mj_c1, mj_c2, mj_ar, mj_aw, mq_cb, mq_oi, mj_rm, Value.category, -getElem?_pos, List.getElem?_cons_zero, decide_eq_true, decide_eq_false, nl_lt, nl_le, ln_lt, ln_le, nl_eq, ln_eq, nl_add, ln_add, nl_sub, ln_mul, nI_sub, nI_mul, nI_add, nI_lt_iff, nI_le_iff, nI_inj, nI_num, mq_ix, nI_1, nl_mul, nl_div, x0, p1, x1, x2, p3, x3, narrow, mj_E, hh, l1, l3, List.getElem?_set, ko, ky_renew]
  rfl
def ky_wake (k : Ky) (T : Tm) : Ky × Tm := if (fs_wake k.1.1.1.1).2.1 then (((((((ky_renew (((((fs_wake k.1.1.1.1, k.1.1.1.2), (k.1.1.2.1, k.1.1.2.2)), ((k.1.2.1.1, k.1.2.1.2), (k.1.2.2.1, k.1.2.2.2))), (((k.2.1.1.1, k.2.1.1.2), (k.2.1.2.1, k.2.1.2.2)), ((k.2.2.1.1, k.2.2.1.2), k.2.2.2))) : Ky) T).1.1.1.1, (ky_renew (((((fs_wake k.1.1.1.1, k.1.1.1.2), (k.1.1.2.1, k.1.1.2.2)), ((k.1.2.1.1, k.1.2.1.2), (k.1.2.2.1, k.1.2.2.2))), (((k.2.1.1.1, k.2.1.1.2), (k.2.1.2.1, k.2.1.2.2)), ((k.2.2.1.1, k.2.2.1.2), k.2.2.2))) : Ky) T).1.1.1.2), ((ky_renew (((((fs_wake k.1.1.1.1, k.1.1.1.2), (k.1.1.2.1, k.1.1.2.2)), ((k.1.2.1.1, k.1.2.1.2), (k.1.2.2.1, k.1.2.2.2))), (((k.2.1.1.1, k.2.1.1.2), (k.2.1.2.1, k.2.1.2.2)), ((k.2.2.1.1, k.2.2.1.2), k.2.2.2))) : Ky) T).1.1.2.1, (ky_renew (((((fs_wake k.1.1.1.1, k.1.1.1.2), (k.1.1.2.1, k.1.1.2.2)), ((k.1.2.1.1, k.1.2.1.2), (k.1.2.2.1, k.1.2.2.2))), (((k.2.1.1.1, k.2.1.1.2), (k.2.1.2.1, k.2.1.2.2)), ((k.2.2.1.1, k.2.2.1.2), k.2.2.2))) : Ky) T).1.1.2.2)), (((ky_renew (((((fs_wake k.1.1.1.1, k.1.1.1.2), (k.1.1.2.1, k.1.1.2.2)), ((k.1.2.1.1, k.1.2.1.2), (k.1.2.2.1, k.1.2.2.2))), (((k.2.1.1.1, k.2.1.1.2), (k.2.1.2.1, k.2.1.2.2)), ((k.2.2.1.1, k.2.2.1.2), k.2.2.2))) : Ky) T).1.2.1.1, (ky_renew (((((fs_wake k.1.1.1.1, k.1.1.1.2), (k.1.1.2.1, k.1.1.2.2)), ((k.1.2.1.1, k.1.2.1.2), (k.1.2.2.1, k.1.2.2.2))), (((k.2.1.1.1, k.2.1.1.2), (k.2.1.2.1, k.2.1.2.2)), ((k.2.2.1.1, k.2.2.1.2), k.2.2.2))) : Ky) T).1.2.1.2), ((ky_renew (((((fs_wake k.1.1.1.1, k.1.1.1.2), (k.1.1.2.1, k.1.1.2.2)), ((k.1.2.1.1, k.1.2.1.2), (k.1.2.2.1, k.1.2.2.2))), (((k.2.1.1.1, k.2.1.1.2), (k.2.1.2.1, k.2.1.2.2)), ((k.2.2.1.1, k.2.2.1.2), k.2.2.2))) : Ky) T).1.2.2.1, (ky_renew (((((fs_wake k.1.1.1.1, k.1.1.1.2), (k.1.1.2.1, k.1.1.2.2)), ((k.1.2.1.1, k.1.2.1.2), (k.1.2.2.1, k.1.2.2.2))), (((k.2.1.1.1, k.2.1.1.2), (k.2.1.2.1, k.2.1.2.2)), ((k.2.2.1.1, k.2.2.1.2), k.2.2.2))) : Ky) T).1.2.2.2))), ((((ky_renew (((((fs_wake k.1.1.1.1, k.1.1.1.2), (k.1.1.2.1, k.1.1.2.2)), ((k.1.2.1.1, k.1.2.1.2), (k.1.2.2.1, k.1.2.2.2))), (((k.2.1.1.1, k.2.1.1.2), (k.2.1.2.1, k.2.1.2.2)), ((k.2.2.1.1, k.2.2.1.2), k.2.2.2))) : Ky) T).2.1.1.1, (ky_renew (((((fs_wake k.1.1.1.1, k.1.1.1.2), (k.1.1.2.1, k.1.1.2.2)), ((k.1.2.1.1, k.1.2.1.2), (k.1.2.2.1, k.1.2.2.2))), (((k.2.1.1.1, k.2.1.1.2), (k.2.1.2.1, k.2.1.2.2)), ((k.2.2.1.1, k.2.2.1.2), k.2.2.2))) : Ky) T).2.1.1.2), (false, 0)), (((ky_renew (((((fs_wake k.1.1.1.1, k.1.1.1.2), (k.1.1.2.1, k.1.1.2.2)), ((k.1.2.1.1, k.1.2.1.2), (k.1.2.2.1, k.1.2.2.2))), (((k.2.1.1.1, k.2.1.1.2), (k.2.1.2.1, k.2.1.2.2)), ((k.2.2.1.1, k.2.2.1.2), k.2.2.2))) : Ky) T).2.2.1.1, (ky_renew (((((fs_wake k.1.1.1.1, k.1.1.1.2), (k.1.1.2.1, k.1.1.2.2)), ((k.1.2.1.1, k.1.2.1.2), (k.1.2.2.1, k.1.2.2.2))), (((k.2.1.1.1, k.2.1.1.2), (k.2.1.2.1, k.2.1.2.2)), ((k.2.2.1.1, k.2.2.1.2), k.2.2.2))) : Ky) T).2.2.1.2), (ky_renew (((((fs_wake k.1.1.1.1, k.1.1.1.2), (k.1.1.2.1, k.1.1.2.2)), ((k.1.2.1.1, k.1.2.1.2), (k.1.2.2.1, k.1.2.2.2))), (((k.2.1.1.1, k.2.1.1.2), (k.2.1.2.1, k.2.1.2.2)), ((k.2.2.1.1, k.2.2.1.2), k.2.2.2))) : Ky) T).2.2.2))) : Ky), tm_two T) else ((((((fs_wake k.1.1.1.1, k.1.1.1.2), (k.1.1.2.1, k.1.1.2.2)), ((k.1.2.1.1, k.1.2.1.2), (k.1.2.2.1, k.1.2.2.2))), (((k.2.1.1.1, k.2.1.1.2), (k.2.1.2.1, k.2.1.2.2)), ((k.2.2.1.1, k.2.2.1.2), k.2.2.2))) : Ky), T)
/-- the flash can be woken -/
def fsW (s : Fl) : Prop := (s.1.length = 512) ∧ ((fs_gg s.1 0).isSome ∨ (fs_gg s.1 1).isSome) ∧ ((fs_up s).2.2.2.2.2.2.2.2.2.2.2.length ≤ 8) ∧ (4 + (fs_up s).2.2.2.2.2.2.2.recs.length ≤ 256)
theorem fsW.l {s : Fl} (hh_ : fsW s) : s.1.length = 512 := hh_.1
theorem fsW.g {s : Fl} (hh_ : fsW s) : (fs_gg s.1 0).isSome ∨ (fs_gg s.1 1).isSome := hh_.2.1
theorem fsW.c {s : Fl} (hh_ : fsW s) : (fs_up s).2.2.2.2.2.2.2.2.2.2.2.length ≤ 8 := hh_.2.2.1
theorem fsW.r {s : Fl} (hh_ : fsW s) : 4 + (fs_up s).2.2.2.2.2.2.2.recs.length ≤ 256 := hh_.2.2.2
theorem fsW_mk_ {s : Fl} (f_0_ : s.1.length = 512) (f_1_ : (fs_gg s.1 0).isSome ∨ (fs_gg s.1 1).isSome) (f_2_ : (fs_up s).2.2.2.2.2.2.2.2.2.2.2.length ≤ 8) (f_3_ : 4 + (fs_up s).2.2.2.2.2.2.2.recs.length ≤ 256) : fsW s := And.intro f_0_ (And.intro f_1_ (And.intro f_2_ f_3_))
theorem ky_wak (z : kz A κ M k T row) (hw : fsW k.1.1.1.1) : ∃ M', mj_V (d + 6) 46 [.ref κ] M = some (none, M') ∧ kz A κ M' (ky_wake k T).1 (ky_wake k T).2 row ∧ fx (kS A κ) M M' := by
  obtain ⟨u0, x0⟩ := z.fa
  obtain ⟨r, hr⟩ := z.st
  obtain ⟨M1, r1, p1, k1, g1⟩ := st_wake (d := d) hr hw.l hw.g hw.c hw.r
  obtain ⟨z1, f1⟩ := z.mk_s k1 g1 (mj_V_gr p1)
  obtain ⟨u1, x1⟩ := z1.fa
  have hlo := z.lo
  have hh : ¬ κ < 25 := by omega
  unfold ky_wake
  cases hon : (fs_wake k.1.1.1.1).2.1 with
  | false =>
    refine ⟨M1, ?_, by simpa using z1, f1⟩
    simp (disch := (first | omega | decide)) [c46, s46_0, s46_1, s46_4, s46_7, s46_8, s46_11, s46_14, s46_17, s46_18, s46_21, s46_22, s46_23, s46_26, s46_27, s46_28, s46_31, mq_k0s, mq_k1s, mq_k2s, mq_k4s, mq_k5s, mq_k5n, mq_k5as, mq_k6s, mj_pu, mj_lo, mj_br, mj_hr, mj_hw, mq_gf, mq_len, mq_al, mq_pf, mq_ok, mj_re, mq_lkm, mq_lkn, mj_ldi, mj_ldl, mj_lda, mj_ii, mj_ll, mj_li, mj_i1, ms_1, ms_2, f1_n, f1_i, f1_r, f1_u, f1_l, f2_n, f2_i, f2_r, f2_u, f2_l, mj_tg, mj_c1, mj_c2, mj_ar, mj_aw, mq_cb, mq_oi, mj_rm, Value.category, -getElem?_pos, List.getElem?_cons_zero, decide_eq_true, decide_eq_false, nl_lt, nl_le, ln_lt, ln_le, nl_eq, ln_eq, nl_add, ln_add, nl_sub, ln_mul, nI_sub, nI_mul, nI_add, nI_lt_iff, nI_le_iff, nI_inj, nI_num, mq_ix, nI_1, nl_mul, nl_div, x0, p1, x1, hon]
  | true =>
    obtain ⟨M2, p2, z2, f2⟩ := ky_ren (d := d + 3) z1
    obtain ⟨u2, x2⟩ := z2.fa
    obtain ⟨z3, f3⟩ := z2.mk_o ((((((ky_renew (((((fs_wake k.1.1.1.1, k.1.1.1.2), (k.1.1.2.1, k.1.1.2.2)), ((k.1.2.1.1, k.1.2.1.2), (k.1.2.2.1, k.1.2.2.2))), (((k.2.1.1.1, k.2.1.1.2), (k.2.1.2.1, k.2.1.2.2)), ((k.2.2.1.1, k.2.2.1.2), k.2.2.2))) : Ky) T).1.1.1.1, (ky_renew (((((fs_wake k.1.1.1.1, k.1.1.1.2), (k.1.1.2.1, k.1.1.2.2)), ((k.1.2.1.1, k.1.2.1.2), (k.1.2.2.1, k.1.2.2.2))), (((k.2.1.1.1, k.2.1.1.2), (k.2.1.2.1, k.2.1.2.2)), ((k.2.2.1.1, k.2.2.1.2), k.2.2.2))) : Ky) T).1.1.1.2), ((ky_renew (((((fs_wake k.1.1.1.1, k.1.1.1.2), (k.1.1.2.1, k.1.1.2.2)), ((k.1.2.1.1, k.1.2.1.2), (k.1.2.2.1, k.1.2.2.2))), (((k.2.1.1.1, k.2.1.1.2), (k.2.1.2.1, k.2.1.2.2)), ((k.2.2.1.1, k.2.2.1.2), k.2.2.2))) : Ky) T).1.1.2.1, (ky_renew (((((fs_wake k.1.1.1.1, k.1.1.1.2), (k.1.1.2.1, k.1.1.2.2)), ((k.1.2.1.1, k.1.2.1.2), (k.1.2.2.1, k.1.2.2.2))), (((k.2.1.1.1, k.2.1.1.2), (k.2.1.2.1, k.2.1.2.2)), ((k.2.2.1.1, k.2.2.1.2), k.2.2.2))) : Ky) T).1.1.2.2)), (((ky_renew (((((fs_wake k.1.1.1.1, k.1.1.1.2), (k.1.1.2.1, k.1.1.2.2)), ((k.1.2.1.1, k.1.2.1.2), (k.1.2.2.1, k.1.2.2.2))), (((k.2.1.1.1, k.2.1.1.2), (k.2.1.2.1, k.2.1.2.2)), ((k.2.2.1.1, k.2.2.1.2), k.2.2.2))) : Ky) T).1.2.1.1, (ky_renew (((((fs_wake k.1.1.1.1, k.1.1.1.2), (k.1.1.2.1, k.1.1.2.2)), ((k.1.2.1.1, k.1.2.1.2), (k.1.2.2.1, k.1.2.2.2))), (((k.2.1.1.1, k.2.1.1.2), (k.2.1.2.1, k.2.1.2.2)), ((k.2.2.1.1, k.2.2.1.2), k.2.2.2))) : Ky) T).1.2.1.2), ((ky_renew (((((fs_wake k.1.1.1.1, k.1.1.1.2), (k.1.1.2.1, k.1.1.2.2)), ((k.1.2.1.1, k.1.2.1.2), (k.1.2.2.1, k.1.2.2.2))), (((k.2.1.1.1, k.2.1.1.2), (k.2.1.2.1, k.2.1.2.2)), ((k.2.2.1.1, k.2.2.1.2), k.2.2.2))) : Ky) T).1.2.2.1, (ky_renew (((((fs_wake k.1.1.1.1, k.1.1.1.2), (k.1.1.2.1, k.1.1.2.2)), ((k.1.2.1.1, k.1.2.1.2), (k.1.2.2.1, k.1.2.2.2))), (((k.2.1.1.1, k.2.1.1.2), (k.2.1.2.1, k.2.1.2.2)), ((k.2.2.1.1, k.2.2.1.2), k.2.2.2))) : Ky) T).1.2.2.2))), ((((ky_renew (((((fs_wake k.1.1.1.1, k.1.1.1.2), (k.1.1.2.1, k.1.1.2.2)), ((k.1.2.1.1, k.1.2.1.2), (k.1.2.2.1, k.1.2.2.2))), (((k.2.1.1.1, k.2.1.1.2), (k.2.1.2.1, k.2.1.2.2)), ((k.2.2.1.1, k.2.2.1.2), k.2.2.2))) : Ky) T).2.1.1.1, (ky_renew (((((fs_wake k.1.1.1.1, k.1.1.1.2), (k.1.1.2.1, k.1.1.2.2)), ((k.1.2.1.1, k.1.2.1.2), (k.1.2.2.1, k.1.2.2.2))), (((k.2.1.1.1, k.2.1.1.2), (k.2.1.2.1, k.2.1.2.2)), ((k.2.2.1.1, k.2.2.1.2), k.2.2.2))) : Ky) T).2.1.1.2), (false, 0)), (((ky_renew (((((fs_wake k.1.1.1.1, k.1.1.1.2), (k.1.1.2.1, k.1.1.2.2)), ((k.1.2.1.1, k.1.2.1.2), (k.1.2.2.1, k.1.2.2.2))), (((k.2.1.1.1, k.2.1.1.2), (k.2.1.2.1, k.2.1.2.2)), ((k.2.2.1.1, k.2.2.1.2), k.2.2.2))) : Ky) T).2.2.1.1, (ky_renew (((((fs_wake k.1.1.1.1, k.1.1.1.2), (k.1.1.2.1, k.1.1.2.2)), ((k.1.2.1.1, k.1.2.1.2), (k.1.2.2.1, k.1.2.2.2))), (((k.2.1.1.1, k.2.1.1.2), (k.2.1.2.1, k.2.1.2.2)), ((k.2.2.1.1, k.2.2.1.2), k.2.2.2))) : Ky) T).2.2.1.2), (ky_renew (((((fs_wake k.1.1.1.1, k.1.1.1.2), (k.1.1.2.1, k.1.1.2.2)), ((k.1.2.1.1, k.1.2.1.2), (k.1.2.2.1, k.1.2.2.2))), (((k.2.1.1.1, k.2.1.1.2), (k.2.1.2.1, k.2.1.2.2)), ((k.2.2.1.1, k.2.2.1.2), k.2.2.2))) : Ky) T).2.2.2))) : Ky) rfl rfl rfl rfl
    refine ⟨_, ?_, by simpa using z3, (((f1).trs f2).trs f3)⟩
    have l2 := mq_lt z2.ob
    simp only [ky_renew] at x2
    simp (disch := (first | omega | decide)) [c46, s46_0, s46_1, s46_4, s46_7, s46_8, s46_11, s46_14, s46_17, s46_18, s46_21, s46_22, s46_23, s46_26, s46_27, s46_28, s46_31, mq_k0s, mq_k1s, mq_k2s, mq_k4s, mq_k5s, mq_k5n, mq_k5as, mq_k6s, mj_pu, mj_lo, mj_br, mj_hr, mj_hw, mq_gf, mq_len, mq_al, mq_pf, mq_ok, mj_re, mq_lkm, mq_lkn, mj_ldi, mj_ldl, mj_lda, mj_ii, mj_ll, mj_li, mj_i1, ms_1, ms_2, f1_n, f1_i, f1_r, f1_u, f1_l, f2_n, f2_i, f2_r, f2_u, f2_l, mj_tg, mj_c1, mj_c2, mj_ar, mj_aw, mq_cb, mq_oi, mj_rm, Value.category, -getElem?_pos, List.getElem?_cons_zero, decide_eq_true, decide_eq_false, nl_lt, nl_le, ln_lt, ln_le, nl_eq, ln_eq, nl_add, ln_add, nl_sub, ln_mul, nI_sub, nI_mul, nI_add, nI_lt_iff, nI_le_iff, nI_inj, nI_num, mq_ix, nI_1, nl_mul, nl_div, x0, p1, x1, hon, p2, x2, narrow, narrow_b0, mj_E, hh, l2, List.getElem?_set, ko, ky_renew]
    rfl
def ky_switch (k : Ky) (T : Tm) (b : Bool) : Ky × Tm := if b = false then ((((((((k.1.1.1.1.1, (false, (k.1.1.1.1.2.2.1, (k.1.1.1.1.2.2.2.1, (k.1.1.1.1.2.2.2.2.1, (k.1.1.1.1.2.2.2.2.2.1, (k.1.1.1.1.2.2.2.2.2.2.1, k.1.1.1.1.2.2.2.2.2.2.2))))))) : Fl), k.1.1.1.2), (k.1.1.2.1, k.1.1.2.2)), ((k.1.2.1.1, k.1.2.1.2), (k.1.2.2.1, k.1.2.2.2))), (((k.2.1.1.1, k.2.1.1.2), (k.2.1.2.1, k.2.1.2.2)), ((k.2.2.1.1, k.2.2.1.2), k.2.2.2))) : Ky), T) else if k.1.1.1.1.2.1 then (k, T) else ky_wake k T
theorem ky_swi (z : kz A κ M k T row) (hw : fsW k.1.1.1.1) (b : Bool) : ∃ M', mj_V (d + 7) 69 [.ref κ, .int (on1 b)] M = some (none, M') ∧ kz A κ M' (ky_switch k T b).1 (ky_switch k T b).2 row ∧ fx (kS A κ) M M' := by
  obtain ⟨u0, x0⟩ := z.fa
  obtain ⟨r, hr⟩ := z.st
  have hlo := z.lo
  have hh : ¬ κ + 1 < 25 := by omega
  cases b with
  | false =>
    have k1 := hr.set (s' := ((k.1.1.1.1.1, (false, (k.1.1.1.1.2.2.1, (k.1.1.1.1.2.2.2.1, (k.1.1.1.1.2.2.2.2.1, (k.1.1.1.1.2.2.2.2.2.1, (k.1.1.1.1.2.2.2.2.2.2.1, k.1.1.1.1.2.2.2.2.2.2.2))))))) : Fl)) rfl rfl
    obtain ⟨z1, f1⟩ := z.mk_s k1 (kf.st (by omega)) (mj_gr.set hr.ob rfl rfl)
    refine ⟨_, ?_, z1, f1⟩
    have l1 := mq_lt hr.ob
    simp (disch := (first | omega | decide)) [c69, s69_0, s69_1, s69_4, s69_5, s69_8, s69_9, s69_12, s69_15, s69_16, s69_19, s69_22, s69_25, s69_26, s69_29, mq_k0s, mq_k1s, mq_k2s, mq_k4s, mq_k5s, mq_k5n, mq_k5as, mq_k6s, mj_pu, mj_lo, mj_br, mj_hr, mj_hw, mq_gf, mq_len, mq_al, mq_pf, mq_ok, mj_re, mq_lkm, mq_lkn, mj_ldi, mj_ldl, mj_lda, mj_ii, mj_ll, mj_li, mj_i1, ms_1, ms_2, f1_n, f1_i, f1_r, f1_u, f1_l, f2_n, f2_i, f2_r, f2_u, f2_l, mj_tg, mj_c1, mj_c2, mj_ar, mj_aw, mq_cb, mq_oi, mj_rm, Value.category, -getElem?_pos, List.getElem?_cons_zero, decide_eq_true, decide_eq_false, nl_lt, nl_le, ln_lt, ln_le, nl_eq, ln_eq, nl_add, ln_add, nl_sub, ln_mul, nI_sub, nI_mul, nI_add, nI_lt_iff, nI_le_iff, nI_inj, nI_num, mq_ix, nI_1, nl_mul, nl_div, x0, on1, narrow_b0, mj_E, hh, l1, so]
  | true =>
    cases hon : k.1.1.1.1.2.1 with
    | true =>
      refine ⟨M, ?_, by simpa [ky_switch, hon] using z, fx.rf⟩
      simp (disch := (first | omega | decide)) [c69, s69_0, s69_1, s69_4, s69_5, s69_8, s69_9, s69_12, s69_15, s69_16, s69_19, s69_22, s69_25, s69_26, s69_29, mq_k0s, mq_k1s, mq_k2s, mq_k4s, mq_k5s, mq_k5n, mq_k5as, mq_k6s, mj_pu, mj_lo, mj_br, mj_hr, mj_hw, mq_gf, mq_len, mq_al, mq_pf, mq_ok, mj_re, mq_lkm, mq_lkn, mj_ldi, mj_ldl, mj_lda, mj_ii, mj_ll, mj_li, mj_i1, ms_1, ms_2, f1_n, f1_i, f1_r, f1_u, f1_l, f2_n, f2_i, f2_r, f2_u, f2_l, mj_tg, mj_c1, mj_c2, mj_ar, mj_aw, mq_cb, mq_oi, mj_rm, Value.category, -getElem?_pos, List.getElem?_cons_zero, decide_eq_true, decide_eq_false, nl_lt, nl_le, ln_lt, ln_le, nl_eq, ln_eq, nl_add, ln_add, nl_sub, ln_mul, nI_sub, nI_mul, nI_add, nI_lt_iff, nI_le_iff, nI_inj, nI_num, mq_ix, nI_1, nl_mul, nl_div, x0, on1, hon]
    | false =>
      obtain ⟨M1, p1, z1, f1⟩ := ky_wak (d := d) z hw
      refine ⟨M1, ?_, by simpa [ky_switch, hon] using z1, f1⟩
      simp (disch := (first | omega | decide)) [c69, s69_0, s69_1, s69_4, s69_5, s69_8, s69_9, s69_12, s69_15, s69_16, s69_19, s69_22, s69_25, s69_26, s69_29, mq_k0s, mq_k1s, mq_k2s, mq_k4s, mq_k5s, mq_k5n, mq_k5as, mq_k6s, mj_pu, mj_lo, mj_br, mj_hr, mj_hw, mq_gf, mq_len, mq_al, mq_pf, mq_ok, mj_re, mq_lkm, mq_lkn, mj_ldi, mj_ldl, mj_lda, mj_ii, mj_ll, mj_li, mj_i1, ms_1, ms_2, f1_n, f1_i, f1_r, f1_u, f1_l, f2_n, f2_i, f2_r, f2_u, f2_l, mj_tg, mj_c1, mj_c2, mj_ar, mj_aw, mq_cb, mq_oi, mj_rm, Value.category, -getElem?_pos, List.getElem?_cons_zero, decide_eq_true, decide_eq_false, nl_lt, nl_le, ln_lt, ln_le, nl_eq, ln_eq, nl_add, ln_add, nl_sub, ln_mul, nI_sub, nI_mul, nI_add, nI_lt_iff, nI_le_iff, nI_inj, nI_num, mq_ix, nI_1, nl_mul, nl_div, x0, on1, hon, p1]
theorem ky_ison (z : kz A κ M k T row) : mj_V (d + 1) 70 [.ref κ] M = some (some (.int (on1 k.1.1.1.1.2.1)), M) := by
  obtain ⟨u0, x0⟩ := z.fa
  cases hon : k.1.1.1.1.2.1 <;> simp (disch := (first | omega | decide)) [c70, s70_0, s70_1, s70_4, s70_7, mq_k0s, mq_k1s, mq_k2s, mq_k4s, mq_k5s, mq_k5n, mq_k5as, mq_k6s, mj_pu, mj_lo, mj_br, mj_hr, mj_hw, mq_gf, mq_len, mq_al, mq_pf, mq_ok, mj_re, mq_lkm, mq_lkn, mj_ldi, mj_ldl, mj_lda, mj_ii, mj_ll, mj_li, mj_i1, ms_1, ms_2, f1_n, f1_i, f1_r, f1_u, f1_l, f2_n, f2_i, f2_r, f2_u, f2_l, mj_tg, mj_c1, mj_c2, mj_ar, mj_aw, mq_cb, mq_oi, mj_rm, Value.category, -getElem?_pos, List.getElem?_cons_zero, decide_eq_true, decide_eq_false, nl_lt, nl_le, ln_lt, ln_le, nl_eq, ln_eq, nl_add, ln_add, nl_sub, ln_mul, nI_sub, nI_mul, nI_add, nI_lt_iff, nI_le_iff, nI_inj, nI_num, mq_ix, nI_1, nl_mul, nl_div, x0, on1, hon, narrow_b0, narrow_b1]
def ky_addp (k : Ky) : Ky × Int32 := if 9 ≤ k.1.2.1.1 then (k, -1) else ((((((k.1.1.1.1, k.1.1.1.2), (k.1.1.2.1, k.1.1.2.2)), ((k.1.2.1.1 + 1, k.1.2.1.2), (k.1.2.2.1, k.1.2.2.2))), (((k.2.1.1.1, k.2.1.1.2), (k.2.1.2.1, k.2.1.2.2)), ((k.2.2.1.1, k.2.2.1.2), k.2.2.2))) : Ky), nI (k.1.2.1.1 + 1))
theorem ky_add (z : kz A κ M k T row) (hw : k.1.2.1.1 ≤ 9) : ∃ M', mj_V (d + 1) 72 [.ref κ] M = some (some (.int (ky_addp k).2), M') ∧ kz A κ M' (ky_addp k).1 T row ∧ fx (kS A κ) M M' := by
  obtain ⟨u0, x0⟩ := z.fa
  have hlo := z.lo
  have hh : ¬ κ < 25 := by omega
  unfold ky_addp
  by_cases h9 : 9 ≤ k.1.2.1.1
  · rw [if_pos h9]
    refine ⟨M, ?_, z, fx.rf⟩
    simp (disch := (first | omega | decide)) [c72, s72_0, s72_1, s72_4, s72_6, s72_9, s72_10, s72_11, s72_12, s72_13, s72_16, s72_17, s72_18, s72_21, s72_22, s72_25, mq_k0s, mq_k1s, mq_k2s, mq_k4s, mq_k5s, mq_k5n, mq_k5as, mq_k6s, mj_pu, mj_lo, mj_br, mj_hr, mj_hw, mq_gf, mq_len, mq_al, mq_pf, mq_ok, mj_re, mq_lkm, mq_lkn, mj_ldi, mj_ldl, mj_lda, mj_ii, mj_ll, mj_li, mj_i1, ms_1, ms_2, f1_n, f1_i, f1_r, f1_u, f1_l, f2_n, f2_i, f2_r, f2_u, f2_l, mj_tg, mj_c1, mj_c2, mj_ar, mj_aw, mq_cb, mq_oi, mj_rm, Value.category, -getElem?_pos, List.getElem?_cons_zero, decide_eq_true, decide_eq_false, nl_lt, nl_le, ln_lt, ln_le, nl_eq, ln_eq, nl_add, ln_add, nl_sub, ln_mul, nI_sub, nI_mul, nI_add, nI_lt_iff, nI_le_iff, nI_inj, nI_num, mq_ix, nI_1, nl_mul, nl_div, x0, h9, narrow]
  · rw [if_neg h9]
    obtain ⟨z1, f1⟩ := z.mk_o (((((k.1.1.1.1, k.1.1.1.2), (k.1.1.2.1, k.1.1.2.2)), ((k.1.2.1.1 + 1, k.1.2.1.2), (k.1.2.2.1, k.1.2.2.2))), (((k.2.1.1.1, k.2.1.1.2), (k.2.1.2.1, k.2.1.2.2)), ((k.2.2.1.1, k.2.2.1.2), k.2.2.2))) : Ky) rfl rfl rfl rfl
    refine ⟨_, ?_, z1, f1⟩
    have l1 := mq_lt z.ob
    simp (disch := (first | omega | decide)) [c72, s72_0, s72_1, s72_4, s72_6, s72_9, s72_10, s72_11, s72_12, s72_13, s72_16, s72_17, s72_18, s72_21, s72_22, s72_25, mq_k0s, mq_k1s, mq_k2s, mq_k4s, mq_k5s, mq_k5n, mq_k5as, mq_k6s, mj_pu, mj_lo, mj_br, mj_hr, mj_hw, mq_gf, mq_len, mq_al, mq_pf, mq_ok, mj_re, mq_lkm, mq_lkn, mj_ldi, mj_ldl, mj_lda, mj_ii, mj_ll, mj_li, mj_i1, ms_1, ms_2, f1_n, f1_i, f1_r, f1_u, f1_l, f2_n, f2_i, f2_r, f2_u, f2_l, mj_tg, mj_c1, mj_c2, mj_ar, mj_aw, mq_cb, mq_oi, mj_rm, Value.category, -getElem?_pos, List.getElem?_cons_zero, decide_eq_true, decide_eq_false, nl_lt, nl_le, ln_lt, ln_le, nl_eq, ln_eq, nl_add, ln_add, nl_sub, ln_mul, nI_sub, nI_mul, nI_add, nI_lt_iff, nI_le_iff, nI_inj, nI_num, mq_ix, nI_1, nl_mul, nl_div, x0, h9, narrow, mj_E, hh, l1, List.getElem?_set, ko]
theorem ky_fail (z : kz A κ M k T row) (a : Int32) : ∃ M', mj_V (d + 1) 74 [.ref κ, .int a] M = some (none, M') ∧ kz A κ M' (((((((k.1.1.1.1.1, (k.1.1.1.1.2.1, (k.1.1.1.1.2.2.1, (a, (k.1.1.1.1.2.2.2.2.1, (k.1.1.1.1.2.2.2.2.2.1, (k.1.1.1.1.2.2.2.2.2.2.1, k.1.1.1.1.2.2.2.2.2.2.2))))))) : Fl), k.1.1.1.2), (k.1.1.2.1, k.1.1.2.2)), ((k.1.2.1.1, k.1.2.1.2), (k.1.2.2.1, k.1.2.2.2))), (((k.2.1.1.1, k.2.1.1.2), (k.2.1.2.1, k.2.1.2.2)), ((k.2.2.1.1, k.2.2.1.2), k.2.2.2))) : Ky) T row ∧ fx (kS A κ) M M' := by
  obtain ⟨u0, x0⟩ := z.fa
  obtain ⟨r, hr⟩ := z.st
  have hlo := z.lo
  have hh : ¬ κ + 1 < 25 := by omega
  have k1 := hr.set (s' := ((k.1.1.1.1.1, (k.1.1.1.1.2.1, (k.1.1.1.1.2.2.1, (a, (k.1.1.1.1.2.2.2.2.1, (k.1.1.1.1.2.2.2.2.2.1, (k.1.1.1.1.2.2.2.2.2.2.1, k.1.1.1.1.2.2.2.2.2.2.2))))))) : Fl)) rfl rfl
  obtain ⟨z1, f1⟩ := z.mk_s k1 (kf.st (by omega)) (mj_gr.set hr.ob rfl rfl)
  refine ⟨_, ?_, z1, f1⟩
  have l1 := mq_lt hr.ob
  simp (disch := (first | omega | decide)) [c74, s74_0, s74_1, s74_4, s74_5, s74_8, mq_k0s, mq_k1s, mq_k2s, mq_k4s, mq_k5s, mq_k5n, mq_k5as, mq_k6s, mj_pu, mj_lo, mj_br, mj_hr, mj_hw, mq_gf, mq_len, mq_al, mq_pf, mq_ok, mj_re, mq_lkm, mq_lkn, mj_ldi, mj_ldl, mj_lda, mj_ii, mj_ll, mj_li, mj_i1, ms_1, ms_2, f1_n, f1_i, f1_r, f1_u, f1_l, f2_n, f2_i, f2_r, f2_u, f2_l, mj_tg, mj_c1, mj_c2, mj_ar, mj_aw, mq_cb, mq_oi, mj_rm, Value.category, -getElem?_pos, List.getElem?_cons_zero, decide_eq_true, decide_eq_false, nl_lt, nl_le, ln_lt, ln_le, nl_eq, ln_eq, nl_add, ln_add, nl_sub, ln_mul, nI_sub, nI_mul, nI_add, nI_lt_iff, nI_le_iff, nI_inj, nI_num, mq_ix, nI_1, nl_mul, nl_div, x0, narrow, mj_E, hh, l1, so]
def ky_took (k : Ky) : Ky := if k.1.2.1.1 = 0 then k else (((((k.1.1.1.1, k.1.1.1.2), (k.1.1.2.1, k.1.1.2.2)), ((k.1.2.1.1 - 1, k.1.2.1.2 + 1), (k.1.2.2.1, k.1.2.2.2))), (((k.2.1.1.1, k.2.1.1.2), (k.2.1.2.1, k.2.1.2.2)), ((k.2.2.1.1, k.2.2.1.2), k.2.2.2))) : Ky)
theorem ky_take (z : kz A κ M k T row) (hw : k.1.2.1.1 ≤ 9) : ∃ M', mj_V (d + 1) 118 [.ref κ] M = some (some (.int (on1 (!decide (k.1.2.1.1 = 0)))), M') ∧ kz A κ M' (ky_took k) T row ∧ fx (kS A κ) M M' := by
  obtain ⟨u0, x0⟩ := z.fa
  have hlo := z.lo
  have hh : ¬ κ < 25 := by omega
  unfold ky_took
  by_cases h0 : k.1.2.1.1 = 0
  · rw [if_pos h0]
    refine ⟨M, ?_, z, fx.rf⟩
    simp (disch := (first | omega | decide)) [c118, s118_0, s118_1, s118_4, s118_7, s118_8, s118_9, s118_10, s118_11, s118_14, s118_15, s118_16, s118_19, s118_20, s118_21, s118_24, s118_25, s118_26, s118_29, s118_30, mq_k0s, mq_k1s, mq_k2s, mq_k4s, mq_k5s, mq_k5n, mq_k5as, mq_k6s, mj_pu, mj_lo, mj_br, mj_hr, mj_hw, mq_gf, mq_len, mq_al, mq_pf, mq_ok, mj_re, mq_lkm, mq_lkn, mj_ldi, mj_ldl, mj_lda, mj_ii, mj_ll, mj_li, mj_i1, ms_1, ms_2, f1_n, f1_i, f1_r, f1_u, f1_l, f2_n, f2_i, f2_r, f2_u, f2_l, mj_tg, mj_c1, mj_c2, mj_ar, mj_aw, mq_cb, mq_oi, mj_rm, Value.category, -getElem?_pos, List.getElem?_cons_zero, decide_eq_true, decide_eq_false, nl_lt, nl_le, ln_lt, ln_le, nl_eq, ln_eq, nl_add, ln_add, nl_sub, ln_mul, nI_sub, nI_mul, nI_add, nI_lt_iff, nI_le_iff, nI_inj, nI_num, mq_ix, nI_1, nl_mul, nl_div, x0, h0, on1, narrow_b0]
  · rw [if_neg h0]
    obtain ⟨z1, f1⟩ := z.mk_o (((((k.1.1.1.1, k.1.1.1.2), (k.1.1.2.1, k.1.1.2.2)), ((k.1.2.1.1 - 1, k.1.2.1.2 + 1), (k.1.2.2.1, k.1.2.2.2))), (((k.2.1.1.1, k.2.1.1.2), (k.2.1.2.1, k.2.1.2.2)), ((k.2.2.1.1, k.2.2.1.2), k.2.2.2))) : Ky) rfl rfl rfl rfl
    refine ⟨_, ?_, z1, f1⟩
    have l1 := mq_lt z.ob
    simp (disch := (first | omega | decide)) [c118, s118_0, s118_1, s118_4, s118_7, s118_8, s118_9, s118_10, s118_11, s118_14, s118_15, s118_16, s118_19, s118_20, s118_21, s118_24, s118_25, s118_26, s118_29, s118_30, mq_k0s, mq_k1s, mq_k2s, mq_k4s, mq_k5s, mq_k5n, mq_k5as, mq_k6s, mj_pu, mj_lo, mj_br, mj_hr, mj_hw, mq_gf, mq_len, mq_al, mq_pf, mq_ok, mj_re, mq_lkm, mq_lkn, mj_ldi, mj_ldl, mj_lda, mj_ii, mj_ll, mj_li, mj_i1, ms_1, ms_2, f1_n, f1_i, f1_r, f1_u, f1_l, f2_n, f2_i, f2_r, f2_u, f2_l, mj_tg, mj_c1, mj_c2, mj_ar, mj_aw, mq_cb, mq_oi, mj_rm, Value.category, -getElem?_pos, List.getElem?_cons_zero, decide_eq_true, decide_eq_false, nl_lt, nl_le, ln_lt, ln_le, nl_eq, ln_eq, nl_add, ln_add, nl_sub, ln_mul, nI_sub, nI_mul, nI_add, nI_lt_iff, nI_le_iff, nI_inj, nI_num, mq_ix, nI_1, nl_mul, nl_div, x0, h0, narrow, mj_E, hh, l1, List.getElem?_set, ko, on1, narrow_b1]
def dt9 (party flags count : Int32) : List Int32 := b4 party ++ ((flags &&& 255) :: b4 count)
theorem ky_data (z : kz A κ M k T row) (party flags count : Int32) : ∃ M', mj_V (d + 2) 129 [.ref κ, .int party, .int flags, .int count] M = some (none, M') ∧ kz A κ M' (((((k.1.1.1.1, k.1.1.1.2), (dt9 party flags count, k.1.1.2.2)), ((k.1.2.1.1, k.1.2.1.2), (k.1.2.2.1, k.1.2.2.2))), (((k.2.1.1.1, k.2.1.1.2), (k.2.1.2.1, k.2.1.2.2)), ((k.2.2.1.1, k.2.2.1.2), k.2.2.2))) : Ky) T row ∧ fx (kS A κ) M M' := by
  obtain ⟨u0, x0⟩ := z.fa
  obtain ⟨M1, p1, z1, f1⟩ := kz_dclear (d := d) z
  obtain ⟨u1, x1⟩ := z1.fa
  obtain ⟨M2, p2, z2, f2⟩ := kz_dfour (d := d) z1 party (by simp)
  obtain ⟨u2, x2⟩ := z2.fa
  obtain ⟨M3, p3, z3, f3⟩ := kz_dpush (d := d) z2 flags (by simp [b4_len])
  obtain ⟨u3, x3⟩ := z3.fa
  obtain ⟨M4, p4, z4, f4⟩ := kz_dfour (d := d) z3 count (by simp [b4_len])
  obtain ⟨u4, x4⟩ := z4.fa
  refine ⟨M4, ?_, ?_, ((((f1).trs f2).trs f3).trs f4)⟩
  · simp (disch := (first | omega | decide)) [c129, s129_0, s129_1, s129_4, s129_7, s129_8, s129_11, s129_12, s129_13, s129_14, s129_17, s129_18, s129_21, s129_22, s129_25, s129_26, s129_29, s129_30, s129_31, s129_32, s129_35, mq_k0s, mq_k1s, mq_k2s, mq_k4s, mq_k5s, mq_k5n, mq_k5as, mq_k6s, mj_pu, mj_lo, mj_br, mj_hr, mj_hw, mq_gf, mq_len, mq_al, mq_pf, mq_ok, mj_re, mq_lkm, mq_lkn, mj_ldi, mj_ldl, mj_lda, mj_ii, mj_ll, mj_li, mj_i1, ms_1, ms_2, f1_n, f1_i, f1_r, f1_u, f1_l, f2_n, f2_i, f2_r, f2_u, f2_l, mj_tg, mj_c1, mj_c2, mj_ar, mj_aw, mq_cb, mq_oi, mj_rm, Value.category, -getElem?_pos, List.getElem?_cons_zero, decide_eq_true, decide_eq_false, nl_lt, nl_le, ln_lt, ln_le, nl_eq, ln_eq, nl_add, ln_add, nl_sub, ln_mul, nI_sub, nI_mul, nI_add, nI_lt_iff, nI_le_iff, nI_inj, nI_num, mq_ix, nI_1, nl_mul, nl_div, x0, p1, x1, p2, x2, p3, x3, p4, x4]
  · simpa [dt9] using z4
theorem ky_sig (z : kz A κ M k T row) (s h : Int32) (hf : T.1.length < 1000) : ∃ M', mj_V (d + 5) 133 [.ref κ, .int s, .int h] M = some (some (.int (nI (tm_no T (6 :: s :: (k.1.1.2.1 ++ b4 h))))), M') ∧ kz A κ M' k (tm_mk T (6 :: s :: (k.1.1.2.1 ++ b4 h))) (6 :: s :: (k.1.1.2.1 ++ b4 h)) ∧ fx (kS A κ) M M' := by
  obtain ⟨u0, x0⟩ := z.fa
  have hd := z.da.len
  obtain ⟨M1, p1, z1, f1⟩ := kz_begin (d := d + 2) z 6
  obtain ⟨u1, x1⟩ := z1.fa
  obtain ⟨M2, p2, z2, f2⟩ := kz_add (d := d + 3) z1 (by simp) s
  obtain ⟨u2, x2⟩ := z2.fa
  have v2 := v_size (d := d + 3) z2.da
  have a1 := z2.aA (κ + 18) (by omega)
  have a2 := z2.aA (κ + 19) (by omega)
  obtain ⟨M3, p3, z3, f3⟩ := kz_addBytes (d := d + 2) (q := 0) (n := k.1.1.2.1.length) z2 z2.da a1 a2 (by omega) (by simp; omega)
  obtain ⟨u3, x3⟩ := z3.fa
  obtain ⟨M4, p4, z4, f4⟩ := kz_addFour (d := d + 2) z3 (by simp; omega) h
  obtain ⟨u4, x4⟩ := z4.fa
  obtain ⟨M5, p5, z5, f5⟩ := kz_made (d := d) z4 (by simp) hf
  obtain ⟨u5, x5⟩ := z5.fa
  have e : [6] ++ [s] ++ (k.1.1.2.1.drop 0).take k.1.1.2.1.length ++ b4 h = 6 :: s :: (k.1.1.2.1 ++ b4 h) := by simp
  rw [e] at z5 p5
  rw [nI_0] at p3
  refine ⟨M5, ?_, z5, (((((f1).trs f2).trs f3).trs f4).trs f5)⟩
  simp (disch := (first | omega | decide)) [c133, s133_0, s133_1, s133_4, s133_6, s133_9, s133_10, s133_13, s133_14, s133_17, s133_18, s133_21, s133_22, s133_25, s133_26, s133_27, s133_30, s133_33, s133_36, s133_37, s133_40, s133_41, s133_44, s133_45, s133_48, s133_51, mq_k0s, mq_k1s, mq_k2s, mq_k4s, mq_k5s, mq_k5n, mq_k5as, mq_k6s, mj_pu, mj_lo, mj_br, mj_hr, mj_hw, mq_gf, mq_len, mq_al, mq_pf, mq_ok, mj_re, mq_lkm, mq_lkn, mj_ldi, mj_ldl, mj_lda, mj_ii, mj_ll, mj_li, mj_i1, ms_1, ms_2, f1_n, f1_i, f1_r, f1_u, f1_l, f2_n, f2_i, f2_r, f2_u, f2_l, mj_tg, mj_c1, mj_c2, mj_ar, mj_aw, mq_cb, mq_oi, mj_rm, Value.category, -getElem?_pos, List.getElem?_cons_zero, decide_eq_true, decide_eq_false, nl_lt, nl_le, ln_lt, ln_le, nl_eq, ln_eq, nl_add, ln_add, nl_sub, ln_mul, nI_sub, nI_mul, nI_add, nI_lt_iff, nI_le_iff, nI_inj, nI_num, mq_ix, nI_1, nl_mul, nl_div, x0, p1, x1, p2, x2, v2, p3, x3, p4, x4, p5, x5, narrow]
def ky_end (k : Ky) (st : Int32) : Ky := if k.1.1.1.1.2.1 = false then (((((k.1.1.1.1, []), (k.1.1.2.1, k.1.1.2.2)), ((k.1.2.1.1, k.1.2.1.2), (k.1.2.2.1, k.1.2.2.2))), (((k.2.1.1.1, k.2.1.1.2), (k.2.1.2.1, k.2.1.2.2)), ((k.2.2.1.1, k.2.2.1.2), k.2.2.2))) : Ky) else if st = 0 then (((((k.1.1.1.1, k.1.1.1.2), (k.1.1.2.1, k.1.1.2.2)), ((k.1.2.1.1, k.1.2.1.2), (k.1.2.2.1 + 1, k.1.2.2.2))), (((k.2.1.1.1, k.2.1.1.2), (k.2.1.2.1, k.2.1.2.2)), ((k.2.2.1.1, k.2.2.1.2), k.2.2.2))) : Ky) else (((((k.1.1.1.1, [st &&& 255]), (k.1.1.2.1, k.1.1.2.2)), ((k.1.2.1.1, k.1.2.1.2), (k.1.2.2.1 + 1, k.1.2.2.2))), (((k.2.1.1.1, k.2.1.1.2), (k.2.1.2.1, k.2.1.2.2)), ((k.2.2.1.1, k.2.2.1.2), k.2.2.2))) : Ky)
def st_end (k : Ky) (st : Int32) : Int32 := if k.1.1.1.1.2.1 = false then -3 else st
theorem ky_ended (z : kz A κ M k T row) (st : Int32) : ∃ M', mj_V (d + 2) 157 [.ref κ, .int st] M = some (some (.int (st_end k st)), M') ∧ kz A κ M' (ky_end k st) T row ∧ fx (kS A κ) M M' := by
  obtain ⟨u0, x0⟩ := z.fa
  have hlo := z.lo
  have hh : ¬ κ < 25 := by omega
  unfold ky_end st_end
  cases hon : k.1.1.1.1.2.1 with
  | false =>
    obtain ⟨M1, p1, z1, f1⟩ := kz_clear (d := d) z
    obtain ⟨u1, x1⟩ := z1.fa
    refine ⟨M1, ?_, by simpa using z1, f1⟩
    simp (disch := (first | omega | decide)) [c157, s157_0, s157_1, s157_4, s157_7, s157_10, s157_11, s157_14, s157_17, s157_19, s157_20, s157_21, s157_22, s157_25, s157_26, s157_27, s157_30, s157_31, s157_34, s157_35, s157_38, s157_41, s157_42, s157_45, s157_46, s157_49, s157_50, mq_k0s, mq_k1s, mq_k2s, mq_k4s, mq_k5s, mq_k5n, mq_k5as, mq_k6s, mj_pu, mj_lo, mj_br, mj_hr, mj_hw, mq_gf, mq_len, mq_al, mq_pf, mq_ok, mj_re, mq_lkm, mq_lkn, mj_ldi, mj_ldl, mj_lda, mj_ii, mj_ll, mj_li, mj_i1, ms_1, ms_2, f1_n, f1_i, f1_r, f1_u, f1_l, f2_n, f2_i, f2_r, f2_u, f2_l, mj_tg, mj_c1, mj_c2, mj_ar, mj_aw, mq_cb, mq_oi, mj_rm, Value.category, -getElem?_pos, List.getElem?_cons_zero, decide_eq_true, decide_eq_false, nl_lt, nl_le, ln_lt, ln_le, nl_eq, ln_eq, nl_add, ln_add, nl_sub, ln_mul, nI_sub, nI_mul, nI_add, nI_lt_iff, nI_le_iff, nI_inj, nI_num, mq_ix, nI_1, nl_mul, nl_div, x0, hon, p1, narrow]
  | true =>
    obtain ⟨z1, f1⟩ := z.mk_o (((((k.1.1.1.1, k.1.1.1.2), (k.1.1.2.1, k.1.1.2.2)), ((k.1.2.1.1, k.1.2.1.2), (k.1.2.2.1 + 1, k.1.2.2.2))), (((k.2.1.1.1, k.2.1.1.2), (k.2.1.2.1, k.2.1.2.2)), ((k.2.2.1.1, k.2.2.1.2), k.2.2.2))) : Ky) rfl rfl rfl rfl
    obtain ⟨u1, x1⟩ := z1.fa
    have l1 := mq_lt z.ob
    by_cases h0 : st = 0
    · refine ⟨_, ?_, by simpa [h0] using z1, f1⟩
      simp (disch := (first | omega | decide)) [c157, s157_0, s157_1, s157_4, s157_7, s157_10, s157_11, s157_14, s157_17, s157_19, s157_20, s157_21, s157_22, s157_25, s157_26, s157_27, s157_30, s157_31, s157_34, s157_35, s157_38, s157_41, s157_42, s157_45, s157_46, s157_49, s157_50, mq_k0s, mq_k1s, mq_k2s, mq_k4s, mq_k5s, mq_k5n, mq_k5as, mq_k6s, mj_pu, mj_lo, mj_br, mj_hr, mj_hw, mq_gf, mq_len, mq_al, mq_pf, mq_ok, mj_re, mq_lkm, mq_lkn, mj_ldi, mj_ldl, mj_lda, mj_ii, mj_ll, mj_li, mj_i1, ms_1, ms_2, f1_n, f1_i, f1_r, f1_u, f1_l, f2_n, f2_i, f2_r, f2_u, f2_l, mj_tg, mj_c1, mj_c2, mj_ar, mj_aw, mq_cb, mq_oi, mj_rm, Value.category, -getElem?_pos, List.getElem?_cons_zero, decide_eq_true, decide_eq_false, nl_lt, nl_le, ln_lt, ln_le, nl_eq, ln_eq, nl_add, ln_add, nl_sub, ln_mul, nI_sub, nI_mul, nI_add, nI_lt_iff, nI_le_iff, nI_inj, nI_num, mq_ix, nI_1, nl_mul, nl_div, x0, hon, h0, narrow, mj_E, hh, l1, ko]
    · obtain ⟨M2, p2, z2, f2⟩ := kz_clear (d := d) z1
      obtain ⟨u2, x2⟩ := z2.fa
      obtain ⟨M3, p3, z3, f3⟩ := kz_push (d := d) z2 st (by simp)
      obtain ⟨u3, x3⟩ := z3.fa
      refine ⟨M3, ?_, by simpa [h0] using z3, (((f1).trs f2).trs f3)⟩
      unfold ko at x1 p2
      dsimp only at x1 p2
      rw [hon] at x1 
      simp (disch := (first | omega | decide)) [c157, s157_0, s157_1, s157_4, s157_7, s157_10, s157_11, s157_14, s157_17, s157_19, s157_20, s157_21, s157_22, s157_25, s157_26, s157_27, s157_30, s157_31, s157_34, s157_35, s157_38, s157_41, s157_42, s157_45, s157_46, s157_49, s157_50, mq_k0s, mq_k1s, mq_k2s, mq_k4s, mq_k5s, mq_k5n, mq_k5as, mq_k6s, mj_pu, mj_lo, mj_br, mj_hr, mj_hw, mq_gf, mq_len, mq_al, mq_pf, mq_ok, mj_re, mq_lkm, mq_lkn, mj_ldi, mj_ldl, mj_lda, mj_ii, mj_ll, mj_li, mj_i1, ms_1, ms_2, f1_n, f1_i, f1_r, f1_u, f1_l, f2_n, f2_i, f2_r, f2_u, f2_l, mj_tg, mj_c1, mj_c2, mj_ar, mj_aw, mq_cb, mq_oi, mj_rm, Value.category, -getElem?_pos, List.getElem?_cons_zero, decide_eq_true, decide_eq_false, nl_lt, nl_le, ln_lt, ln_le, nl_eq, ln_eq, nl_add, ln_add, nl_sub, ln_mul, nI_sub, nI_mul, nI_add, nI_lt_iff, nI_le_iff, nI_inj, nI_num, mq_ix, nI_1, nl_mul, nl_div, x0, hon, h0, narrow, mj_E, hh, l1, x1, p2, x2, p3]
theorem ky_begin (z : kz A κ M k T row) (hf : T.1.length < 1000) (hw : fsW ((fs_new (nI (tm_no T [1, nI T.2.1])), (k.1.1.1.1.2.1, (k.1.1.1.1.2.2.1, (k.1.1.1.1.2.2.2.1, (k.1.1.1.1.2.2.2.2.1, (k.1.1.1.1.2.2.2.2.2.1, (k.1.1.1.1.2.2.2.2.2.2.1, k.1.1.1.1.2.2.2.2.2.2.2))))))) : Fl)) : ∃ M' row', mj_V (d + 7) 26 [.ref κ] M = some (none, M') ∧ kz A κ M' (ky_wake (((((((fs_new (nI (tm_no T [1, nI T.2.1])), (k.1.1.1.1.2.1, (k.1.1.1.1.2.2.1, (k.1.1.1.1.2.2.2.1, (k.1.1.1.1.2.2.2.2.1, (k.1.1.1.1.2.2.2.2.2.1, (k.1.1.1.1.2.2.2.2.2.2.1, k.1.1.1.1.2.2.2.2.2.2.2))))))) : Fl), k.1.1.1.2), (k.1.1.2.1, k.1.1.2.2)), ((k.1.2.1.1, k.1.2.1.2), (k.1.2.2.1, k.1.2.2.2))), (((k.2.1.1.1, k.2.1.1.2), (k.2.1.2.1, k.2.1.2.2)), ((k.2.2.1.1, k.2.2.1.2), k.2.2.2))) : Ky) (tm_fresh T)).1 (ky_wake (((((((fs_new (nI (tm_no T [1, nI T.2.1])), (k.1.1.1.1.2.1, (k.1.1.1.1.2.2.1, (k.1.1.1.1.2.2.2.1, (k.1.1.1.1.2.2.2.2.1, (k.1.1.1.1.2.2.2.2.2.1, (k.1.1.1.1.2.2.2.2.2.2.1, k.1.1.1.1.2.2.2.2.2.2.2))))))) : Fl), k.1.1.1.2), (k.1.1.2.1, k.1.1.2.2)), ((k.1.2.1.1, k.1.2.1.2), (k.1.2.2.1, k.1.2.2.2))), (((k.2.1.1.1, k.2.1.1.2), (k.2.1.2.1, k.2.1.2.2)), ((k.2.2.1.1, k.2.2.1.2), k.2.2.2))) : Ky) (tm_fresh T)).2 row' ∧ fx (kS A κ) M M' := by
  obtain ⟨u0, x0⟩ := z.fa
  obtain ⟨M1, p1, z1, f1⟩ := kz_fresh (d := d + 1) z hf
  obtain ⟨u1, x1⟩ := z1.fa
  obtain ⟨r, hr⟩ := z1.st
  obtain ⟨M2, p2, k2, g2⟩ := st_format (d := d + 3) (m := nI (tm_no T [1, nI T.2.1])) hr
  obtain ⟨z2, f2⟩ := z1.mk_s k2 g2 (mj_V_gr p2)
  obtain ⟨u2, x2⟩ := z2.fa
  obtain ⟨M3, p3, z3, f3⟩ := ky_wak (d := d) z2 hw
  refine ⟨M3, _, ?_, z3, (((f1).trs f2).trs f3)⟩
  simp (disch := (first | omega | decide)) [c26, s26_0, s26_1, s26_4, s26_5, s26_8, s26_11, s26_14, s26_15, s26_18, mq_k0s, mq_k1s, mq_k2s, mq_k4s, mq_k5s, mq_k5n, mq_k5as, mq_k6s, mj_pu, mj_lo, mj_br, mj_hr, mj_hw, mq_gf, mq_len, mq_al, mq_pf, mq_ok, mj_re, mq_lkm, mq_lkn, mj_ldi, mj_ldl, mj_lda, mj_ii, mj_ll, mj_li, mj_i1, ms_1, ms_2, f1_n, f1_i, f1_r, f1_u, f1_l, f2_n, f2_i, f2_r, f2_u, f2_l, mj_tg, mj_c1, mj_c2, mj_ar, mj_aw, mq_cb, mq_oi, mj_rm, Value.category, -getElem?_pos, List.getElem?_cons_zero, decide_eq_true, decide_eq_false, nl_lt, nl_le, ln_lt, ln_le, nl_eq, ln_eq, nl_add, ln_add, nl_sub, ln_mul, nI_sub, nI_mul, nI_add, nI_lt_iff, nI_le_iff, nI_inj, nI_num, mq_ix, nI_1, nl_mul, nl_div, x0, p1, x1, p2, x2, p3]
end KZ
end
/- 82.key2 -/
section
set_option maxRecDepth 512
/-! Class: Key: reading a message. -/
/- 111 PasskeyHouse$Key.knownHash(I)I -/
theorem s111_0 {d : Nat} {ls : mj_L} {st : List Value} {M : mj_H} : mj_Rn d mj_m111 0 ls st M = mq_k0 d mj_m111 1 ls M (mj_lda (mj_lk ls 0) st) := mj_R0 (r := (.aload_n 0, 1, 0, 0, 0)) rfl rfl
theorem s111_1 {d : Nat} {ls : mj_L} {st : List Value} {M : mj_H} : mj_Rn d mj_m111 1 ls st M = mq_k0 d mj_m111 2 ls M (mj_ldi (mj_lk ls 1) st) := mj_R0 (r := (.iload_n 1, 1, 0, 0, 0)) rfl rfl
theorem s111_2 {d : Nat} {ls : mj_L} {st : List Value} {M : mj_H} : mj_Rn (d + 1) mj_m111 2 ls st M = mq_k5a (d + 1) mj_m111 5 ls M 112 (mq_cb 0 1 5 st M) := mj_R5e (r := (.invokevirtual 139, 3, 0, 112, 16452)) (z := mj_m112) rfl rfl (by decide) (by decide) rfl
theorem s111_5 {d : Nat} {ls : mj_L} {st : List Value} {M : mj_H} : mj_Rn d mj_m111 5 ls st M = mq_k0 d mj_m111 6 ls M (mj_lda (mj_lk ls 0) st) := mj_R0 (r := (.aload_n 0, 1, 0, 0, 0)) rfl rfl
theorem s111_6 {d : Nat} {ls : mj_L} {st : List Value} {M : mj_H} : mj_Rn d mj_m111 6 ls st M = mq_k0 d mj_m111 9 ls M (mq_gf 5 0 st M) := (mj_R3 (r := (.getfield 9, 3, 5, 0, 16596)) rfl rfl).trans (congrArg (mq_k0 d mj_m111 9 ls M) mq_gf_eq)
theorem s111_9 {d : Nat} {ls : mj_L} {st : List Value} {M : mj_H} : mj_Rn (d + 1) mj_m111 9 ls st M = mq_k5a (d + 1) mj_m111 12 ls M 31 (mq_cb 0 0 9 st M) := mj_R5e (r := (.invokevirtual 142, 3, 0, 31, 16464)) (z := mj_m31) rfl rfl (by decide) (by decide) rfl
theorem s111_12 {d : Nat} {ls : mj_L} {st : List Value} {M : mj_H} : mj_Rn d mj_m111 12 ls st M = mq_k6 M (mj_re (some .int) (.ireturn) st) := mj_R6 (r := (.ireturn, 1, 0, 0, 0)) rfl rfl
/- 112 PasskeyHouse$Key.beginHash(I)V -/
theorem s112_0 {d : Nat} {ls : mj_L} {st : List Value} {M : mj_H} : mj_Rn d mj_m112 0 ls st M = mq_k0 d mj_m112 1 ls M (mj_lda (mj_lk ls 0) st) := mj_R0 (r := (.aload_n 0, 1, 0, 0, 0)) rfl rfl
theorem s112_1 {d : Nat} {ls : mj_L} {st : List Value} {M : mj_H} : mj_Rn d mj_m112 1 ls st M = mq_k0 d mj_m112 4 ls M (mq_gf 5 0 st M) := (mj_R3 (r := (.getfield 9, 3, 5, 0, 16596)) rfl rfl).trans (congrArg (mq_k0 d mj_m112 4 ls M) mq_gf_eq)
theorem s112_4 {d : Nat} {ls : mj_L} {st : List Value} {M : mj_H} : mj_Rn d mj_m112 4 ls st M = mj_Rn d mj_m112 6 ls (.int 7 :: st) M := mj_R0 (r := (.bipush 7, 2, 0, 0, 0)) rfl rfl
theorem s112_6 {d : Nat} {ls : mj_L} {st : List Value} {M : mj_H} : mj_Rn (d + 1) mj_m112 6 ls st M = mq_k5a (d + 1) mj_m112 9 ls M 28 (mq_cb 0 1 9 st M) := mj_R5e (r := (.invokevirtual 145, 3, 0, 28, 16456)) (z := mj_m28) rfl rfl (by decide) (by decide) rfl
theorem s112_9 {d : Nat} {ls : mj_L} {st : List Value} {M : mj_H} : mj_Rn d mj_m112 9 ls st M = mq_k0 d mj_m112 10 ls M (mj_lda (mj_lk ls 0) st) := mj_R0 (r := (.aload_n 0, 1, 0, 0, 0)) rfl rfl
theorem s112_10 {d : Nat} {ls : mj_L} {st : List Value} {M : mj_H} : mj_Rn d mj_m112 10 ls st M = mq_k0 d mj_m112 13 ls M (mq_gf 5 0 st M) := (mj_R3 (r := (.getfield 9, 3, 5, 0, 16596)) rfl rfl).trans (congrArg (mq_k0 d mj_m112 13 ls M) mq_gf_eq)
theorem s112_13 {d : Nat} {ls : mj_L} {st : List Value} {M : mj_H} : mj_Rn d mj_m112 13 ls st M = mq_k0 d mj_m112 14 ls M (mj_lda (mj_lk ls 0) st) := mj_R0 (r := (.aload_n 0, 1, 0, 0, 0)) rfl rfl
theorem s112_14 {d : Nat} {ls : mj_L} {st : List Value} {M : mj_H} : mj_Rn d mj_m112 14 ls st M = mq_k0 d mj_m112 17 ls M (mq_gf 5 1 st M) := (mj_R3 (r := (.getfield 15, 3, 5, 1, 16598)) rfl rfl).trans (congrArg (mq_k0 d mj_m112 17 ls M) mq_gf_eq)
theorem s112_17 {d : Nat} {ls : mj_L} {st : List Value} {M : mj_H} : mj_Rn d mj_m112 17 ls st M = mq_k0 d mj_m112 20 ls M (mq_gf 4 5 st M) := (mj_R3 (r := (.getfield 148, 3, 4, 5, 8379)) rfl rfl).trans (congrArg (mq_k0 d mj_m112 20 ls M) mq_gf_eq)
theorem s112_20 {d : Nat} {ls : mj_L} {st : List Value} {M : mj_H} : mj_Rn d mj_m112 20 ls st M = mq_k0 d mj_m112 21 ls M (mj_lda (mj_lk ls 0) st) := mj_R0 (r := (.aload_n 0, 1, 0, 0, 0)) rfl rfl
theorem s112_21 {d : Nat} {ls : mj_L} {st : List Value} {M : mj_H} : mj_Rn d mj_m112 21 ls st M = mq_k0 d mj_m112 24 ls M (mq_gf 5 1 st M) := (mj_R3 (r := (.getfield 15, 3, 5, 1, 16598)) rfl rfl).trans (congrArg (mq_k0 d mj_m112 24 ls M) mq_gf_eq)
theorem s112_24 {d : Nat} {ls : mj_L} {st : List Value} {M : mj_H} : mj_Rn d mj_m112 24 ls st M = mq_k0 d mj_m112 25 ls M (mj_ldi (mj_lk ls 1) st) := mj_R0 (r := (.iload_n 1, 1, 0, 0, 0)) rfl rfl
theorem s112_25 {d : Nat} {ls : mj_L} {st : List Value} {M : mj_H} : mj_Rn (d + 1) mj_m112 25 ls st M = mq_k5a (d + 1) mj_m112 28 ls M 94 (mq_cb 0 1 4 st M) := mj_R5e (r := (.invokevirtual 151, 3, 0, 94, 16457)) (z := mj_m94) rfl rfl (by decide) (by decide) rfl
theorem s112_28 {d : Nat} {ls : mj_L} {st : List Value} {M : mj_H} : mj_Rn d mj_m112 28 ls st M = mq_k0 d mj_m112 29 ls M (mj_lda (mj_lk ls 0) st) := mj_R0 (r := (.aload_n 0, 1, 0, 0, 0)) rfl rfl
theorem s112_29 {d : Nat} {ls : mj_L} {st : List Value} {M : mj_H} : mj_Rn d mj_m112 29 ls st M = mq_k0 d mj_m112 32 ls M (mq_gf 5 1 st M) := (mj_R3 (r := (.getfield 15, 3, 5, 1, 16598)) rfl rfl).trans (congrArg (mq_k0 d mj_m112 32 ls M) mq_gf_eq)
theorem s112_32 {d : Nat} {ls : mj_L} {st : List Value} {M : mj_H} : mj_Rn d mj_m112 32 ls st M = mq_k0 d mj_m112 33 ls M (mj_ldi (mj_lk ls 1) st) := mj_R0 (r := (.iload_n 1, 1, 0, 0, 0)) rfl rfl
theorem s112_33 {d : Nat} {ls : mj_L} {st : List Value} {M : mj_H} : mj_Rn (d + 1) mj_m112 33 ls st M = mq_k5a (d + 1) mj_m112 36 ls M 88 (mq_cb 0 1 4 st M) := mj_R5e (r := (.invokevirtual 154, 3, 0, 88, 16458)) (z := mj_m88) rfl rfl (by decide) (by decide) rfl
theorem s112_36 {d : Nat} {ls : mj_L} {st : List Value} {M : mj_H} : mj_Rn (d + 1) mj_m112 36 ls st M = mq_k5a (d + 1) mj_m112 39 ls M 113 (mq_cb 0 3 9 st M) := mj_R5e (r := (.invokevirtual 157, 3, 0, 113, 16459)) (z := mj_m113) rfl rfl (by decide) (by decide) rfl
theorem s112_39 {d : Nat} {ls : mj_L} {st : List Value} {M : mj_H} : mj_Rn d mj_m112 39 ls st M = mq_k6 M (mj_re none (.return_) st) := mj_R6 (r := (.return_, 1, 0, 0, 0)) rfl rfl
/- 123 PasskeyHouse$Key.isKnownAs(I)Z -/
theorem s123_0 {d : Nat} {ls : mj_L} {st : List Value} {M : mj_H} : mj_Rn d mj_m123 0 ls st M = mq_k0 d mj_m123 1 ls M (mj_lda (mj_lk ls 0) st) := mj_R0 (r := (.aload_n 0, 1, 0, 0, 0)) rfl rfl
theorem s123_1 {d : Nat} {ls : mj_L} {st : List Value} {M : mj_H} : mj_Rn d mj_m123 1 ls st M = mq_k0 d mj_m123 4 ls M (mq_gf 5 0 st M) := (mj_R3 (r := (.getfield 9, 3, 5, 0, 16596)) rfl rfl).trans (congrArg (mq_k0 d mj_m123 4 ls M) mq_gf_eq)
theorem s123_4 {d : Nat} {ls : mj_L} {st : List Value} {M : mj_H} : mj_Rn (d + 1) mj_m123 4 ls st M = mq_k5a (d + 1) mj_m123 7 ls M 31 (mq_cb 0 0 9 st M) := mj_R5e (r := (.invokevirtual 142, 3, 0, 31, 16464)) (z := mj_m31) rfl rfl (by decide) (by decide) rfl
theorem s123_7 {d : Nat} {ls : mj_L} {st : List Value} {M : mj_H} : mj_Rn d mj_m123 7 ls st M = mq_k1 d mj_m123 8 M (mj_lo 3 (.istore 2) ls st) := (mj_R1 (r := (.istore_n 2, 1, 0, 0, 0)) rfl rfl).trans (congrArg (mq_k1 d mj_m123 8 M) (mq_sti (k := 2)))
theorem s123_8 {d : Nat} {ls : mj_L} {st : List Value} {M : mj_H} : mj_Rn d mj_m123 8 ls st M = mq_k0 d mj_m123 9 ls M (mj_ldi (mj_lk ls 2) st) := mj_R0 (r := (.iload_n 2, 1, 0, 0, 0)) rfl rfl
theorem s123_9 {d : Nat} {ls : mj_L} {st : List Value} {M : mj_H} : mj_Rn d mj_m123 9 ls st M = mq_k2 d mj_m123 ls M (mj_br (.ifCond .eq 19) 9 st) := mj_R2 (r := (.ifCond .eq 19, 3, 0, 0, 0)) rfl rfl
theorem s123_12 {d : Nat} {ls : mj_L} {st : List Value} {M : mj_H} : mj_Rn d mj_m123 12 ls st M = mq_k0 d mj_m123 13 ls M (mj_ldi (mj_lk ls 2) st) := mj_R0 (r := (.iload_n 2, 1, 0, 0, 0)) rfl rfl
theorem s123_13 {d : Nat} {ls : mj_L} {st : List Value} {M : mj_H} : mj_Rn d mj_m123 13 ls st M = mq_k0 d mj_m123 14 ls M (mj_lda (mj_lk ls 0) st) := mj_R0 (r := (.aload_n 0, 1, 0, 0, 0)) rfl rfl
theorem s123_14 {d : Nat} {ls : mj_L} {st : List Value} {M : mj_H} : mj_Rn d mj_m123 14 ls st M = mq_k0 d mj_m123 17 ls M (mq_gf 5 1 st M) := (mj_R3 (r := (.getfield 15, 3, 5, 1, 16598)) rfl rfl).trans (congrArg (mq_k0 d mj_m123 17 ls M) mq_gf_eq)
theorem s123_17 {d : Nat} {ls : mj_L} {st : List Value} {M : mj_H} : mj_Rn d mj_m123 17 ls st M = mq_k0 d mj_m123 18 ls M (mj_ldi (mj_lk ls 1) st) := mj_R0 (r := (.iload_n 1, 1, 0, 0, 0)) rfl rfl
theorem s123_18 {d : Nat} {ls : mj_L} {st : List Value} {M : mj_H} : mj_Rn (d + 1) mj_m123 18 ls st M = mq_k5a (d + 1) mj_m123 21 ls M 109 (mq_cb 0 1 4 st M) := mj_R5e (r := (.invokevirtual 177, 3, 0, 109, 16440)) (z := mj_m109) rfl rfl (by decide) (by decide) rfl
theorem s123_21 {d : Nat} {ls : mj_L} {st : List Value} {M : mj_H} : mj_Rn d mj_m123 21 ls st M = mq_k2 d mj_m123 ls M (mj_br (.if_icmp .ne 7) 21 st) := mj_R2 (r := (.if_icmp .ne 7, 3, 0, 0, 0)) rfl rfl
theorem s123_24 {d : Nat} {ls : mj_L} {st : List Value} {M : mj_H} : mj_Rn d mj_m123 24 ls st M = mj_Rn d mj_m123 25 ls (.int 1 :: st) M := mj_R0 (r := (.iconst 1, 1, 0, 0, 0)) rfl rfl
theorem s123_25 {d : Nat} {ls : mj_L} {st : List Value} {M : mj_H} : mj_Rn d mj_m123 25 ls st M = mj_Rn d mj_m123 29 ls st M := mj_R2 (r := (.goto 4, 3, 0, 0, 0)) rfl rfl
theorem s123_28 {d : Nat} {ls : mj_L} {st : List Value} {M : mj_H} : mj_Rn d mj_m123 28 ls st M = mj_Rn d mj_m123 29 ls (.int 0 :: st) M := mj_R0 (r := (.iconst 0, 1, 0, 0, 0)) rfl rfl
theorem s123_29 {d : Nat} {ls : mj_L} {st : List Value} {M : mj_H} : mj_Rn d mj_m123 29 ls st M = mq_k6 M (mj_re (some .boolean) (.ireturn) st) := mj_R6 (r := (.ireturn, 1, 0, 0, 0)) rfl rfl
/- 116 PasskeyHouse$Key.whose(II)I -/
theorem s116_0 {d : Nat} {ls : mj_L} {st : List Value} {M : mj_H} : mj_Rn d mj_m116 0 ls st M = mq_k0 d mj_m116 1 ls M (mj_lda (mj_lk ls 0) st) := mj_R0 (r := (.aload_n 0, 1, 0, 0, 0)) rfl rfl
theorem s116_1 {d : Nat} {ls : mj_L} {st : List Value} {M : mj_H} : mj_Rn d mj_m116 1 ls st M = mq_k0 d mj_m116 4 ls M (mq_gf 5 2 st M) := (mj_R3 (r := (.getfield 22, 3, 5, 2, 16600)) rfl rfl).trans (congrArg (mq_k0 d mj_m116 4 ls M) mq_gf_eq)
theorem s116_4 {d : Nat} {ls : mj_L} {st : List Value} {M : mj_H} : mj_Rn d mj_m116 4 ls st M = mq_k0 d mj_m116 5 ls M (mj_ldi (mj_lk ls 1) st) := mj_R0 (r := (.iload_n 1, 1, 0, 0, 0)) rfl rfl
theorem s116_5 {d : Nat} {ls : mj_L} {st : List Value} {M : mj_H} : mj_Rn d mj_m116 5 ls st M = mq_k0 d mj_m116 6 ls M (mj_ldi (mj_lk ls 2) st) := mj_R0 (r := (.iload_n 2, 1, 0, 0, 0)) rfl rfl
theorem s116_6 {d : Nat} {ls : mj_L} {st : List Value} {M : mj_H} : mj_Rn (d + 1) mj_m116 6 ls st M = mq_k5a (d + 1) mj_m116 9 ls M 117 (mq_cb 0 2 8 st M) := mj_R5e (r := (.invokevirtual 161, 3, 0, 117, 16478)) (z := mj_m117) rfl rfl (by decide) (by decide) rfl
theorem s116_9 {d : Nat} {ls : mj_L} {st : List Value} {M : mj_H} : mj_Rn d mj_m116 9 ls st M = mq_k1 d mj_m116 10 M (mj_lo 5 (.istore 3) ls st) := (mj_R1 (r := (.istore_n 3, 1, 0, 0, 0)) rfl rfl).trans (congrArg (mq_k1 d mj_m116 10 M) (mq_sti (k := 3)))
theorem s116_10 {d : Nat} {ls : mj_L} {st : List Value} {M : mj_H} : mj_Rn d mj_m116 10 ls st M = mq_k0 d mj_m116 11 ls M (mj_ldi (mj_lk ls 3) st) := mj_R0 (r := (.iload_n 3, 1, 0, 0, 0)) rfl rfl
theorem s116_11 {d : Nat} {ls : mj_L} {st : List Value} {M : mj_H} : mj_Rn d mj_m116 11 ls st M = mj_Rn d mj_m116 12 ls (.int (-1) :: st) M := mj_R0 (r := (.iconst (-1), 1, 0, 0, 0)) rfl rfl
theorem s116_12 {d : Nat} {ls : mj_L} {st : List Value} {M : mj_H} : mj_Rn d mj_m116 12 ls st M = mq_k2 d mj_m116 ls M (mj_br (.if_icmp .eq 5) 12 st) := mj_R2 (r := (.if_icmp .eq 5, 3, 0, 0, 0)) rfl rfl
theorem s116_15 {d : Nat} {ls : mj_L} {st : List Value} {M : mj_H} : mj_Rn d mj_m116 15 ls st M = mq_k0 d mj_m116 16 ls M (mj_ldi (mj_lk ls 3) st) := mj_R0 (r := (.iload_n 3, 1, 0, 0, 0)) rfl rfl
theorem s116_16 {d : Nat} {ls : mj_L} {st : List Value} {M : mj_H} : mj_Rn d mj_m116 16 ls st M = mq_k6 M (mj_re (some .int) (.ireturn) st) := mj_R6 (r := (.ireturn, 1, 0, 0, 0)) rfl rfl
theorem s116_17 {d : Nat} {ls : mj_L} {st : List Value} {M : mj_H} : mj_Rn d mj_m116 17 ls st M = mq_k0 d mj_m116 18 ls M (mj_lda (mj_lk ls 0) st) := mj_R0 (r := (.aload_n 0, 1, 0, 0, 0)) rfl rfl
theorem s116_18 {d : Nat} {ls : mj_L} {st : List Value} {M : mj_H} : mj_Rn d mj_m116 18 ls st M = mq_k0 d mj_m116 21 ls M (mq_gf 5 0 st M) := (mj_R3 (r := (.getfield 9, 3, 5, 0, 16596)) rfl rfl).trans (congrArg (mq_k0 d mj_m116 21 ls M) mq_gf_eq)
theorem s116_21 {d : Nat} {ls : mj_L} {st : List Value} {M : mj_H} : mj_Rn d mj_m116 21 ls st M = mq_k0 d mj_m116 22 ls M (mj_ldi (mj_lk ls 1) st) := mj_R0 (r := (.iload_n 1, 1, 0, 0, 0)) rfl rfl
theorem s116_22 {d : Nat} {ls : mj_L} {st : List Value} {M : mj_H} : mj_Rn d mj_m116 22 ls st M = mj_Rn d mj_m116 23 ls (.int 0 :: st) M := mj_R0 (r := (.iconst 0, 1, 0, 0, 0)) rfl rfl
theorem s116_23 {d : Nat} {ls : mj_L} {st : List Value} {M : mj_H} : mj_Rn (d + 1) mj_m116 23 ls st M = mq_k5a (d + 1) mj_m116 26 ls M 20 (mq_cb 0 2 9 st M) := mj_R5e (r := (.invokevirtual 165, 3, 0, 20, 16482)) (z := mj_m20) rfl rfl (by decide) (by decide) rfl
theorem s116_26 {d : Nat} {ls : mj_L} {st : List Value} {M : mj_H} : mj_Rn d mj_m116 26 ls st M = mj_Rn d mj_m116 28 ls (.int 8 :: st) M := mj_R0 (r := (.bipush 8, 2, 0, 0, 0)) rfl rfl
theorem s116_28 {d : Nat} {ls : mj_L} {st : List Value} {M : mj_H} : mj_Rn d mj_m116 28 ls st M = mq_k2 d mj_m116 ls M (mj_br (.if_icmp .ne 39) 28 st) := mj_R2 (r := (.if_icmp .ne 39, 3, 0, 0, 0)) rfl rfl
theorem s116_31 {d : Nat} {ls : mj_L} {st : List Value} {M : mj_H} : mj_Rn d mj_m116 31 ls st M = mq_k0 d mj_m116 32 ls M (mj_lda (mj_lk ls 0) st) := mj_R0 (r := (.aload_n 0, 1, 0, 0, 0)) rfl rfl
theorem s116_32 {d : Nat} {ls : mj_L} {st : List Value} {M : mj_H} : mj_Rn d mj_m116 32 ls st M = mq_k0 d mj_m116 35 ls M (mq_gf 5 0 st M) := (mj_R3 (r := (.getfield 9, 3, 5, 0, 16596)) rfl rfl).trans (congrArg (mq_k0 d mj_m116 35 ls M) mq_gf_eq)
theorem s116_35 {d : Nat} {ls : mj_L} {st : List Value} {M : mj_H} : mj_Rn d mj_m116 35 ls st M = mq_k0 d mj_m116 36 ls M (mj_ldi (mj_lk ls 1) st) := mj_R0 (r := (.iload_n 1, 1, 0, 0, 0)) rfl rfl
theorem s116_36 {d : Nat} {ls : mj_L} {st : List Value} {M : mj_H} : mj_Rn d mj_m116 36 ls st M = mj_Rn d mj_m116 37 ls (.int 1 :: st) M := mj_R0 (r := (.iconst 1, 1, 0, 0, 0)) rfl rfl
theorem s116_37 {d : Nat} {ls : mj_L} {st : List Value} {M : mj_H} : mj_Rn (d + 1) mj_m116 37 ls st M = mq_k5a (d + 1) mj_m116 40 ls M 20 (mq_cb 0 2 9 st M) := mj_R5e (r := (.invokevirtual 165, 3, 0, 20, 16482)) (z := mj_m20) rfl rfl (by decide) (by decide) rfl
theorem s116_40 {d : Nat} {ls : mj_L} {st : List Value} {M : mj_H} : mj_Rn d mj_m116 40 ls st M = mq_k0 d mj_m116 41 ls M (mj_lda (mj_lk ls 0) st) := mj_R0 (r := (.aload_n 0, 1, 0, 0, 0)) rfl rfl
theorem s116_41 {d : Nat} {ls : mj_L} {st : List Value} {M : mj_H} : mj_Rn d mj_m116 41 ls st M = mq_k0 d mj_m116 44 ls M (mq_gf 5 2 st M) := (mj_R3 (r := (.getfield 22, 3, 5, 2, 16600)) rfl rfl).trans (congrArg (mq_k0 d mj_m116 44 ls M) mq_gf_eq)
theorem s116_44 {d : Nat} {ls : mj_L} {st : List Value} {M : mj_H} : mj_Rn d mj_m116 44 ls st M = mq_k0 d mj_m116 47 ls M (mq_gf 8 10 st M) := (mj_R3 (r := (.getfield 168, 3, 8, 10, 16513)) rfl rfl).trans (congrArg (mq_k0 d mj_m116 47 ls M) mq_gf_eq)
theorem s116_47 {d : Nat} {ls : mj_L} {st : List Value} {M : mj_H} : mj_Rn d mj_m116 47 ls st M = mq_k2 d mj_m116 ls M (mj_br (.if_icmp .ne 20) 47 st) := mj_R2 (r := (.if_icmp .ne 20, 3, 0, 0, 0)) rfl rfl
theorem s116_50 {d : Nat} {ls : mj_L} {st : List Value} {M : mj_H} : mj_Rn d mj_m116 50 ls st M = mq_k0 d mj_m116 51 ls M (mj_lda (mj_lk ls 0) st) := mj_R0 (r := (.aload_n 0, 1, 0, 0, 0)) rfl rfl
theorem s116_51 {d : Nat} {ls : mj_L} {st : List Value} {M : mj_H} : mj_Rn d mj_m116 51 ls st M = mq_k0 d mj_m116 54 ls M (mq_gf 5 0 st M) := (mj_R3 (r := (.getfield 9, 3, 5, 0, 16596)) rfl rfl).trans (congrArg (mq_k0 d mj_m116 54 ls M) mq_gf_eq)
theorem s116_54 {d : Nat} {ls : mj_L} {st : List Value} {M : mj_H} : mj_Rn d mj_m116 54 ls st M = mq_k0 d mj_m116 55 ls M (mj_ldi (mj_lk ls 1) st) := mj_R0 (r := (.iload_n 1, 1, 0, 0, 0)) rfl rfl
theorem s116_55 {d : Nat} {ls : mj_L} {st : List Value} {M : mj_H} : mj_Rn d mj_m116 55 ls st M = mj_Rn d mj_m116 56 ls (.int 2 :: st) M := mj_R0 (r := (.iconst 2, 1, 0, 0, 0)) rfl rfl
theorem s116_56 {d : Nat} {ls : mj_L} {st : List Value} {M : mj_H} : mj_Rn (d + 1) mj_m116 56 ls st M = mq_k5a (d + 1) mj_m116 59 ls M 20 (mq_cb 0 2 9 st M) := mj_R5e (r := (.invokevirtual 165, 3, 0, 20, 16482)) (z := mj_m20) rfl rfl (by decide) (by decide) rfl
theorem s116_59 {d : Nat} {ls : mj_L} {st : List Value} {M : mj_H} : mj_Rn d mj_m116 59 ls st M = mq_k0 d mj_m116 60 ls M (mj_ldi (mj_lk ls 2) st) := mj_R0 (r := (.iload_n 2, 1, 0, 0, 0)) rfl rfl
theorem s116_60 {d : Nat} {ls : mj_L} {st : List Value} {M : mj_H} : mj_Rn d mj_m116 60 ls st M = mq_k2 d mj_m116 ls M (mj_br (.if_icmp .ne 7) 60 st) := mj_R2 (r := (.if_icmp .ne 7, 3, 0, 0, 0)) rfl rfl
theorem s116_63 {d : Nat} {ls : mj_L} {st : List Value} {M : mj_H} : mj_Rn d mj_m116 63 ls st M = mj_Rn d mj_m116 64 ls (.int 1 :: st) M := mj_R0 (r := (.iconst 1, 1, 0, 0, 0)) rfl rfl
theorem s116_64 {d : Nat} {ls : mj_L} {st : List Value} {M : mj_H} : mj_Rn d mj_m116 64 ls st M = mj_Rn d mj_m116 68 ls st M := mj_R2 (r := (.goto 4, 3, 0, 0, 0)) rfl rfl
theorem s116_67 {d : Nat} {ls : mj_L} {st : List Value} {M : mj_H} : mj_Rn d mj_m116 67 ls st M = mj_Rn d mj_m116 68 ls (.int 0 :: st) M := mj_R0 (r := (.iconst 0, 1, 0, 0, 0)) rfl rfl
theorem s116_68 {d : Nat} {ls : mj_L} {st : List Value} {M : mj_H} : mj_Rn d mj_m116 68 ls st M = mq_k1 d mj_m116 70 M (mj_lo 5 (.istore 4) ls st) := mj_R1 (r := (.istore 4, 2, 0, 0, 0)) rfl rfl
theorem s116_70 {d : Nat} {ls : mj_L} {st : List Value} {M : mj_H} : mj_Rn d mj_m116 70 ls st M = mq_k0 d mj_m116 72 ls M (mj_ldi (mj_lk ls 4) st) := mj_R0 (r := (.iload 4, 2, 0, 0, 0)) rfl rfl
theorem s116_72 {d : Nat} {ls : mj_L} {st : List Value} {M : mj_H} : mj_Rn d mj_m116 72 ls st M = mq_k2 d mj_m116 ls M (mj_br (.ifCond .eq 8) 72 st) := mj_R2 (r := (.ifCond .eq 8, 3, 0, 0, 0)) rfl rfl
theorem s116_75 {d : Nat} {ls : mj_L} {st : List Value} {M : mj_H} : mj_Rn d mj_m116 75 ls st M = mj_Rn d mj_m116 77 ls (.int (-2) :: st) M := mj_R0 (r := (.bipush (-2), 2, 0, 0, 0)) rfl rfl
theorem s116_77 {d : Nat} {ls : mj_L} {st : List Value} {M : mj_H} : mj_Rn d mj_m116 77 ls st M = mj_Rn d mj_m116 81 ls st M := mj_R2 (r := (.goto 4, 3, 0, 0, 0)) rfl rfl
theorem s116_80 {d : Nat} {ls : mj_L} {st : List Value} {M : mj_H} : mj_Rn d mj_m116 80 ls st M = mj_Rn d mj_m116 81 ls (.int (-1) :: st) M := mj_R0 (r := (.iconst (-1), 1, 0, 0, 0)) rfl rfl
theorem s116_81 {d : Nat} {ls : mj_L} {st : List Value} {M : mj_H} : mj_Rn d mj_m116 81 ls st M = mq_k6 M (mj_re (some .int) (.ireturn) st) := mj_R6 (r := (.ireturn, 1, 0, 0, 0)) rfl rfl
/- 114 PasskeyHouse$Key.firstOwn(II)I -/
theorem s114_0 {d : Nat} {ls : mj_L} {st : List Value} {M : mj_H} : mj_Rn d mj_m114 0 ls st M = mq_k0 d mj_m114 1 ls M (mj_ldi (mj_lk ls 1) st) := mj_R0 (r := (.iload_n 1, 1, 0, 0, 0)) rfl rfl
theorem s114_1 {d : Nat} {ls : mj_L} {st : List Value} {M : mj_H} : mj_Rn d mj_m114 1 ls st M = mj_Rn d mj_m114 2 ls (.int 1 :: st) M := mj_R0 (r := (.iconst 1, 1, 0, 0, 0)) rfl rfl
theorem s114_2 {d : Nat} {ls : mj_L} {st : List Value} {M : mj_H} : mj_Rn d mj_m114 2 ls st M = mq_k0 d mj_m114 3 ls M (mj_pu .iadd ls st) := mj_R0 (r := (.iadd, 1, 0, 0, 0)) rfl rfl
theorem s114_3 {d : Nat} {ls : mj_L} {st : List Value} {M : mj_H} : mj_Rn d mj_m114 3 ls st M = mq_k1 d mj_m114 4 M (mj_lo 6 (.istore 3) ls st) := (mj_R1 (r := (.istore_n 3, 1, 0, 0, 0)) rfl rfl).trans (congrArg (mq_k1 d mj_m114 4 M) (mq_sti (k := 3)))
theorem s114_4 {d : Nat} {ls : mj_L} {st : List Value} {M : mj_H} : mj_Rn d mj_m114 4 ls st M = mj_Rn d mj_m114 5 ls (.int 0 :: st) M := mj_R0 (r := (.iconst 0, 1, 0, 0, 0)) rfl rfl
theorem s114_5 {d : Nat} {ls : mj_L} {st : List Value} {M : mj_H} : mj_Rn d mj_m114 5 ls st M = mq_k1 d mj_m114 7 M (mj_lo 6 (.istore 4) ls st) := mj_R1 (r := (.istore 4, 2, 0, 0, 0)) rfl rfl
theorem s114_7 {d : Nat} {ls : mj_L} {st : List Value} {M : mj_H} : mj_Rn d mj_m114 7 ls st M = mq_k0 d mj_m114 9 ls M (mj_ldi (mj_lk ls 4) st) := mj_R0 (r := (.iload 4, 2, 0, 0, 0)) rfl rfl
theorem s114_9 {d : Nat} {ls : mj_L} {st : List Value} {M : mj_H} : mj_Rn d mj_m114 9 ls st M = mq_k0 d mj_m114 10 ls M (mj_lda (mj_lk ls 0) st) := mj_R0 (r := (.aload_n 0, 1, 0, 0, 0)) rfl rfl
theorem s114_10 {d : Nat} {ls : mj_L} {st : List Value} {M : mj_H} : mj_Rn d mj_m114 10 ls st M = mq_k0 d mj_m114 13 ls M (mq_gf 5 1 st M) := (mj_R3 (r := (.getfield 15, 3, 5, 1, 16598)) rfl rfl).trans (congrArg (mq_k0 d mj_m114 13 ls M) mq_gf_eq)
theorem s114_13 {d : Nat} {ls : mj_L} {st : List Value} {M : mj_H} : mj_Rn d mj_m114 13 ls st M = mq_k0 d mj_m114 14 ls M (mj_ldi (mj_lk ls 1) st) := mj_R0 (r := (.iload_n 1, 1, 0, 0, 0)) rfl rfl
theorem s114_14 {d : Nat} {ls : mj_L} {st : List Value} {M : mj_H} : mj_Rn (d + 1) mj_m114 14 ls st M = mq_k5a (d + 1) mj_m114 17 ls M 88 (mq_cb 0 1 4 st M) := mj_R5e (r := (.invokevirtual 154, 3, 0, 88, 16458)) (z := mj_m88) rfl rfl (by decide) (by decide) rfl
theorem s114_17 {d : Nat} {ls : mj_L} {st : List Value} {M : mj_H} : mj_Rn d mj_m114 17 ls st M = mq_k2 d mj_m114 ls M (mj_br (.if_icmp .ge 62) 17 st) := mj_R2 (r := (.if_icmp .ge 62, 3, 0, 0, 0)) rfl rfl
theorem s114_20 {d : Nat} {ls : mj_L} {st : List Value} {M : mj_H} : mj_Rn d mj_m114 20 ls st M = mq_k0 d mj_m114 21 ls M (mj_lda (mj_lk ls 0) st) := mj_R0 (r := (.aload_n 0, 1, 0, 0, 0)) rfl rfl
theorem s114_21 {d : Nat} {ls : mj_L} {st : List Value} {M : mj_H} : mj_Rn d mj_m114 21 ls st M = mq_k0 d mj_m114 24 ls M (mq_gf 5 1 st M) := (mj_R3 (r := (.getfield 15, 3, 5, 1, 16598)) rfl rfl).trans (congrArg (mq_k0 d mj_m114 24 ls M) mq_gf_eq)
theorem s114_24 {d : Nat} {ls : mj_L} {st : List Value} {M : mj_H} : mj_Rn d mj_m114 24 ls st M = mq_k0 d mj_m114 25 ls M (mj_lda (mj_lk ls 0) st) := mj_R0 (r := (.aload_n 0, 1, 0, 0, 0)) rfl rfl
theorem s114_25 {d : Nat} {ls : mj_L} {st : List Value} {M : mj_H} : mj_Rn d mj_m114 25 ls st M = mq_k0 d mj_m114 28 ls M (mq_gf 5 1 st M) := (mj_R3 (r := (.getfield 15, 3, 5, 1, 16598)) rfl rfl).trans (congrArg (mq_k0 d mj_m114 28 ls M) mq_gf_eq)
theorem s114_28 {d : Nat} {ls : mj_L} {st : List Value} {M : mj_H} : mj_Rn d mj_m114 28 ls st M = mq_k0 d mj_m114 29 ls M (mj_ldi (mj_lk ls 3) st) := mj_R0 (r := (.iload_n 3, 1, 0, 0, 0)) rfl rfl
theorem s114_29 {d : Nat} {ls : mj_L} {st : List Value} {M : mj_H} : mj_Rn d mj_m114 29 ls st M = mj_Rn d mj_m114 31 ls (.ref 3 :: st) M := mj_R3 (r := (.ldc 171, 2, 2, 8, 12497)) rfl rfl
theorem s114_31 {d : Nat} {ls : mj_L} {st : List Value} {M : mj_H} : mj_Rn (d + 1) mj_m114 31 ls st M = mq_k5a (d + 1) mj_m114 34 ls M 90 (mq_cb 0 2 4 st M) := mj_R5e (r := (.invokevirtual 173, 3, 0, 90, 12498)) (z := mj_m90) rfl rfl (by decide) (by decide) rfl
theorem s114_34 {d : Nat} {ls : mj_L} {st : List Value} {M : mj_H} : mj_Rn (d + 1) mj_m114 34 ls st M = mq_k5a (d + 1) mj_m114 37 ls M 109 (mq_cb 0 1 4 st M) := mj_R5e (r := (.invokevirtual 177, 3, 0, 109, 16440)) (z := mj_m109) rfl rfl (by decide) (by decide) rfl
theorem s114_37 {d : Nat} {ls : mj_L} {st : List Value} {M : mj_H} : mj_Rn d mj_m114 37 ls st M = mq_k1 d mj_m114 39 M (mj_lo 6 (.istore 5) ls st) := mj_R1 (r := (.istore 5, 2, 0, 0, 0)) rfl rfl
theorem s114_39 {d : Nat} {ls : mj_L} {st : List Value} {M : mj_H} : mj_Rn d mj_m114 39 ls st M = mq_k0 d mj_m114 40 ls M (mj_lda (mj_lk ls 0) st) := mj_R0 (r := (.aload_n 0, 1, 0, 0, 0)) rfl rfl
theorem s114_40 {d : Nat} {ls : mj_L} {st : List Value} {M : mj_H} : mj_Rn d mj_m114 40 ls st M = mq_k0 d mj_m114 43 ls M (mq_gf 5 1 st M) := (mj_R3 (r := (.getfield 15, 3, 5, 1, 16598)) rfl rfl).trans (congrArg (mq_k0 d mj_m114 43 ls M) mq_gf_eq)
theorem s114_43 {d : Nat} {ls : mj_L} {st : List Value} {M : mj_H} : mj_Rn d mj_m114 43 ls st M = mq_k0 d mj_m114 44 ls M (mj_ldi (mj_lk ls 3) st) := mj_R0 (r := (.iload_n 3, 1, 0, 0, 0)) rfl rfl
theorem s114_44 {d : Nat} {ls : mj_L} {st : List Value} {M : mj_H} : mj_Rn (d + 1) mj_m114 44 ls st M = mq_k5a (d + 1) mj_m114 47 ls M 115 (mq_cb 0 1 4 st M) := mj_R5e (r := (.invokevirtual 180, 3, 0, 115, 16469)) (z := mj_m115) rfl rfl (by decide) (by decide) rfl
theorem s114_47 {d : Nat} {ls : mj_L} {st : List Value} {M : mj_H} : mj_Rn d mj_m114 47 ls st M = mq_k2 d mj_m114 ls M (mj_br (.ifCond .eq 17) 47 st) := mj_R2 (r := (.ifCond .eq 17, 3, 0, 0, 0)) rfl rfl
theorem s114_50 {d : Nat} {ls : mj_L} {st : List Value} {M : mj_H} : mj_Rn d mj_m114 50 ls st M = mq_k0 d mj_m114 51 ls M (mj_lda (mj_lk ls 0) st) := mj_R0 (r := (.aload_n 0, 1, 0, 0, 0)) rfl rfl
theorem s114_51 {d : Nat} {ls : mj_L} {st : List Value} {M : mj_H} : mj_Rn d mj_m114 51 ls st M = mq_k0 d mj_m114 53 ls M (mj_ldi (mj_lk ls 5) st) := mj_R0 (r := (.iload 5, 2, 0, 0, 0)) rfl rfl
theorem s114_53 {d : Nat} {ls : mj_L} {st : List Value} {M : mj_H} : mj_Rn d mj_m114 53 ls st M = mq_k0 d mj_m114 54 ls M (mj_ldi (mj_lk ls 2) st) := mj_R0 (r := (.iload_n 2, 1, 0, 0, 0)) rfl rfl
theorem s114_54 {d : Nat} {ls : mj_L} {st : List Value} {M : mj_H} : mj_Rn (d + 1) mj_m114 54 ls st M = mq_k5a (d + 1) mj_m114 57 ls M 116 (mq_cb 0 2 5 st M) := mj_R5e (r := (.invokevirtual 184, 3, 0, 116, 16474)) (z := mj_m116) rfl rfl (by decide) (by decide) rfl
theorem s114_57 {d : Nat} {ls : mj_L} {st : List Value} {M : mj_H} : mj_Rn d mj_m114 57 ls st M = mj_Rn d mj_m114 58 ls (.int (-1) :: st) M := mj_R0 (r := (.iconst (-1), 1, 0, 0, 0)) rfl rfl
theorem s114_58 {d : Nat} {ls : mj_L} {st : List Value} {M : mj_H} : mj_Rn d mj_m114 58 ls st M = mq_k2 d mj_m114 ls M (mj_br (.if_icmp .eq 6) 58 st) := mj_R2 (r := (.if_icmp .eq 6, 3, 0, 0, 0)) rfl rfl
theorem s114_61 {d : Nat} {ls : mj_L} {st : List Value} {M : mj_H} : mj_Rn d mj_m114 61 ls st M = mq_k0 d mj_m114 63 ls M (mj_ldi (mj_lk ls 5) st) := mj_R0 (r := (.iload 5, 2, 0, 0, 0)) rfl rfl
theorem s114_63 {d : Nat} {ls : mj_L} {st : List Value} {M : mj_H} : mj_Rn d mj_m114 63 ls st M = mq_k6 M (mj_re (some .int) (.ireturn) st) := mj_R6 (r := (.ireturn, 1, 0, 0, 0)) rfl rfl
theorem s114_64 {d : Nat} {ls : mj_L} {st : List Value} {M : mj_H} : mj_Rn d mj_m114 64 ls st M = mq_k0 d mj_m114 65 ls M (mj_lda (mj_lk ls 0) st) := mj_R0 (r := (.aload_n 0, 1, 0, 0, 0)) rfl rfl
theorem s114_65 {d : Nat} {ls : mj_L} {st : List Value} {M : mj_H} : mj_Rn d mj_m114 65 ls st M = mq_k0 d mj_m114 68 ls M (mq_gf 5 1 st M) := (mj_R3 (r := (.getfield 15, 3, 5, 1, 16598)) rfl rfl).trans (congrArg (mq_k0 d mj_m114 68 ls M) mq_gf_eq)
theorem s114_68 {d : Nat} {ls : mj_L} {st : List Value} {M : mj_H} : mj_Rn d mj_m114 68 ls st M = mq_k0 d mj_m114 69 ls M (mj_ldi (mj_lk ls 3) st) := mj_R0 (r := (.iload_n 3, 1, 0, 0, 0)) rfl rfl
theorem s114_69 {d : Nat} {ls : mj_L} {st : List Value} {M : mj_H} : mj_Rn (d + 1) mj_m114 69 ls st M = mq_k5a (d + 1) mj_m114 72 ls M 89 (mq_cb 0 1 4 st M) := mj_R5e (r := (.invokevirtual 187, 3, 0, 89, 16483)) (z := mj_m89) rfl rfl (by decide) (by decide) rfl
theorem s114_72 {d : Nat} {ls : mj_L} {st : List Value} {M : mj_H} : mj_Rn d mj_m114 72 ls st M = mq_k1 d mj_m114 73 M (mj_lo 6 (.istore 3) ls st) := (mj_R1 (r := (.istore_n 3, 1, 0, 0, 0)) rfl rfl).trans (congrArg (mq_k1 d mj_m114 73 M) (mq_sti (k := 3)))
theorem s114_73 {d : Nat} {ls : mj_L} {st : List Value} {M : mj_H} : mj_Rn d mj_m114 73 ls st M = mq_k1 d mj_m114 76 M (mj_lo 6 (.iinc 4 1) ls st) := mj_R1 (r := (.iinc 4 1, 3, 0, 0, 0)) rfl rfl
theorem s114_76 {d : Nat} {ls : mj_L} {st : List Value} {M : mj_H} : mj_Rn d mj_m114 76 ls st M = mj_Rn d mj_m114 7 ls st M := mj_R2 (r := (.goto (-69), 3, 0, 0, 0)) rfl rfl
theorem s114_79 {d : Nat} {ls : mj_L} {st : List Value} {M : mj_H} : mj_Rn d mj_m114 79 ls st M = mj_Rn d mj_m114 80 ls (.int 0 :: st) M := mj_R0 (r := (.iconst 0, 1, 0, 0, 0)) rfl rfl
theorem s114_80 {d : Nat} {ls : mj_L} {st : List Value} {M : mj_H} : mj_Rn d mj_m114 80 ls st M = mq_k6 M (mj_re (some .int) (.ireturn) st) := mj_R6 (r := (.ireturn, 1, 0, 0, 0)) rfl rfl
/- 119 PasskeyHouse$Key.hasAlgorithm(I)Z -/
theorem s119_0 {d : Nat} {ls : mj_L} {st : List Value} {M : mj_H} : mj_Rn d mj_m119 0 ls st M = mq_k0 d mj_m119 1 ls M (mj_ldi (mj_lk ls 1) st) := mj_R0 (r := (.iload_n 1, 1, 0, 0, 0)) rfl rfl
theorem s119_1 {d : Nat} {ls : mj_L} {st : List Value} {M : mj_H} : mj_Rn d mj_m119 1 ls st M = mj_Rn d mj_m119 2 ls (.int 1 :: st) M := mj_R0 (r := (.iconst 1, 1, 0, 0, 0)) rfl rfl
theorem s119_2 {d : Nat} {ls : mj_L} {st : List Value} {M : mj_H} : mj_Rn d mj_m119 2 ls st M = mq_k0 d mj_m119 3 ls M (mj_pu .iadd ls st) := mj_R0 (r := (.iadd, 1, 0, 0, 0)) rfl rfl
theorem s119_3 {d : Nat} {ls : mj_L} {st : List Value} {M : mj_H} : mj_Rn d mj_m119 3 ls st M = mq_k1 d mj_m119 4 M (mj_lo 6 (.istore 2) ls st) := (mj_R1 (r := (.istore_n 2, 1, 0, 0, 0)) rfl rfl).trans (congrArg (mq_k1 d mj_m119 4 M) (mq_sti (k := 2)))
theorem s119_4 {d : Nat} {ls : mj_L} {st : List Value} {M : mj_H} : mj_Rn d mj_m119 4 ls st M = mj_Rn d mj_m119 5 ls (.int 0 :: st) M := mj_R0 (r := (.iconst 0, 1, 0, 0, 0)) rfl rfl
theorem s119_5 {d : Nat} {ls : mj_L} {st : List Value} {M : mj_H} : mj_Rn d mj_m119 5 ls st M = mq_k1 d mj_m119 6 M (mj_lo 6 (.istore 3) ls st) := (mj_R1 (r := (.istore_n 3, 1, 0, 0, 0)) rfl rfl).trans (congrArg (mq_k1 d mj_m119 6 M) (mq_sti (k := 3)))
theorem s119_6 {d : Nat} {ls : mj_L} {st : List Value} {M : mj_H} : mj_Rn d mj_m119 6 ls st M = mq_k0 d mj_m119 7 ls M (mj_ldi (mj_lk ls 3) st) := mj_R0 (r := (.iload_n 3, 1, 0, 0, 0)) rfl rfl
theorem s119_7 {d : Nat} {ls : mj_L} {st : List Value} {M : mj_H} : mj_Rn d mj_m119 7 ls st M = mq_k0 d mj_m119 8 ls M (mj_lda (mj_lk ls 0) st) := mj_R0 (r := (.aload_n 0, 1, 0, 0, 0)) rfl rfl
theorem s119_8 {d : Nat} {ls : mj_L} {st : List Value} {M : mj_H} : mj_Rn d mj_m119 8 ls st M = mq_k0 d mj_m119 11 ls M (mq_gf 5 1 st M) := (mj_R3 (r := (.getfield 15, 3, 5, 1, 16598)) rfl rfl).trans (congrArg (mq_k0 d mj_m119 11 ls M) mq_gf_eq)
theorem s119_11 {d : Nat} {ls : mj_L} {st : List Value} {M : mj_H} : mj_Rn d mj_m119 11 ls st M = mq_k0 d mj_m119 12 ls M (mj_ldi (mj_lk ls 1) st) := mj_R0 (r := (.iload_n 1, 1, 0, 0, 0)) rfl rfl
theorem s119_12 {d : Nat} {ls : mj_L} {st : List Value} {M : mj_H} : mj_Rn (d + 1) mj_m119 12 ls st M = mq_k5a (d + 1) mj_m119 15 ls M 88 (mq_cb 0 1 4 st M) := mj_R5e (r := (.invokevirtual 154, 3, 0, 88, 16458)) (z := mj_m88) rfl rfl (by decide) (by decide) rfl
theorem s119_15 {d : Nat} {ls : mj_L} {st : List Value} {M : mj_H} : mj_Rn d mj_m119 15 ls st M = mq_k2 d mj_m119 ls M (mj_br (.if_icmp .ge 83) 15 st) := mj_R2 (r := (.if_icmp .ge 83, 3, 0, 0, 0)) rfl rfl
theorem s119_18 {d : Nat} {ls : mj_L} {st : List Value} {M : mj_H} : mj_Rn d mj_m119 18 ls st M = mq_k0 d mj_m119 19 ls M (mj_lda (mj_lk ls 0) st) := mj_R0 (r := (.aload_n 0, 1, 0, 0, 0)) rfl rfl
theorem s119_19 {d : Nat} {ls : mj_L} {st : List Value} {M : mj_H} : mj_Rn d mj_m119 19 ls st M = mq_k0 d mj_m119 22 ls M (mq_gf 5 1 st M) := (mj_R3 (r := (.getfield 15, 3, 5, 1, 16598)) rfl rfl).trans (congrArg (mq_k0 d mj_m119 22 ls M) mq_gf_eq)
theorem s119_22 {d : Nat} {ls : mj_L} {st : List Value} {M : mj_H} : mj_Rn d mj_m119 22 ls st M = mq_k0 d mj_m119 23 ls M (mj_ldi (mj_lk ls 2) st) := mj_R0 (r := (.iload_n 2, 1, 0, 0, 0)) rfl rfl
theorem s119_23 {d : Nat} {ls : mj_L} {st : List Value} {M : mj_H} : mj_Rn d mj_m119 23 ls st M = mj_Rn d mj_m119 26 ls (.ref 5 :: st) M := mj_R3 (r := (.ldc_w 261, 3, 2, 11, 16418)) rfl rfl
theorem s119_26 {d : Nat} {ls : mj_L} {st : List Value} {M : mj_H} : mj_Rn (d + 1) mj_m119 26 ls st M = mq_k5a (d + 1) mj_m119 29 ls M 90 (mq_cb 0 2 4 st M) := mj_R5e (r := (.invokevirtual 173, 3, 0, 90, 12498)) (z := mj_m90) rfl rfl (by decide) (by decide) rfl
theorem s119_29 {d : Nat} {ls : mj_L} {st : List Value} {M : mj_H} : mj_Rn d mj_m119 29 ls st M = mq_k1 d mj_m119 31 M (mj_lo 6 (.istore 4) ls st) := mj_R1 (r := (.istore 4, 2, 0, 0, 0)) rfl rfl
theorem s119_31 {d : Nat} {ls : mj_L} {st : List Value} {M : mj_H} : mj_Rn d mj_m119 31 ls st M = mq_k0 d mj_m119 32 ls M (mj_lda (mj_lk ls 0) st) := mj_R0 (r := (.aload_n 0, 1, 0, 0, 0)) rfl rfl
theorem s119_32 {d : Nat} {ls : mj_L} {st : List Value} {M : mj_H} : mj_Rn d mj_m119 32 ls st M = mq_k0 d mj_m119 35 ls M (mq_gf 5 1 st M) := (mj_R3 (r := (.getfield 15, 3, 5, 1, 16598)) rfl rfl).trans (congrArg (mq_k0 d mj_m119 35 ls M) mq_gf_eq)
theorem s119_35 {d : Nat} {ls : mj_L} {st : List Value} {M : mj_H} : mj_Rn d mj_m119 35 ls st M = mq_k0 d mj_m119 37 ls M (mj_ldi (mj_lk ls 4) st) := mj_R0 (r := (.iload 4, 2, 0, 0, 0)) rfl rfl
theorem s119_37 {d : Nat} {ls : mj_L} {st : List Value} {M : mj_H} : mj_Rn (d + 1) mj_m119 37 ls st M = mq_k5a (d + 1) mj_m119 40 ls M 84 (mq_cb 0 1 4 st M) := mj_R5e (r := (.invokevirtual 136, 3, 0, 84, 12476)) (z := mj_m84) rfl rfl (by decide) (by decide) rfl
theorem s119_40 {d : Nat} {ls : mj_L} {st : List Value} {M : mj_H} : mj_Rn d mj_m119 40 ls st M = mj_Rn d mj_m119 41 ls (.int 1 :: st) M := mj_R0 (r := (.iconst 1, 1, 0, 0, 0)) rfl rfl
theorem s119_41 {d : Nat} {ls : mj_L} {st : List Value} {M : mj_H} : mj_Rn d mj_m119 41 ls st M = mq_k2 d mj_m119 ls M (mj_br (.if_icmp .ne 21) 41 st) := mj_R2 (r := (.if_icmp .ne 21, 3, 0, 0, 0)) rfl rfl
theorem s119_44 {d : Nat} {ls : mj_L} {st : List Value} {M : mj_H} : mj_Rn d mj_m119 44 ls st M = mq_k0 d mj_m119 45 ls M (mj_lda (mj_lk ls 0) st) := mj_R0 (r := (.aload_n 0, 1, 0, 0, 0)) rfl rfl
theorem s119_45 {d : Nat} {ls : mj_L} {st : List Value} {M : mj_H} : mj_Rn d mj_m119 45 ls st M = mq_k0 d mj_m119 48 ls M (mq_gf 5 1 st M) := (mj_R3 (r := (.getfield 15, 3, 5, 1, 16598)) rfl rfl).trans (congrArg (mq_k0 d mj_m119 48 ls M) mq_gf_eq)
theorem s119_48 {d : Nat} {ls : mj_L} {st : List Value} {M : mj_H} : mj_Rn d mj_m119 48 ls st M = mq_k0 d mj_m119 50 ls M (mj_ldi (mj_lk ls 4) st) := mj_R0 (r := (.iload 4, 2, 0, 0, 0)) rfl rfl
theorem s119_50 {d : Nat} {ls : mj_L} {st : List Value} {M : mj_H} : mj_Rn (d + 1) mj_m119 50 ls st M = mq_k5a (d + 1) mj_m119 53 ls M 88 (mq_cb 0 1 4 st M) := mj_R5e (r := (.invokevirtual 154, 3, 0, 88, 16458)) (z := mj_m88) rfl rfl (by decide) (by decide) rfl
theorem s119_53 {d : Nat} {ls : mj_L} {st : List Value} {M : mj_H} : mj_Rn d mj_m119 53 ls st M = mj_Rn d mj_m119 55 ls (.int 6 :: st) M := mj_R0 (r := (.bipush 6, 2, 0, 0, 0)) rfl rfl
theorem s119_55 {d : Nat} {ls : mj_L} {st : List Value} {M : mj_H} : mj_Rn d mj_m119 55 ls st M = mq_k2 d mj_m119 ls M (mj_br (.if_icmp .ne 7) 55 st) := mj_R2 (r := (.if_icmp .ne 7, 3, 0, 0, 0)) rfl rfl
theorem s119_58 {d : Nat} {ls : mj_L} {st : List Value} {M : mj_H} : mj_Rn d mj_m119 58 ls st M = mj_Rn d mj_m119 59 ls (.int 1 :: st) M := mj_R0 (r := (.iconst 1, 1, 0, 0, 0)) rfl rfl
theorem s119_59 {d : Nat} {ls : mj_L} {st : List Value} {M : mj_H} : mj_Rn d mj_m119 59 ls st M = mj_Rn d mj_m119 63 ls st M := mj_R2 (r := (.goto 4, 3, 0, 0, 0)) rfl rfl
theorem s119_62 {d : Nat} {ls : mj_L} {st : List Value} {M : mj_H} : mj_Rn d mj_m119 62 ls st M = mj_Rn d mj_m119 63 ls (.int 0 :: st) M := mj_R0 (r := (.iconst 0, 1, 0, 0, 0)) rfl rfl
theorem s119_63 {d : Nat} {ls : mj_L} {st : List Value} {M : mj_H} : mj_Rn d mj_m119 63 ls st M = mq_k1 d mj_m119 65 M (mj_lo 6 (.istore 5) ls st) := mj_R1 (r := (.istore 5, 2, 0, 0, 0)) rfl rfl
theorem s119_65 {d : Nat} {ls : mj_L} {st : List Value} {M : mj_H} : mj_Rn d mj_m119 65 ls st M = mq_k0 d mj_m119 67 ls M (mj_ldi (mj_lk ls 5) st) := mj_R0 (r := (.iload 5, 2, 0, 0, 0)) rfl rfl
theorem s119_67 {d : Nat} {ls : mj_L} {st : List Value} {M : mj_H} : mj_Rn d mj_m119 67 ls st M = mq_k2 d mj_m119 ls M (mj_br (.ifCond .eq 16) 67 st) := mj_R2 (r := (.ifCond .eq 16, 3, 0, 0, 0)) rfl rfl
theorem s119_70 {d : Nat} {ls : mj_L} {st : List Value} {M : mj_H} : mj_Rn d mj_m119 70 ls st M = mq_k0 d mj_m119 71 ls M (mj_lda (mj_lk ls 0) st) := mj_R0 (r := (.aload_n 0, 1, 0, 0, 0)) rfl rfl
theorem s119_71 {d : Nat} {ls : mj_L} {st : List Value} {M : mj_H} : mj_Rn d mj_m119 71 ls st M = mq_k0 d mj_m119 74 ls M (mq_gf 5 1 st M) := (mj_R3 (r := (.getfield 15, 3, 5, 1, 16598)) rfl rfl).trans (congrArg (mq_k0 d mj_m119 74 ls M) mq_gf_eq)
theorem s119_74 {d : Nat} {ls : mj_L} {st : List Value} {M : mj_H} : mj_Rn d mj_m119 74 ls st M = mq_k0 d mj_m119 75 ls M (mj_ldi (mj_lk ls 2) st) := mj_R0 (r := (.iload_n 2, 1, 0, 0, 0)) rfl rfl
theorem s119_75 {d : Nat} {ls : mj_L} {st : List Value} {M : mj_H} : mj_Rn (d + 1) mj_m119 75 ls st M = mq_k5a (d + 1) mj_m119 78 ls M 115 (mq_cb 0 1 4 st M) := mj_R5e (r := (.invokevirtual 180, 3, 0, 115, 16469)) (z := mj_m115) rfl rfl (by decide) (by decide) rfl
theorem s119_78 {d : Nat} {ls : mj_L} {st : List Value} {M : mj_H} : mj_Rn d mj_m119 78 ls st M = mq_k2 d mj_m119 ls M (mj_br (.ifCond .eq 5) 78 st) := mj_R2 (r := (.ifCond .eq 5, 3, 0, 0, 0)) rfl rfl
theorem s119_81 {d : Nat} {ls : mj_L} {st : List Value} {M : mj_H} : mj_Rn d mj_m119 81 ls st M = mj_Rn d mj_m119 82 ls (.int 1 :: st) M := mj_R0 (r := (.iconst 1, 1, 0, 0, 0)) rfl rfl
theorem s119_82 {d : Nat} {ls : mj_L} {st : List Value} {M : mj_H} : mj_Rn d mj_m119 82 ls st M = mq_k6 M (mj_re (some .boolean) (.ireturn) st) := mj_R6 (r := (.ireturn, 1, 0, 0, 0)) rfl rfl
theorem s119_83 {d : Nat} {ls : mj_L} {st : List Value} {M : mj_H} : mj_Rn d mj_m119 83 ls st M = mq_k0 d mj_m119 84 ls M (mj_lda (mj_lk ls 0) st) := mj_R0 (r := (.aload_n 0, 1, 0, 0, 0)) rfl rfl
theorem s119_84 {d : Nat} {ls : mj_L} {st : List Value} {M : mj_H} : mj_Rn d mj_m119 84 ls st M = mq_k0 d mj_m119 87 ls M (mq_gf 5 1 st M) := (mj_R3 (r := (.getfield 15, 3, 5, 1, 16598)) rfl rfl).trans (congrArg (mq_k0 d mj_m119 87 ls M) mq_gf_eq)
theorem s119_87 {d : Nat} {ls : mj_L} {st : List Value} {M : mj_H} : mj_Rn d mj_m119 87 ls st M = mq_k0 d mj_m119 88 ls M (mj_ldi (mj_lk ls 2) st) := mj_R0 (r := (.iload_n 2, 1, 0, 0, 0)) rfl rfl
theorem s119_88 {d : Nat} {ls : mj_L} {st : List Value} {M : mj_H} : mj_Rn (d + 1) mj_m119 88 ls st M = mq_k5a (d + 1) mj_m119 91 ls M 89 (mq_cb 0 1 4 st M) := mj_R5e (r := (.invokevirtual 187, 3, 0, 89, 16483)) (z := mj_m89) rfl rfl (by decide) (by decide) rfl
theorem s119_91 {d : Nat} {ls : mj_L} {st : List Value} {M : mj_H} : mj_Rn d mj_m119 91 ls st M = mq_k1 d mj_m119 92 M (mj_lo 6 (.istore 2) ls st) := (mj_R1 (r := (.istore_n 2, 1, 0, 0, 0)) rfl rfl).trans (congrArg (mq_k1 d mj_m119 92 M) (mq_sti (k := 2)))
theorem s119_92 {d : Nat} {ls : mj_L} {st : List Value} {M : mj_H} : mj_Rn d mj_m119 92 ls st M = mq_k1 d mj_m119 95 M (mj_lo 6 (.iinc 3 1) ls st) := mj_R1 (r := (.iinc 3 1, 3, 0, 0, 0)) rfl rfl
theorem s119_95 {d : Nat} {ls : mj_L} {st : List Value} {M : mj_H} : mj_Rn d mj_m119 95 ls st M = mj_Rn d mj_m119 6 ls st M := mj_R2 (r := (.goto (-89), 3, 0, 0, 0)) rfl rfl
theorem s119_98 {d : Nat} {ls : mj_L} {st : List Value} {M : mj_H} : mj_Rn d mj_m119 98 ls st M = mj_Rn d mj_m119 99 ls (.int 0 :: st) M := mj_R0 (r := (.iconst 0, 1, 0, 0, 0)) rfl rfl
theorem s119_99 {d : Nat} {ls : mj_L} {st : List Value} {M : mj_H} : mj_Rn d mj_m119 99 ls st M = mq_k6 M (mj_re (some .boolean) (.ireturn) st) := mj_R6 (r := (.ireturn, 1, 0, 0, 0)) rfl rfl
/- 121 PasskeyHouse$Key.pinTest(III)I -/
theorem s121_0 {d : Nat} {ls : mj_L} {st : List Value} {M : mj_H} : mj_Rn d mj_m121 0 ls st M = mq_k0 d mj_m121 1 ls M (mj_lda (mj_lk ls 0) st) := mj_R0 (r := (.aload_n 0, 1, 0, 0, 0)) rfl rfl
theorem s121_1 {d : Nat} {ls : mj_L} {st : List Value} {M : mj_H} : mj_Rn d mj_m121 1 ls st M = mq_k0 d mj_m121 4 ls M (mq_gf 5 1 st M) := (mj_R3 (r := (.getfield 15, 3, 5, 1, 16598)) rfl rfl).trans (congrArg (mq_k0 d mj_m121 4 ls M) mq_gf_eq)
theorem s121_4 {d : Nat} {ls : mj_L} {st : List Value} {M : mj_H} : mj_Rn d mj_m121 4 ls st M = mq_k0 d mj_m121 5 ls M (mj_ldi (mj_lk ls 1) st) := mj_R0 (r := (.iload_n 1, 1, 0, 0, 0)) rfl rfl
theorem s121_5 {d : Nat} {ls : mj_L} {st : List Value} {M : mj_H} : mj_Rn (d + 1) mj_m121 5 ls st M = mq_k5a (d + 1) mj_m121 8 ls M 88 (mq_cb 0 1 4 st M) := mj_R5e (r := (.invokevirtual 154, 3, 0, 88, 16458)) (z := mj_m88) rfl rfl (by decide) (by decide) rfl
theorem s121_8 {d : Nat} {ls : mj_L} {st : List Value} {M : mj_H} : mj_Rn d mj_m121 8 ls st M = mq_k2 d mj_m121 ls M (mj_br (.ifCond .ne 31) 8 st) := mj_R2 (r := (.ifCond .ne 31, 3, 0, 0, 0)) rfl rfl
theorem s121_11 {d : Nat} {ls : mj_L} {st : List Value} {M : mj_H} : mj_Rn d mj_m121 11 ls st M = mq_k0 d mj_m121 12 ls M (mj_lda (mj_lk ls 0) st) := mj_R0 (r := (.aload_n 0, 1, 0, 0, 0)) rfl rfl
theorem s121_12 {d : Nat} {ls : mj_L} {st : List Value} {M : mj_H} : mj_Rn (d + 1) mj_m121 12 ls st M = mq_k5a (d + 1) mj_m121 15 ls M 118 (mq_cb 0 0 5 st M) := mj_R5e (r := (.invokevirtual 190, 3, 0, 118, 16484)) (z := mj_m118) rfl rfl (by decide) (by decide) rfl
theorem s121_15 {d : Nat} {ls : mj_L} {st : List Value} {M : mj_H} : mj_Rn d mj_m121 15 ls st M = mq_k2 d mj_m121 ls M (mj_br (.ifCond .ne 6) 15 st) := mj_R2 (r := (.ifCond .ne 6, 3, 0, 0, 0)) rfl rfl
theorem s121_18 {d : Nat} {ls : mj_L} {st : List Value} {M : mj_H} : mj_Rn d mj_m121 18 ls st M = mj_Rn d mj_m121 20 ls (.int 39 :: st) M := mj_R0 (r := (.bipush 39, 2, 0, 0, 0)) rfl rfl
theorem s121_20 {d : Nat} {ls : mj_L} {st : List Value} {M : mj_H} : mj_Rn d mj_m121 20 ls st M = mq_k6 M (mj_re (some .int) (.ireturn) st) := mj_R6 (r := (.ireturn, 1, 0, 0, 0)) rfl rfl
theorem s121_21 {d : Nat} {ls : mj_L} {st : List Value} {M : mj_H} : mj_Rn d mj_m121 21 ls st M = mq_k0 d mj_m121 22 ls M (mj_lda (mj_lk ls 0) st) := mj_R0 (r := (.aload_n 0, 1, 0, 0, 0)) rfl rfl
theorem s121_22 {d : Nat} {ls : mj_L} {st : List Value} {M : mj_H} : mj_Rn d mj_m121 22 ls st M = mq_k0 d mj_m121 25 ls M (mq_gf 5 2 st M) := (mj_R3 (r := (.getfield 22, 3, 5, 2, 16600)) rfl rfl).trans (congrArg (mq_k0 d mj_m121 25 ls M) mq_gf_eq)
theorem s121_25 {d : Nat} {ls : mj_L} {st : List Value} {M : mj_H} : mj_Rn d mj_m121 25 ls st M = mq_k0 d mj_m121 28 ls M (mq_gf 8 11 st M) := (mj_R3 (r := (.getfield 194, 3, 8, 11, 16517)) rfl rfl).trans (congrArg (mq_k0 d mj_m121 28 ls M) mq_gf_eq)
theorem s121_28 {d : Nat} {ls : mj_L} {st : List Value} {M : mj_H} : mj_Rn d mj_m121 28 ls st M = mq_k2 d mj_m121 ls M (mj_br (.ifCond .eq 8) 28 st) := mj_R2 (r := (.ifCond .eq 8, 3, 0, 0, 0)) rfl rfl
theorem s121_31 {d : Nat} {ls : mj_L} {st : List Value} {M : mj_H} : mj_Rn d mj_m121 31 ls st M = mj_Rn d mj_m121 33 ls (.int 49 :: st) M := mj_R0 (r := (.bipush 49, 2, 0, 0, 0)) rfl rfl
theorem s121_33 {d : Nat} {ls : mj_L} {st : List Value} {M : mj_H} : mj_Rn d mj_m121 33 ls st M = mj_Rn d mj_m121 38 ls st M := mj_R2 (r := (.goto 5, 3, 0, 0, 0)) rfl rfl
theorem s121_36 {d : Nat} {ls : mj_L} {st : List Value} {M : mj_H} : mj_Rn d mj_m121 36 ls st M = mj_Rn d mj_m121 38 ls (.int 53 :: st) M := mj_R0 (r := (.bipush 53, 2, 0, 0, 0)) rfl rfl
theorem s121_38 {d : Nat} {ls : mj_L} {st : List Value} {M : mj_H} : mj_Rn d mj_m121 38 ls st M = mq_k6 M (mj_re (some .int) (.ireturn) st) := mj_R6 (r := (.ireturn, 1, 0, 0, 0)) rfl rfl
theorem s121_39 {d : Nat} {ls : mj_L} {st : List Value} {M : mj_H} : mj_Rn d mj_m121 39 ls st M = mq_k0 d mj_m121 40 ls M (mj_ldi (mj_lk ls 2) st) := mj_R0 (r := (.iload_n 2, 1, 0, 0, 0)) rfl rfl
theorem s121_40 {d : Nat} {ls : mj_L} {st : List Value} {M : mj_H} : mj_Rn d mj_m121 40 ls st M = mj_Rn d mj_m121 41 ls (.int (-1) :: st) M := mj_R0 (r := (.iconst (-1), 1, 0, 0, 0)) rfl rfl
theorem s121_41 {d : Nat} {ls : mj_L} {st : List Value} {M : mj_H} : mj_Rn d mj_m121 41 ls st M = mq_k2 d mj_m121 ls M (mj_br (.if_icmp .eq 15) 41 st) := mj_R2 (r := (.if_icmp .eq 15, 3, 0, 0, 0)) rfl rfl
theorem s121_44 {d : Nat} {ls : mj_L} {st : List Value} {M : mj_H} : mj_Rn d mj_m121 44 ls st M = mq_k0 d mj_m121 45 ls M (mj_lda (mj_lk ls 0) st) := mj_R0 (r := (.aload_n 0, 1, 0, 0, 0)) rfl rfl
theorem s121_45 {d : Nat} {ls : mj_L} {st : List Value} {M : mj_H} : mj_Rn d mj_m121 45 ls st M = mq_k0 d mj_m121 48 ls M (mq_gf 5 1 st M) := (mj_R3 (r := (.getfield 15, 3, 5, 1, 16598)) rfl rfl).trans (congrArg (mq_k0 d mj_m121 48 ls M) mq_gf_eq)
theorem s121_48 {d : Nat} {ls : mj_L} {st : List Value} {M : mj_H} : mj_Rn d mj_m121 48 ls st M = mq_k0 d mj_m121 49 ls M (mj_ldi (mj_lk ls 2) st) := mj_R0 (r := (.iload_n 2, 1, 0, 0, 0)) rfl rfl
theorem s121_49 {d : Nat} {ls : mj_L} {st : List Value} {M : mj_H} : mj_Rn (d + 1) mj_m121 49 ls st M = mq_k5a (d + 1) mj_m121 52 ls M 88 (mq_cb 0 1 4 st M) := mj_R5e (r := (.invokevirtual 154, 3, 0, 88, 16458)) (z := mj_m88) rfl rfl (by decide) (by decide) rfl
theorem s121_52 {d : Nat} {ls : mj_L} {st : List Value} {M : mj_H} : mj_Rn d mj_m121 52 ls st M = mj_Rn d mj_m121 53 ls (.int 1 :: st) M := mj_R0 (r := (.iconst 1, 1, 0, 0, 0)) rfl rfl
theorem s121_53 {d : Nat} {ls : mj_L} {st : List Value} {M : mj_H} : mj_Rn d mj_m121 53 ls st M = mq_k2 d mj_m121 ls M (mj_br (.if_icmp .eq 6) 53 st) := mj_R2 (r := (.if_icmp .eq 6, 3, 0, 0, 0)) rfl rfl
theorem s121_56 {d : Nat} {ls : mj_L} {st : List Value} {M : mj_H} : mj_Rn d mj_m121 56 ls st M = mj_Rn d mj_m121 58 ls (.int 51 :: st) M := mj_R0 (r := (.bipush 51, 2, 0, 0, 0)) rfl rfl
theorem s121_58 {d : Nat} {ls : mj_L} {st : List Value} {M : mj_H} : mj_Rn d mj_m121 58 ls st M = mq_k6 M (mj_re (some .int) (.ireturn) st) := mj_R6 (r := (.ireturn, 1, 0, 0, 0)) rfl rfl
theorem s121_59 {d : Nat} {ls : mj_L} {st : List Value} {M : mj_H} : mj_Rn d mj_m121 59 ls st M = mq_k0 d mj_m121 60 ls M (mj_lda (mj_lk ls 0) st) := mj_R0 (r := (.aload_n 0, 1, 0, 0, 0)) rfl rfl
theorem s121_60 {d : Nat} {ls : mj_L} {st : List Value} {M : mj_H} : mj_Rn d mj_m121 60 ls st M = mq_k0 d mj_m121 63 ls M (mq_gf 5 2 st M) := (mj_R3 (r := (.getfield 22, 3, 5, 2, 16600)) rfl rfl).trans (congrArg (mq_k0 d mj_m121 63 ls M) mq_gf_eq)
theorem s121_63 {d : Nat} {ls : mj_L} {st : List Value} {M : mj_H} : mj_Rn d mj_m121 63 ls st M = mq_k0 d mj_m121 66 ls M (mq_gf 8 11 st M) := (mj_R3 (r := (.getfield 194, 3, 8, 11, 16517)) rfl rfl).trans (congrArg (mq_k0 d mj_m121 66 ls M) mq_gf_eq)
theorem s121_66 {d : Nat} {ls : mj_L} {st : List Value} {M : mj_H} : mj_Rn d mj_m121 66 ls st M = mq_k2 d mj_m121 ls M (mj_br (.ifCond .ne 6) 66 st) := mj_R2 (r := (.ifCond .ne 6, 3, 0, 0, 0)) rfl rfl
theorem s121_69 {d : Nat} {ls : mj_L} {st : List Value} {M : mj_H} : mj_Rn d mj_m121 69 ls st M = mj_Rn d mj_m121 71 ls (.int 53 :: st) M := mj_R0 (r := (.bipush 53, 2, 0, 0, 0)) rfl rfl
theorem s121_71 {d : Nat} {ls : mj_L} {st : List Value} {M : mj_H} : mj_Rn d mj_m121 71 ls st M = mq_k6 M (mj_re (some .int) (.ireturn) st) := mj_R6 (r := (.ireturn, 1, 0, 0, 0)) rfl rfl
theorem s121_72 {d : Nat} {ls : mj_L} {st : List Value} {M : mj_H} : mj_Rn d mj_m121 72 ls st M = mq_k0 d mj_m121 73 ls M (mj_lda (mj_lk ls 0) st) := mj_R0 (r := (.aload_n 0, 1, 0, 0, 0)) rfl rfl
theorem s121_73 {d : Nat} {ls : mj_L} {st : List Value} {M : mj_H} : mj_Rn d mj_m121 73 ls st M = mq_k0 d mj_m121 76 ls M (mq_gf 5 0 st M) := (mj_R3 (r := (.getfield 9, 3, 5, 0, 16596)) rfl rfl).trans (congrArg (mq_k0 d mj_m121 76 ls M) mq_gf_eq)
theorem s121_76 {d : Nat} {ls : mj_L} {st : List Value} {M : mj_H} : mj_Rn d mj_m121 76 ls st M = mj_Rn d mj_m121 78 ls (.int 10 :: st) M := mj_R0 (r := (.bipush 10, 2, 0, 0, 0)) rfl rfl
theorem s121_78 {d : Nat} {ls : mj_L} {st : List Value} {M : mj_H} : mj_Rn (d + 1) mj_m121 78 ls st M = mq_k5a (d + 1) mj_m121 81 ls M 28 (mq_cb 0 1 9 st M) := mj_R5e (r := (.invokevirtual 145, 3, 0, 28, 16456)) (z := mj_m28) rfl rfl (by decide) (by decide) rfl
theorem s121_81 {d : Nat} {ls : mj_L} {st : List Value} {M : mj_H} : mj_Rn d mj_m121 81 ls st M = mq_k0 d mj_m121 82 ls M (mj_lda (mj_lk ls 0) st) := mj_R0 (r := (.aload_n 0, 1, 0, 0, 0)) rfl rfl
theorem s121_82 {d : Nat} {ls : mj_L} {st : List Value} {M : mj_H} : mj_Rn d mj_m121 82 ls st M = mq_k0 d mj_m121 85 ls M (mq_gf 5 0 st M) := (mj_R3 (r := (.getfield 9, 3, 5, 0, 16596)) rfl rfl).trans (congrArg (mq_k0 d mj_m121 85 ls M) mq_gf_eq)
theorem s121_85 {d : Nat} {ls : mj_L} {st : List Value} {M : mj_H} : mj_Rn d mj_m121 85 ls st M = mq_k0 d mj_m121 86 ls M (mj_lda (mj_lk ls 0) st) := mj_R0 (r := (.aload_n 0, 1, 0, 0, 0)) rfl rfl
theorem s121_86 {d : Nat} {ls : mj_L} {st : List Value} {M : mj_H} : mj_Rn d mj_m121 86 ls st M = mq_k0 d mj_m121 89 ls M (mq_gf 5 9 st M) := (mj_R3 (r := (.getfield 71, 3, 5, 9, 16618)) rfl rfl).trans (congrArg (mq_k0 d mj_m121 89 ls M) mq_gf_eq)
theorem s121_89 {d : Nat} {ls : mj_L} {st : List Value} {M : mj_H} : mj_Rn (d + 1) mj_m121 89 ls st M = mq_k5a (d + 1) mj_m121 92 ls M 29 (mq_cb 0 1 9 st M) := mj_R5e (r := (.invokevirtual 197, 3, 0, 29, 16500)) (z := mj_m29) rfl rfl (by decide) (by decide) rfl
theorem s121_92 {d : Nat} {ls : mj_L} {st : List Value} {M : mj_H} : mj_Rn d mj_m121 92 ls st M = mq_k0 d mj_m121 93 ls M (mj_lda (mj_lk ls 0) st) := mj_R0 (r := (.aload_n 0, 1, 0, 0, 0)) rfl rfl
theorem s121_93 {d : Nat} {ls : mj_L} {st : List Value} {M : mj_H} : mj_Rn d mj_m121 93 ls st M = mq_k0 d mj_m121 96 ls M (mq_gf 5 0 st M) := (mj_R3 (r := (.getfield 9, 3, 5, 0, 16596)) rfl rfl).trans (congrArg (mq_k0 d mj_m121 96 ls M) mq_gf_eq)
theorem s121_96 {d : Nat} {ls : mj_L} {st : List Value} {M : mj_H} : mj_Rn d mj_m121 96 ls st M = mq_k0 d mj_m121 97 ls M (mj_ldi (mj_lk ls 3) st) := mj_R0 (r := (.iload_n 3, 1, 0, 0, 0)) rfl rfl
theorem s121_97 {d : Nat} {ls : mj_L} {st : List Value} {M : mj_H} : mj_Rn (d + 1) mj_m121 97 ls st M = mq_k5a (d + 1) mj_m121 100 ls M 122 (mq_cb 0 1 9 st M) := mj_R5e (r := (.invokevirtual 200, 3, 0, 122, 16501)) (z := mj_m122) rfl rfl (by decide) (by decide) rfl
theorem s121_100 {d : Nat} {ls : mj_L} {st : List Value} {M : mj_H} : mj_Rn d mj_m121 100 ls st M = mq_k0 d mj_m121 101 ls M (mj_lda (mj_lk ls 0) st) := mj_R0 (r := (.aload_n 0, 1, 0, 0, 0)) rfl rfl
theorem s121_101 {d : Nat} {ls : mj_L} {st : List Value} {M : mj_H} : mj_Rn d mj_m121 101 ls st M = mq_k0 d mj_m121 102 ls M (mj_ldi (mj_lk ls 1) st) := mj_R0 (r := (.iload_n 1, 1, 0, 0, 0)) rfl rfl
theorem s121_102 {d : Nat} {ls : mj_L} {st : List Value} {M : mj_H} : mj_Rn (d + 1) mj_m121 102 ls st M = mq_k5a (d + 1) mj_m121 105 ls M 123 (mq_cb 0 1 5 st M) := mj_R5e (r := (.invokevirtual 203, 3, 0, 123, 16505)) (z := mj_m123) rfl rfl (by decide) (by decide) rfl
theorem s121_105 {d : Nat} {ls : mj_L} {st : List Value} {M : mj_H} : mj_Rn d mj_m121 105 ls st M = mq_k2 d mj_m121 ls M (mj_br (.ifCond .eq 7) 105 st) := mj_R2 (r := (.ifCond .eq 7, 3, 0, 0, 0)) rfl rfl
theorem s121_108 {d : Nat} {ls : mj_L} {st : List Value} {M : mj_H} : mj_Rn d mj_m121 108 ls st M = mj_Rn d mj_m121 109 ls (.int 0 :: st) M := mj_R0 (r := (.iconst 0, 1, 0, 0, 0)) rfl rfl
theorem s121_109 {d : Nat} {ls : mj_L} {st : List Value} {M : mj_H} : mj_Rn d mj_m121 109 ls st M = mj_Rn d mj_m121 114 ls st M := mj_R2 (r := (.goto 5, 3, 0, 0, 0)) rfl rfl
theorem s121_112 {d : Nat} {ls : mj_L} {st : List Value} {M : mj_H} : mj_Rn d mj_m121 112 ls st M = mj_Rn d mj_m121 114 ls (.int 51 :: st) M := mj_R0 (r := (.bipush 51, 2, 0, 0, 0)) rfl rfl
theorem s121_114 {d : Nat} {ls : mj_L} {st : List Value} {M : mj_H} : mj_Rn d mj_m121 114 ls st M = mq_k6 M (mj_re (some .int) (.ireturn) st) := mj_R6 (r := (.ireturn, 1, 0, 0, 0)) rfl rfl
/- 106 PasskeyHouse$Key.optionsFit(ILjava/lang/String;)Z -/
theorem s106_0 {d : Nat} {ls : mj_L} {st : List Value} {M : mj_H} : mj_Rn d mj_m106 0 ls st M = mq_k0 d mj_m106 1 ls M (mj_lda (mj_lk ls 0) st) := mj_R0 (r := (.aload_n 0, 1, 0, 0, 0)) rfl rfl
theorem s106_1 {d : Nat} {ls : mj_L} {st : List Value} {M : mj_H} : mj_Rn d mj_m106 1 ls st M = mq_k0 d mj_m106 4 ls M (mq_gf 5 1 st M) := (mj_R3 (r := (.getfield 15, 3, 5, 1, 16598)) rfl rfl).trans (congrArg (mq_k0 d mj_m106 4 ls M) mq_gf_eq)
theorem s106_4 {d : Nat} {ls : mj_L} {st : List Value} {M : mj_H} : mj_Rn d mj_m106 4 ls st M = mq_k0 d mj_m106 5 ls M (mj_ldi (mj_lk ls 1) st) := mj_R0 (r := (.iload_n 1, 1, 0, 0, 0)) rfl rfl
theorem s106_5 {d : Nat} {ls : mj_L} {st : List Value} {M : mj_H} : mj_Rn d mj_m106 5 ls st M = mj_Rn d mj_m106 6 ls (.int 5 :: st) M := mj_R0 (r := (.iconst 5, 1, 0, 0, 0)) rfl rfl
theorem s106_6 {d : Nat} {ls : mj_L} {st : List Value} {M : mj_H} : mj_Rn (d + 1) mj_m106 6 ls st M = mq_k5a (d + 1) mj_m106 9 ls M 104 (mq_cb 0 2 4 st M) := mj_R5e (r := (.invokevirtual 257, 3, 0, 104, 16414)) (z := mj_m104) rfl rfl (by decide) (by decide) rfl
theorem s106_9 {d : Nat} {ls : mj_L} {st : List Value} {M : mj_H} : mj_Rn d mj_m106 9 ls st M = mq_k2 d mj_m106 ls M (mj_br (.ifCond .eq 50) 9 st) := mj_R2 (r := (.ifCond .eq 50, 3, 0, 0, 0)) rfl rfl
theorem s106_12 {d : Nat} {ls : mj_L} {st : List Value} {M : mj_H} : mj_Rn d mj_m106 12 ls st M = mq_k0 d mj_m106 13 ls M (mj_lda (mj_lk ls 0) st) := mj_R0 (r := (.aload_n 0, 1, 0, 0, 0)) rfl rfl
theorem s106_13 {d : Nat} {ls : mj_L} {st : List Value} {M : mj_H} : mj_Rn d mj_m106 13 ls st M = mq_k0 d mj_m106 16 ls M (mq_gf 5 1 st M) := (mj_R3 (r := (.getfield 15, 3, 5, 1, 16598)) rfl rfl).trans (congrArg (mq_k0 d mj_m106 16 ls M) mq_gf_eq)
theorem s106_16 {d : Nat} {ls : mj_L} {st : List Value} {M : mj_H} : mj_Rn d mj_m106 16 ls st M = mq_k0 d mj_m106 17 ls M (mj_lda (mj_lk ls 0) st) := mj_R0 (r := (.aload_n 0, 1, 0, 0, 0)) rfl rfl
theorem s106_17 {d : Nat} {ls : mj_L} {st : List Value} {M : mj_H} : mj_Rn d mj_m106 17 ls st M = mq_k0 d mj_m106 20 ls M (mq_gf 5 1 st M) := (mj_R3 (r := (.getfield 15, 3, 5, 1, 16598)) rfl rfl).trans (congrArg (mq_k0 d mj_m106 20 ls M) mq_gf_eq)
theorem s106_20 {d : Nat} {ls : mj_L} {st : List Value} {M : mj_H} : mj_Rn d mj_m106 20 ls st M = mq_k0 d mj_m106 21 ls M (mj_ldi (mj_lk ls 1) st) := mj_R0 (r := (.iload_n 1, 1, 0, 0, 0)) rfl rfl
theorem s106_21 {d : Nat} {ls : mj_L} {st : List Value} {M : mj_H} : mj_Rn d mj_m106 21 ls st M = mq_k0 d mj_m106 22 ls M (mj_lda (mj_lk ls 2) st) := mj_R0 (r := (.aload_n 2, 1, 0, 0, 0)) rfl rfl
theorem s106_22 {d : Nat} {ls : mj_L} {st : List Value} {M : mj_H} : mj_Rn (d + 1) mj_m106 22 ls st M = mq_k5a (d + 1) mj_m106 25 ls M 90 (mq_cb 0 2 4 st M) := mj_R5e (r := (.invokevirtual 173, 3, 0, 90, 12498)) (z := mj_m90) rfl rfl (by decide) (by decide) rfl
theorem s106_25 {d : Nat} {ls : mj_L} {st : List Value} {M : mj_H} : mj_Rn d mj_m106 25 ls st M = mj_Rn d mj_m106 27 ls (.int 7 :: st) M := mj_R0 (r := (.bipush 7, 2, 0, 0, 0)) rfl rfl
theorem s106_27 {d : Nat} {ls : mj_L} {st : List Value} {M : mj_H} : mj_Rn (d + 1) mj_m106 27 ls st M = mq_k5a (d + 1) mj_m106 30 ls M 104 (mq_cb 0 2 4 st M) := mj_R5e (r := (.invokevirtual 257, 3, 0, 104, 16414)) (z := mj_m104) rfl rfl (by decide) (by decide) rfl
theorem s106_30 {d : Nat} {ls : mj_L} {st : List Value} {M : mj_H} : mj_Rn d mj_m106 30 ls st M = mq_k2 d mj_m106 ls M (mj_br (.ifCond .eq 29) 30 st) := mj_R2 (r := (.ifCond .eq 29, 3, 0, 0, 0)) rfl rfl
theorem s106_33 {d : Nat} {ls : mj_L} {st : List Value} {M : mj_H} : mj_Rn d mj_m106 33 ls st M = mq_k0 d mj_m106 34 ls M (mj_lda (mj_lk ls 0) st) := mj_R0 (r := (.aload_n 0, 1, 0, 0, 0)) rfl rfl
theorem s106_34 {d : Nat} {ls : mj_L} {st : List Value} {M : mj_H} : mj_Rn d mj_m106 34 ls st M = mq_k0 d mj_m106 37 ls M (mq_gf 5 1 st M) := (mj_R3 (r := (.getfield 15, 3, 5, 1, 16598)) rfl rfl).trans (congrArg (mq_k0 d mj_m106 37 ls M) mq_gf_eq)
theorem s106_37 {d : Nat} {ls : mj_L} {st : List Value} {M : mj_H} : mj_Rn d mj_m106 37 ls st M = mq_k0 d mj_m106 38 ls M (mj_lda (mj_lk ls 0) st) := mj_R0 (r := (.aload_n 0, 1, 0, 0, 0)) rfl rfl
theorem s106_38 {d : Nat} {ls : mj_L} {st : List Value} {M : mj_H} : mj_Rn d mj_m106 38 ls st M = mq_k0 d mj_m106 41 ls M (mq_gf 5 1 st M) := (mj_R3 (r := (.getfield 15, 3, 5, 1, 16598)) rfl rfl).trans (congrArg (mq_k0 d mj_m106 41 ls M) mq_gf_eq)
theorem s106_41 {d : Nat} {ls : mj_L} {st : List Value} {M : mj_H} : mj_Rn d mj_m106 41 ls st M = mq_k0 d mj_m106 42 ls M (mj_ldi (mj_lk ls 1) st) := mj_R0 (r := (.iload_n 1, 1, 0, 0, 0)) rfl rfl
theorem s106_42 {d : Nat} {ls : mj_L} {st : List Value} {M : mj_H} : mj_Rn d mj_m106 42 ls st M = mj_Rn d mj_m106 44 ls (.ref 11 :: st) M := mj_R3 (r := (.ldc 221, 2, 2, 9, 16431)) rfl rfl
theorem s106_44 {d : Nat} {ls : mj_L} {st : List Value} {M : mj_H} : mj_Rn (d + 1) mj_m106 44 ls st M = mq_k5a (d + 1) mj_m106 47 ls M 90 (mq_cb 0 2 4 st M) := mj_R5e (r := (.invokevirtual 173, 3, 0, 90, 12498)) (z := mj_m90) rfl rfl (by decide) (by decide) rfl
theorem s106_47 {d : Nat} {ls : mj_L} {st : List Value} {M : mj_H} : mj_Rn d mj_m106 47 ls st M = mj_Rn d mj_m106 49 ls (.int 7 :: st) M := mj_R0 (r := (.bipush 7, 2, 0, 0, 0)) rfl rfl
theorem s106_49 {d : Nat} {ls : mj_L} {st : List Value} {M : mj_H} : mj_Rn (d + 1) mj_m106 49 ls st M = mq_k5a (d + 1) mj_m106 52 ls M 104 (mq_cb 0 2 4 st M) := mj_R5e (r := (.invokevirtual 257, 3, 0, 104, 16414)) (z := mj_m104) rfl rfl (by decide) (by decide) rfl
theorem s106_52 {d : Nat} {ls : mj_L} {st : List Value} {M : mj_H} : mj_Rn d mj_m106 52 ls st M = mq_k2 d mj_m106 ls M (mj_br (.ifCond .eq 7) 52 st) := mj_R2 (r := (.ifCond .eq 7, 3, 0, 0, 0)) rfl rfl
theorem s106_55 {d : Nat} {ls : mj_L} {st : List Value} {M : mj_H} : mj_Rn d mj_m106 55 ls st M = mj_Rn d mj_m106 56 ls (.int 1 :: st) M := mj_R0 (r := (.iconst 1, 1, 0, 0, 0)) rfl rfl
theorem s106_56 {d : Nat} {ls : mj_L} {st : List Value} {M : mj_H} : mj_Rn d mj_m106 56 ls st M = mj_Rn d mj_m106 60 ls st M := mj_R2 (r := (.goto 4, 3, 0, 0, 0)) rfl rfl
theorem s106_59 {d : Nat} {ls : mj_L} {st : List Value} {M : mj_H} : mj_Rn d mj_m106 59 ls st M = mj_Rn d mj_m106 60 ls (.int 0 :: st) M := mj_R0 (r := (.iconst 0, 1, 0, 0, 0)) rfl rfl
theorem s106_60 {d : Nat} {ls : mj_L} {st : List Value} {M : mj_H} : mj_Rn d mj_m106 60 ls st M = mq_k6 M (mj_re (some .boolean) (.ireturn) st) := mj_R6 (r := (.ireturn, 1, 0, 0, 0)) rfl rfl
theorem c111 {d : Nat} {a0 : Nat} {x1 : Int32} {M : mj_H} : mj_V (d + 1) 111 [.ref a0, .int x1] M = mj_Rn d mj_m111 0 [(0, .ref a0), (1, .int x1)] [] M := mj_V_go rfl (Nat.le_of_ble_eq_true rfl)
theorem c112 {d : Nat} {a0 : Nat} {x1 : Int32} {M : mj_H} : mj_V (d + 1) 112 [.ref a0, .int x1] M = mj_Rn d mj_m112 0 [(0, .ref a0), (1, .int x1)] [] M := mj_V_go rfl (Nat.le_of_ble_eq_true rfl)
theorem c123 {d : Nat} {a0 : Nat} {x1 : Int32} {M : mj_H} : mj_V (d + 1) 123 [.ref a0, .int x1] M = mj_Rn d mj_m123 0 [(0, .ref a0), (1, .int x1)] [] M := mj_V_go rfl (Nat.le_of_ble_eq_true rfl)
theorem c116 {d : Nat} {a0 : Nat} {x1 : Int32} {x2 : Int32} {M : mj_H} : mj_V (d + 1) 116 [.ref a0, .int x1, .int x2] M = mj_Rn d mj_m116 0 [(0, .ref a0), (1, .int x1), (2, .int x2)] [] M := mj_V_go rfl (Nat.le_of_ble_eq_true rfl)
theorem c114 {d : Nat} {a0 : Nat} {x1 : Int32} {x2 : Int32} {M : mj_H} : mj_V (d + 1) 114 [.ref a0, .int x1, .int x2] M = mj_Rn d mj_m114 0 [(0, .ref a0), (1, .int x1), (2, .int x2)] [] M := mj_V_go rfl (Nat.le_of_ble_eq_true rfl)
theorem c119 {d : Nat} {a0 : Nat} {x1 : Int32} {M : mj_H} : mj_V (d + 1) 119 [.ref a0, .int x1] M = mj_Rn d mj_m119 0 [(0, .ref a0), (1, .int x1)] [] M := mj_V_go rfl (Nat.le_of_ble_eq_true rfl)
theorem c121 {d : Nat} {a0 : Nat} {x1 : Int32} {x2 : Int32} {x3 : Int32} {M : mj_H} : mj_V (d + 1) 121 [.ref a0, .int x1, .int x2, .int x3] M = mj_Rn d mj_m121 0 [(0, .ref a0), (1, .int x1), (2, .int x2), (3, .int x3)] [] M := mj_V_go rfl (Nat.le_of_ble_eq_true rfl)
theorem c106 {d : Nat} {a0 : Nat} {x1 : Int32} {a2 : Nat} {M : mj_H} : mj_V (d + 1) 106 [.ref a0, .int x1, .ref a2] M = mj_Rn d mj_m106 0 [(0, .ref a0), (1, .int x1), (2, .ref a2)] [] M := mj_V_go rfl (Nat.le_of_ble_eq_true rfl)
def id_ : List Int32 := [105, 100]
def alg_ : List Int32 := [97, 108, 103]
def rk_ : List Int32 := [114, 107]
def uv_ : List Int32 := [117, 118]
def up_ : List Int32 := [117, 112]
/-- a member of the message's map -/
def mem (ms : List Int32) (i : Nat) : Option Nat := cbMb ms (cbIs ms i) (some 1)
section KZ
variable {A : Nat → Prop} {κ : Nat} {M M' : mj_H} {k : Ky} {T T' : Tm} {row row' : List Int32} {d : Nat} {ms : List Int32} {n : Nat} {S V H E N : List Int32} {i : Int32} {o : Option Nat}
theorem kz.it (z : kz A κ M k T row) (f : fx (kS A κ) M M') (h : iT M ms n S V H E N) : iT M' ms n S V H E N := by
  have hlo := z.lo
  have e : ∀ c, (c < 30 ∨ (36 ≤ c ∧ c ≤ 43)) → M'[c]? = M[c]? := fun c hc => f.same c (z.lt (by omega)) (fun q => by
    rcases q with q | q
    · exact q (z.aA c (by omega))
    · omega)
  exact h.fr (fun a h1 h2 => e a (by omega)) (e _ (by omega)) (e _ (by omega))
theorem kz.s0 (z : kz A κ M k T row) : sg M 3 id_ := z.str 0 (by omega)
theorem kz.s1 (z : kz A κ M k T row) : sg M 5 alg_ := z.str 1 (by omega)
theorem kz.s2 (z : kz A κ M k T row) : sg M 7 ty_ := z.str 2 (by omega)
theorem kz.s3 (z : kz A κ M k T row) : sg M 9 rk_ := z.str 3 (by omega)
theorem kz.s4 (z : kz A κ M k T row) : sg M 11 uv_ := z.str 4 (by omega)
theorem kz.s5 (z : kz A κ M k T row) : sg M 13 pk_ := z.str 5 (by omega)
theorem kz.s8 (z : kz A κ M k T row) : sg M 19 up_ := z.str 8 (by omega)
theorem ky_hash (z : kz A κ M k T row) (hI : iT M ms n S V H E N) {p : Nat} (hi : iA (tbA S V H E N) ms n i (some p)) (hs : cbS ms p = 2 ∨ cbS ms p = 3) : ∃ M', mj_V (d + 3) 112 [.ref κ, .int i] M = some (none, M') ∧ kz A κ M' k T (7 :: oBy ms (some p)) ∧ fx (kS A κ) M M' := by
  obtain ⟨u0, x0⟩ := z.fa
  obtain ⟨M1, p1, z1, f1⟩ := kz_begin (d := d) z 7
  obtain ⟨u1, x1⟩ := z1.fa
  have hI1 := z.it f1 hI
  obtain ⟨q1, q2⟩ := q_cont (d := d + 1) hI1 hi hs
  have q3 := q_val (d := d + 1) hI1 hi
  rw [oV_n] at q3
  have hml := hI.b.len
  obtain ⟨M2, p2, z2, f2⟩ := kz_addBytes (d := d) (q := cbC ms p) (n := cbV ms p) z1 hI1.b (z1.aA 28 (by omega)) (z1.aA 29 (by omega)) q2 (by simp; omega)
  obtain ⟨u2, x2⟩ := z2.fa
  refine ⟨M2, ?_, by simpa [oBy] using z2, ((f1).trs f2)⟩
  simp only [oVn] at q3
  simp (disch := (first | omega | decide)) [c112, s112_0, s112_1, s112_4, s112_6, s112_9, s112_10, s112_13, s112_14, s112_17, s112_20, s112_21, s112_24, s112_25, s112_28, s112_29, s112_32, s112_33, s112_36, s112_39, mq_k0s, mq_k1s, mq_k2s, mq_k4s, mq_k5s, mq_k5n, mq_k5as, mq_k6s, mj_pu, mj_lo, mj_br, mj_hr, mj_hw, mq_gf, mq_len, mq_al, mq_pf, mq_ok, mj_re, mq_lkm, mq_lkn, mj_ldi, mj_ldl, mj_lda, mj_ii, mj_ll, mj_li, mj_i1, ms_1, ms_2, f1_n, f1_i, f1_r, f1_u, f1_l, f2_n, f2_i, f2_r, f2_u, f2_l, mj_tg, mj_c1, mj_c2, mj_ar, mj_aw, mq_cb, mq_oi, mj_rm, Value.category, -getElem?_pos, List.getElem?_cons_zero, decide_eq_true, decide_eq_false, nl_lt, nl_le, ln_lt, ln_le, nl_eq, ln_eq, nl_add, ln_add, nl_sub, ln_mul, nI_sub, nI_mul, nI_add, nI_lt_iff, nI_le_iff, nI_inj, nI_num, mq_ix, nI_1, nl_mul, nl_div, x0, p1, x1, hI1.u.ob, q1, q3, p2]
theorem ky_khash (z : kz A κ M k T row) (hI : iT M ms n S V H E N) {p : Nat} (hi : iA (tbA S V H E N) ms n i (some p)) (hs : cbS ms p = 2 ∨ cbS ms p = 3) : ∃ M', mj_V (d + 4) 111 [.ref κ, .int i] M = some (some (.int (nI (tm_ix T.1 (7 :: oBy ms (some p))))), M') ∧ kz A κ M' k T (7 :: oBy ms (some p)) ∧ fx (kS A κ) M M' := by
  obtain ⟨u0, x0⟩ := z.fa
  obtain ⟨M1, p1, z1, f1⟩ := ky_hash (d := d) z hI hi hs
  obtain ⟨u1, x1⟩ := z1.fa
  have v1 := tx_known (d := d + 1) z1.t
  refine ⟨M1, ?_, z1, f1⟩
  simp (disch := (first | omega | decide)) [c111, s111_0, s111_1, s111_2, s111_5, s111_6, s111_9, s111_12, mq_k0s, mq_k1s, mq_k2s, mq_k4s, mq_k5s, mq_k5n, mq_k5as, mq_k6s, mj_pu, mj_lo, mj_br, mj_hr, mj_hw, mq_gf, mq_len, mq_al, mq_pf, mq_ok, mj_re, mq_lkm, mq_lkn, mj_ldi, mj_ldl, mj_lda, mj_ii, mj_ll, mj_li, mj_i1, ms_1, ms_2, f1_n, f1_i, f1_r, f1_u, f1_l, f2_n, f2_i, f2_r, f2_u, f2_l, mj_tg, mj_c1, mj_c2, mj_ar, mj_aw, mq_cb, mq_oi, mj_rm, Value.category, -getElem?_pos, List.getElem?_cons_zero, decide_eq_true, decide_eq_false, nl_lt, nl_le, ln_lt, ln_le, nl_eq, ln_eq, nl_add, ln_add, nl_sub, ln_mul, nI_sub, nI_mul, nI_add, nI_lt_iff, nI_le_iff, nI_inj, nI_num, mq_ix, nI_1, nl_mul, nl_div, x0, p1, x1, v1, narrow]
def kn_as (T : Tm) (row : List Int32) (v : Int32) : Bool := !decide (tm_ix T.1 row = 0) && decide (nI (tm_ix T.1 row) = v)
theorem ky_kas (z : kz A κ M k T row) (hI : iT M ms n S V H E N) (hi : iA (tbA S V H E N) ms n i o) : mj_V (d + 4) 123 [.ref κ, .int i] M = some (some (.int (on1 (kn_as T row (o4 ms o)))), M) := by
  obtain ⟨u0, x0⟩ := z.fa
  have v1 := tx_known (d := d + 1) z.t
  have v2 := q_four (d := d) hI hi
  have hle := tm_ix_le T.1 row
  have hfe := z.t.few
  unfold kn_as
  generalize tm_ix T.1 row = t at *
  by_cases h0 : t = 0
  · subst h0
    simp (disch := (first | omega | decide)) [c123, s123_0, s123_1, s123_4, s123_7, s123_8, s123_9, s123_12, s123_13, s123_14, s123_17, s123_18, s123_21, s123_24, s123_25, s123_28, s123_29, mq_k0s, mq_k1s, mq_k2s, mq_k4s, mq_k5s, mq_k5n, mq_k5as, mq_k6s, mj_pu, mj_lo, mj_br, mj_hr, mj_hw, mq_gf, mq_len, mq_al, mq_pf, mq_ok, mj_re, mq_lkm, mq_lkn, mj_ldi, mj_ldl, mj_lda, mj_ii, mj_ll, mj_li, mj_i1, ms_1, ms_2, f1_n, f1_i, f1_r, f1_u, f1_l, f2_n, f2_i, f2_r, f2_u, f2_l, mj_tg, mj_c1, mj_c2, mj_ar, mj_aw, mq_cb, mq_oi, mj_rm, Value.category, -getElem?_pos, List.getElem?_cons_zero, decide_eq_true, decide_eq_false, nl_lt, nl_le, ln_lt, ln_le, nl_eq, ln_eq, nl_add, ln_add, nl_sub, ln_mul, nI_sub, nI_mul, nI_add, nI_lt_iff, nI_le_iff, nI_inj, nI_num, mq_ix, nI_1, nl_mul, nl_div, x0, v1, on1, narrow_b0]
  · by_cases h1 : nI t = o4 ms o
    · generalize o4 ms o = w at *
      subst h1
      simp (disch := (first | omega | decide)) [c123, s123_0, s123_1, s123_4, s123_7, s123_8, s123_9, s123_12, s123_13, s123_14, s123_17, s123_18, s123_21, s123_24, s123_25, s123_28, s123_29, mq_k0s, mq_k1s, mq_k2s, mq_k4s, mq_k5s, mq_k5n, mq_k5as, mq_k6s, mj_pu, mj_lo, mj_br, mj_hr, mj_hw, mq_gf, mq_len, mq_al, mq_pf, mq_ok, mj_re, mq_lkm, mq_lkn, mj_ldi, mj_ldl, mj_lda, mj_ii, mj_ll, mj_li, mj_i1, ms_1, ms_2, f1_n, f1_i, f1_r, f1_u, f1_l, f2_n, f2_i, f2_r, f2_u, f2_l, mj_tg, mj_c1, mj_c2, mj_ar, mj_aw, mq_cb, mq_oi, mj_rm, Value.category, -getElem?_pos, List.getElem?_cons_zero, decide_eq_true, decide_eq_false, nl_lt, nl_le, ln_lt, ln_le, nl_eq, ln_eq, nl_add, ln_add, nl_sub, ln_mul, nI_sub, nI_mul, nI_add, nI_lt_iff, nI_le_iff, nI_inj, nI_num, mq_ix, nI_1, nl_mul, nl_div, x0, hI.u.ob, v1, h0, v2, on1, narrow_b1]
    · simp (disch := (first | omega | decide)) [c123, s123_0, s123_1, s123_4, s123_7, s123_8, s123_9, s123_12, s123_13, s123_14, s123_17, s123_18, s123_21, s123_24, s123_25, s123_28, s123_29, mq_k0s, mq_k1s, mq_k2s, mq_k4s, mq_k5s, mq_k5n, mq_k5as, mq_k6s, mj_pu, mj_lo, mj_br, mj_hr, mj_hw, mq_gf, mq_len, mq_al, mq_pf, mq_ok, mj_re, mq_lkm, mq_lkn, mj_ldi, mj_ldl, mj_lda, mj_ii, mj_ll, mj_li, mj_i1, ms_1, ms_2, f1_n, f1_i, f1_r, f1_u, f1_l, f2_n, f2_i, f2_r, f2_u, f2_l, mj_tg, mj_c1, mj_c2, mj_ar, mj_aw, mq_cb, mq_oi, mj_rm, Value.category, -getElem?_pos, List.getElem?_cons_zero, decide_eq_true, decide_eq_false, nl_lt, nl_le, ln_lt, ln_le, nl_eq, ln_eq, nl_add, ln_add, nl_sub, ln_mul, nI_sub, nI_mul, nI_add, nI_lt_iff, nI_le_iff, nI_inj, nI_num, mq_ix, nI_1, nl_mul, nl_div, x0, hI.u.ob, v1, h0, v2, h1, on1, narrow_b0]
/-- whose an id is -/
def ky_wh (k : Ky) (T : Tm) (id party : Int32) : Int32 := match fs_id k.1.1.1.1.2.2.2.2.2.2.2.2.2.2.2 id party with
  | some j => nI j
  | none => if bt_at (tm_row T.1 id) 0 = 8 ∧ bt_at (tm_row T.1 id) 1 = k.1.1.1.1.2.2.2.2.2.2.2.1 ∧ bt_at (tm_row T.1 id) 2 = party then -2 else -1
theorem ky_whose (z : kz A κ M k T row) (id party : Int32) : mj_V (d + 3) 116 [.ref κ, .int id, .int party] M = some (some (.int (ky_wh k T id party)), M) := by
  obtain ⟨u0, x0⟩ := z.fa
  obtain ⟨r, hr⟩ := z.st
  have v1 := st_withId (d := d) (id := id) (party := party) hr
  have w0 := tx_part (d := d) z.t id 0
  have w1 := tx_part (d := d) z.t id 1
  have w2 := tx_part (d := d) z.t id 2
  have h8 := hr.l8
  unfold ky_wh
  cases hq : fs_id k.1.1.1.1.2.2.2.2.2.2.2.2.2.2.2 id party with
  | some j =>
    have hj : j < k.1.1.1.1.2.2.2.2.2.2.2.2.2.2.2.length := by
      unfold fs_id at hq
      obtain ⟨h1, -⟩ := List.findIdx?_eq_some_iff_getElem.mp hq
      exact h1
    rw [hq, oI] at v1
    simp (disch := (first | omega | decide)) [c116, s116_0, s116_1, s116_4, s116_5, s116_6, s116_9, s116_10, s116_11, s116_12, s116_15, s116_16, s116_17, s116_18, s116_21, s116_22, s116_23, s116_26, s116_28, s116_31, s116_32, s116_35, s116_36, s116_37, s116_40, s116_41, s116_44, s116_47, s116_50, s116_51, s116_54, s116_55, s116_56, s116_59, s116_60, s116_63, s116_64, s116_67, s116_68, s116_70, s116_72, s116_75, s116_77, s116_80, s116_81, mq_k0s, mq_k1s, mq_k2s, mq_k4s, mq_k5s, mq_k5n, mq_k5as, mq_k6s, mj_pu, mj_lo, mj_br, mj_hr, mj_hw, mq_gf, mq_len, mq_al, mq_pf, mq_ok, mj_re, mq_lkm, mq_lkn, mj_ldi, mj_ldl, mj_lda, mj_ii, mj_ll, mj_li, mj_i1, ms_1, ms_2, f1_n, f1_i, f1_r, f1_u, f1_l, f2_n, f2_i, f2_r, f2_u, f2_l, mj_tg, mj_c1, mj_c2, mj_ar, mj_aw, mq_cb, mq_oi, mj_rm, Value.category, -getElem?_pos, List.getElem?_cons_zero, decide_eq_true, decide_eq_false, nl_lt, nl_le, ln_lt, ln_le, nl_eq, ln_eq, nl_add, ln_add, nl_sub, ln_mul, nI_sub, nI_mul, nI_add, nI_lt_iff, nI_le_iff, nI_inj, nI_num, mq_ix, nI_1, nl_mul, nl_div, x0, v1, nI_m1, narrow]
  | none =>
    rw [hq, oI] at v1
    dsimp only
    by_cases h0 : bt_at (tm_row T.1 id) 0 = 8
    · by_cases h1 : bt_at (tm_row T.1 id) 1 = k.1.1.1.1.2.2.2.2.2.2.2.1
      · by_cases h2 : bt_at (tm_row T.1 id) 2 = party
        · simp (disch := (first | omega | decide)) [c116, s116_0, s116_1, s116_4, s116_5, s116_6, s116_9, s116_10, s116_11, s116_12, s116_15, s116_16, s116_17, s116_18, s116_21, s116_22, s116_23, s116_26, s116_28, s116_31, s116_32, s116_35, s116_36, s116_37, s116_40, s116_41, s116_44, s116_47, s116_50, s116_51, s116_54, s116_55, s116_56, s116_59, s116_60, s116_63, s116_64, s116_67, s116_68, s116_70, s116_72, s116_75, s116_77, s116_80, s116_81, mq_k0s, mq_k1s, mq_k2s, mq_k4s, mq_k5s, mq_k5n, mq_k5as, mq_k6s, mj_pu, mj_lo, mj_br, mj_hr, mj_hw, mq_gf, mq_len, mq_al, mq_pf, mq_ok, mj_re, mq_lkm, mq_lkn, mj_ldi, mj_ldl, mj_lda, mj_ii, mj_ll, mj_li, mj_i1, ms_1, ms_2, f1_n, f1_i, f1_r, f1_u, f1_l, f2_n, f2_i, f2_r, f2_u, f2_l, mj_tg, mj_c1, mj_c2, mj_ar, mj_aw, mq_cb, mq_oi, mj_rm, Value.category, -getElem?_pos, List.getElem?_cons_zero, decide_eq_true, decide_eq_false, nl_lt, nl_le, ln_lt, ln_le, nl_eq, ln_eq, nl_add, ln_add, nl_sub, ln_mul, nI_sub, nI_mul, nI_add, nI_lt_iff, nI_le_iff, nI_inj, nI_num, mq_ix, nI_1, nl_mul, nl_div, x0, v1, w0, w1, w2, h0, h1, h2, narrow]
        · simp (disch := (first | omega | decide)) [c116, s116_0, s116_1, s116_4, s116_5, s116_6, s116_9, s116_10, s116_11, s116_12, s116_15, s116_16, s116_17, s116_18, s116_21, s116_22, s116_23, s116_26, s116_28, s116_31, s116_32, s116_35, s116_36, s116_37, s116_40, s116_41, s116_44, s116_47, s116_50, s116_51, s116_54, s116_55, s116_56, s116_59, s116_60, s116_63, s116_64, s116_67, s116_68, s116_70, s116_72, s116_75, s116_77, s116_80, s116_81, mq_k0s, mq_k1s, mq_k2s, mq_k4s, mq_k5s, mq_k5n, mq_k5as, mq_k6s, mj_pu, mj_lo, mj_br, mj_hr, mj_hw, mq_gf, mq_len, mq_al, mq_pf, mq_ok, mj_re, mq_lkm, mq_lkn, mj_ldi, mj_ldl, mj_lda, mj_ii, mj_ll, mj_li, mj_i1, ms_1, ms_2, f1_n, f1_i, f1_r, f1_u, f1_l, f2_n, f2_i, f2_r, f2_u, f2_l, mj_tg, mj_c1, mj_c2, mj_ar, mj_aw, mq_cb, mq_oi, mj_rm, Value.category, -getElem?_pos, List.getElem?_cons_zero, decide_eq_true, decide_eq_false, nl_lt, nl_le, ln_lt, ln_le, nl_eq, ln_eq, nl_add, ln_add, nl_sub, ln_mul, nI_sub, nI_mul, nI_add, nI_lt_iff, nI_le_iff, nI_inj, nI_num, mq_ix, nI_1, nl_mul, nl_div, x0, v1, w0, w1, w2, h0, h1, h2, narrow]
      · simp (disch := (first | omega | decide)) [c116, s116_0, s116_1, s116_4, s116_5, s116_6, s116_9, s116_10, s116_11, s116_12, s116_15, s116_16, s116_17, s116_18, s116_21, s116_22, s116_23, s116_26, s116_28, s116_31, s116_32, s116_35, s116_36, s116_37, s116_40, s116_41, s116_44, s116_47, s116_50, s116_51, s116_54, s116_55, s116_56, s116_59, s116_60, s116_63, s116_64, s116_67, s116_68, s116_70, s116_72, s116_75, s116_77, s116_80, s116_81, mq_k0s, mq_k1s, mq_k2s, mq_k4s, mq_k5s, mq_k5n, mq_k5as, mq_k6s, mj_pu, mj_lo, mj_br, mj_hr, mj_hw, mq_gf, mq_len, mq_al, mq_pf, mq_ok, mj_re, mq_lkm, mq_lkn, mj_ldi, mj_ldl, mj_lda, mj_ii, mj_ll, mj_li, mj_i1, ms_1, ms_2, f1_n, f1_i, f1_r, f1_u, f1_l, f2_n, f2_i, f2_r, f2_u, f2_l, mj_tg, mj_c1, mj_c2, mj_ar, mj_aw, mq_cb, mq_oi, mj_rm, Value.category, -getElem?_pos, List.getElem?_cons_zero, decide_eq_true, decide_eq_false, nl_lt, nl_le, ln_lt, ln_le, nl_eq, ln_eq, nl_add, ln_add, nl_sub, ln_mul, nI_sub, nI_mul, nI_add, nI_lt_iff, nI_le_iff, nI_inj, nI_num, mq_ix, nI_1, nl_mul, nl_div, x0, v1, w0, w1, h0, h1, narrow]
    · simp (disch := (first | omega | decide)) [c116, s116_0, s116_1, s116_4, s116_5, s116_6, s116_9, s116_10, s116_11, s116_12, s116_15, s116_16, s116_17, s116_18, s116_21, s116_22, s116_23, s116_26, s116_28, s116_31, s116_32, s116_35, s116_36, s116_37, s116_40, s116_41, s116_44, s116_47, s116_50, s116_51, s116_54, s116_55, s116_56, s116_59, s116_60, s116_63, s116_64, s116_67, s116_68, s116_70, s116_72, s116_75, s116_77, s116_80, s116_81, mq_k0s, mq_k1s, mq_k2s, mq_k4s, mq_k5s, mq_k5n, mq_k5as, mq_k6s, mj_pu, mj_lo, mj_br, mj_hr, mj_hw, mq_gf, mq_len, mq_al, mq_pf, mq_ok, mj_re, mq_lkm, mq_lkn, mj_ldi, mj_ldl, mj_lda, mj_ii, mj_ll, mj_li, mj_i1, ms_1, ms_2, f1_n, f1_i, f1_r, f1_u, f1_l, f2_n, f2_i, f2_r, f2_u, f2_l, mj_tg, mj_c1, mj_c2, mj_ar, mj_aw, mq_cb, mq_oi, mj_rm, Value.category, -getElem?_pos, List.getElem?_cons_zero, decide_eq_true, decide_eq_false, nl_lt, nl_le, ln_lt, ln_le, nl_eq, ln_eq, nl_add, ln_add, nl_sub, ln_mul, nI_sub, nI_mul, nI_add, nI_lt_iff, nI_le_iff, nI_inj, nI_num, mq_ix, nI_1, nl_mul, nl_div, x0, v1, w0, h0, narrow]
/-- the first id of a list that is this key's -/
def ownF (k : Ky) (T : Tm) (ms : List Int32) (party : Int32) (e : Nat) : Bool := oT ms pk_ (cbNm ms ty_ (some e)) && !decide (ky_wh k T (o4 ms (cbNm ms id_ (some e))) party = -1)
def cbOwn (k : Ky) (T : Tm) (ms : List Int32) (party : Int32) : Nat → Nat → Int32
  | 0, _ => 0
  | n + 1, e => if ownF k T ms party e then o4 ms (cbNm ms id_ (some e)) else cbOwn k T ms party n (cbE ms e)
def ky_fo (k : Ky) (T : Tm) (ms : List Int32) (party : Int32) : Option Nat → Int32
  | none => 0
  | some p => cbOwn k T ms party (cbV ms p) (cbC ms p)
theorem l_own (z : kz A κ M k T row) (hI : iT M ms n S V H E N) {party : Int32} {r m0 : Nat} (hr : r ≤ 4) (hm0 : m0 < 2 ^ 31) (hv : mj_V (d + 7) 88 [.ref 36, .int i] M = some (some (.int (nI m0)), M)) : ∀ (m u p e q j : Nat), u + m = m0 → Ch (Nx (tbA S V H E N) ms r) m p e q j → j ≤ n → mj_Rn (d + 7) mj_m114 7 [(4, .int (nI u)), (3, .int (nI e)), (0, .ref κ), (1, .int i), (2, .int party)] [] M = some (some (.int (cbOwn k T ms party m p)), M) := by
  obtain ⟨u0, x0⟩ := z.fa
  intro m
  induction m with
  | zero =>
    intro u p e q j hu _ _
    simp (disch := (first | omega | decide)) [s114_0, s114_1, s114_2, s114_3, s114_4, s114_5, s114_7, s114_9, s114_10, s114_13, s114_14, s114_17, s114_20, s114_21, s114_24, s114_25, s114_28, s114_29, s114_31, s114_34, s114_37, s114_39, s114_40, s114_43, s114_44, s114_47, s114_50, s114_51, s114_53, s114_54, s114_57, s114_58, s114_61, s114_63, s114_64, s114_65, s114_68, s114_69, s114_72, s114_73, s114_76, s114_79, s114_80, mq_k0s, mq_k1s, mq_k2s, mq_k4s, mq_k5s, mq_k5n, mq_k5as, mq_k6s, mj_pu, mj_lo, mj_br, mj_hr, mj_hw, mq_gf, mq_len, mq_al, mq_pf, mq_ok, mj_re, mq_lkm, mq_lkn, mj_ldi, mj_ldl, mj_lda, mj_ii, mj_ll, mj_li, mj_i1, ms_1, ms_2, f1_n, f1_i, f1_r, f1_u, f1_l, f2_n, f2_i, f2_r, f2_u, f2_l, mj_tg, mj_c1, mj_c2, mj_ar, mj_aw, mq_cb, mq_oi, mj_rm, Value.category, -getElem?_pos, List.getElem?_cons_zero, decide_eq_true, decide_eq_false, nl_lt, nl_le, ln_lt, ln_le, nl_eq, ln_eq, nl_add, ln_add, nl_sub, ln_mul, nI_sub, nI_mul, nI_add, nI_lt_iff, nI_le_iff, nI_inj, nI_num, mq_ix, nI_1, nl_mul, nl_div, x0, hI.u.ob, hv, cbOwn, narrow]
  | succ m ih =>
    intro u p e q j hu hc hj
    obtain ⟨q1, j1, hx, hc2⟩ := hc
    have hle := Ch_le _ _ _ _ _ hc2
    have i1 : iA (tbA S V H E N) ms n (nI e) (some p) := ⟨r, e, q1, j1, hr, rfl, hx, by omega⟩
    obtain ⟨x, v1, x1⟩ := q_named (d := d + 1) hI i1 z.s0
    have v2 := q_four (d := d + 4) hI x1
    have v3 := q_pk (d := d) hI i1 z.s2 z.s5
    have v4 := ky_whose (d := d + 4) z (o4 ms (cbNm ms id_ (some p))) party
    have hnx := q_next (d := d + 6) hI hx (by omega)
    have r1 := ih (u + 1) _ _ _ _ (by omega) hc2 hj
    rw [show cbMb ms (cbTx ms id_) (some p) = cbNm ms id_ (some p) from rfl] at v2
    rw [cbOwn, cbE_eq hx.1 hr, s114_7]
    unfold ownF
    by_cases b1 : oT ms pk_ (cbNm ms ty_ (some p)) = true
    · rw [b1] at v3
      simp at v3
      by_cases b2 : ky_wh k T (o4 ms (cbNm ms id_ (some p))) party = -1
      · rw [b2] at v4
        simp only [b1, b2, decide_true, Bool.not_true, Bool.and_false]
        simp (disch := (first | omega | decide)) [s114_0, s114_1, s114_2, s114_3, s114_4, s114_5, s114_9, s114_10, s114_13, s114_14, s114_17, s114_20, s114_21, s114_24, s114_25, s114_28, s114_29, s114_31, s114_34, s114_37, s114_39, s114_40, s114_43, s114_44, s114_47, s114_50, s114_51, s114_53, s114_54, s114_57, s114_58, s114_61, s114_63, s114_64, s114_65, s114_68, s114_69, s114_72, s114_73, s114_76, s114_79, s114_80, mq_k0s, mq_k1s, mq_k2s, mq_k4s, mq_k5s, mq_k5n, mq_k5as, mq_k6s, mj_pu, mj_lo, mj_br, mj_hr, mj_hw, mq_gf, mq_len, mq_al, mq_pf, mq_ok, mj_re, mq_lkm, mq_lkn, mj_ldi, mj_ldl, mj_lda, mj_ii, mj_ll, mj_li, mj_i1, ms_1, ms_2, f1_n, f1_i, f1_r, f1_u, f1_l, f2_n, f2_i, f2_r, f2_u, f2_l, mj_tg, mj_c1, mj_c2, mj_ar, mj_aw, mq_cb, mq_oi, mj_rm, Value.category, -getElem?_pos, List.getElem?_cons_zero, decide_eq_true, decide_eq_false, nl_lt, nl_le, ln_lt, ln_le, nl_eq, ln_eq, nl_add, ln_add, nl_sub, ln_mul, nI_sub, nI_mul, nI_add, nI_lt_iff, nI_le_iff, nI_inj, nI_num, mq_ix, nI_1, nl_mul, nl_div, x0, hI.u.ob, hv, v1, v2, v3, v4, hnx]
        refine mq_wk ?_ r1
        simp [mq_sub, mj_lk]
      · simp (disch := (first | omega | decide)) [s114_0, s114_1, s114_2, s114_3, s114_4, s114_5, s114_9, s114_10, s114_13, s114_14, s114_17, s114_20, s114_21, s114_24, s114_25, s114_28, s114_29, s114_31, s114_34, s114_37, s114_39, s114_40, s114_43, s114_44, s114_47, s114_50, s114_51, s114_53, s114_54, s114_57, s114_58, s114_61, s114_63, s114_64, s114_65, s114_68, s114_69, s114_72, s114_73, s114_76, s114_79, s114_80, mq_k0s, mq_k1s, mq_k2s, mq_k4s, mq_k5s, mq_k5n, mq_k5as, mq_k6s, mj_pu, mj_lo, mj_br, mj_hr, mj_hw, mq_gf, mq_len, mq_al, mq_pf, mq_ok, mj_re, mq_lkm, mq_lkn, mj_ldi, mj_ldl, mj_lda, mj_ii, mj_ll, mj_li, mj_i1, ms_1, ms_2, f1_n, f1_i, f1_r, f1_u, f1_l, f2_n, f2_i, f2_r, f2_u, f2_l, mj_tg, mj_c1, mj_c2, mj_ar, mj_aw, mq_cb, mq_oi, mj_rm, Value.category, -getElem?_pos, List.getElem?_cons_zero, decide_eq_true, decide_eq_false, nl_lt, nl_le, ln_lt, ln_le, nl_eq, ln_eq, nl_add, ln_add, nl_sub, ln_mul, nI_sub, nI_mul, nI_add, nI_lt_iff, nI_le_iff, nI_inj, nI_num, mq_ix, nI_1, nl_mul, nl_div, x0, hI.u.ob, hv, v1, v2, v3, v4, b1, b2, narrow]
    · have b1 : oT ms pk_ (cbNm ms ty_ (some p)) = false := by simpa using b1
      rw [b1] at v3
      simp at v3
      simp only [b1, Bool.false_and]
      simp (disch := (first | omega | decide)) [s114_0, s114_1, s114_2, s114_3, s114_4, s114_5, s114_9, s114_10, s114_13, s114_14, s114_17, s114_20, s114_21, s114_24, s114_25, s114_28, s114_29, s114_31, s114_34, s114_37, s114_39, s114_40, s114_43, s114_44, s114_47, s114_50, s114_51, s114_53, s114_54, s114_57, s114_58, s114_61, s114_63, s114_64, s114_65, s114_68, s114_69, s114_72, s114_73, s114_76, s114_79, s114_80, mq_k0s, mq_k1s, mq_k2s, mq_k4s, mq_k5s, mq_k5n, mq_k5as, mq_k6s, mj_pu, mj_lo, mj_br, mj_hr, mj_hw, mq_gf, mq_len, mq_al, mq_pf, mq_ok, mj_re, mq_lkm, mq_lkn, mj_ldi, mj_ldl, mj_lda, mj_ii, mj_ll, mj_li, mj_i1, ms_1, ms_2, f1_n, f1_i, f1_r, f1_u, f1_l, f2_n, f2_i, f2_r, f2_u, f2_l, mj_tg, mj_c1, mj_c2, mj_ar, mj_aw, mq_cb, mq_oi, mj_rm, Value.category, -getElem?_pos, List.getElem?_cons_zero, decide_eq_true, decide_eq_false, nl_lt, nl_le, ln_lt, ln_le, nl_eq, ln_eq, nl_add, ln_add, nl_sub, ln_mul, nI_sub, nI_mul, nI_add, nI_lt_iff, nI_le_iff, nI_inj, nI_num, mq_ix, nI_1, nl_mul, nl_div, x0, hI.u.ob, hv, v1, v2, v3, hnx]
      refine mq_wk ?_ r1
      simp [mq_sub, mj_lk]
theorem ky_first (z : kz A κ M k T row) (hI : iT M ms n S V H E N) (hi : iA (tbA S V H E N) ms n i o) (h4 : oFit ms 4 o = true) (party : Int32) : mj_V (d + 8) 114 [.ref κ, .int i, .int party] M = some (some (.int (ky_fo k T ms party o)), M) := by
  obtain ⟨u0, x0⟩ := z.fa
  have hv := q_val (d := d + 6) hI hi
  have hl := oVn_lt hI hi
  rw [oV_n] at hv
  cases o with
  | none =>
    cases hi
    simp only [oVn] at hv
    simp (disch := (first | omega | decide)) [c114, s114_0, s114_1, s114_2, s114_3, s114_4, s114_5, s114_7, s114_9, s114_10, s114_13, s114_14, s114_17, s114_20, s114_21, s114_24, s114_25, s114_28, s114_29, s114_31, s114_34, s114_37, s114_39, s114_40, s114_43, s114_44, s114_47, s114_50, s114_51, s114_53, s114_54, s114_57, s114_58, s114_61, s114_63, s114_64, s114_65, s114_68, s114_69, s114_72, s114_73, s114_76, s114_79, s114_80, mq_k0s, mq_k1s, mq_k2s, mq_k4s, mq_k5s, mq_k5n, mq_k5as, mq_k6s, mj_pu, mj_lo, mj_br, mj_hr, mj_hw, mq_gf, mq_len, mq_al, mq_pf, mq_ok, mj_re, mq_lkm, mq_lkn, mj_ldi, mj_ldl, mj_lda, mj_ii, mj_ll, mj_li, mj_i1, ms_1, ms_2, f1_n, f1_i, f1_r, f1_u, f1_l, f2_n, f2_i, f2_r, f2_u, f2_l, mj_tg, mj_c1, mj_c2, mj_ar, mj_aw, mq_cb, mq_oi, mj_rm, Value.category, -getElem?_pos, List.getElem?_cons_zero, decide_eq_true, decide_eq_false, nl_lt, nl_le, ln_lt, ln_le, nl_eq, ln_eq, nl_add, ln_add, nl_sub, ln_mul, nI_sub, nI_mul, nI_add, nI_lt_iff, nI_le_iff, nI_inj, nI_num, mq_ix, nI_1, nl_mul, nl_div, x0, hI.u.ob, hv, ky_fo, narrow]
  | some p =>
    have h4 : cbS ms p = 4 := by simpa [oFit] using h4
    obtain ⟨r, e, q, j, hr, rfl, hx, hj⟩ := hi
    obtain ⟨r', rfl, hc⟩ := Nx_arr hx h4
    have r1 := l_own (d := d) (i := nI e) z hI (party := party) (r := r') (m0 := cbV ms p) (by omega) hl hv (cbV ms p) 0 _ _ _ _ (by omega) hc hj
    simp only [ky_fo]
    rw [nI_0] at r1
    simp (disch := (first | omega | decide)) [c114, s114_0, s114_1, s114_2, s114_3, s114_4, s114_5, s114_9, s114_10, s114_13, s114_14, s114_17, s114_20, s114_21, s114_24, s114_25, s114_28, s114_29, s114_31, s114_34, s114_37, s114_39, s114_40, s114_43, s114_44, s114_47, s114_50, s114_51, s114_53, s114_54, s114_57, s114_58, s114_61, s114_63, s114_64, s114_65, s114_68, s114_69, s114_72, s114_73, s114_76, s114_79, s114_80, mq_k0s, mq_k1s, mq_k2s, mq_k4s, mq_k5s, mq_k5n, mq_k5as, mq_k6s, mj_pu, mj_lo, mj_br, mj_hr, mj_hw, mq_gf, mq_len, mq_al, mq_pf, mq_ok, mj_re, mq_lkm, mq_lkn, mj_ldi, mj_ldl, mj_lda, mj_ii, mj_ll, mj_li, mj_i1, ms_1, ms_2, f1_n, f1_i, f1_r, f1_u, f1_l, f2_n, f2_i, f2_r, f2_u, f2_l, mj_tg, mj_c1, mj_c2, mj_ar, mj_aw, mq_cb, mq_oi, mj_rm, Value.category, -getElem?_pos, List.getElem?_cons_zero, decide_eq_true, decide_eq_false, nl_lt, nl_le, ln_lt, ln_le, nl_eq, ln_eq, nl_add, ln_add, nl_sub, ln_mul, nI_sub, nI_mul, nI_add, nI_lt_iff, nI_le_iff, nI_inj, nI_num, mq_ix, nI_1, nl_mul, nl_div]
    refine mq_wk ?_ r1
    simp [mq_sub, mj_lk]
def algF (ms : List Int32) (e : Nat) : Bool := (match cbNm ms alg_ (some e) with
  | some a => decide (cbS ms a = 1) && decide (cbV ms a = 6)
  | none => false) && oT ms pk_ (cbNm ms ty_ (some e))
def cbAny (ms : List Int32) (f : Nat → Bool) : Nat → Nat → Bool
  | 0, _ => false
  | n + 1, p => f p || cbAny ms f n (cbE ms p)
def ky_ha (ms : List Int32) : Option Nat → Bool
  | none => false
  | some p => cbAny ms (algF ms) (cbV ms p) (cbC ms p)
theorem l_alg (z : kz A κ M k T row) (hI : iT M ms n S V H E N) {r m0 : Nat} (hr : r ≤ 4) (hm0 : m0 < 2 ^ 31) (hv : mj_V (d + 7) 88 [.ref 36, .int i] M = some (some (.int (nI m0)), M)) : ∀ (m u p e q j : Nat), u + m = m0 → Ch (Nx (tbA S V H E N) ms r) m p e q j → j ≤ n → mj_Rn (d + 7) mj_m119 6 [(3, .int (nI u)), (2, .int (nI e)), (0, .ref κ), (1, .int i)] [] M = some (some (.int (on1 (cbAny ms (algF ms) m p))), M) := by
  obtain ⟨u0, x0⟩ := z.fa
  intro m
  induction m with
  | zero =>
    intro u p e q j hu _ _
    simp (disch := (first | omega | decide)) [s119_0, s119_1, s119_2, s119_3, s119_4, s119_5, s119_6, s119_7, s119_8, s119_11, s119_12, s119_15, s119_18, s119_19, s119_22, s119_23, s119_26, s119_29, s119_31, s119_32, s119_35, s119_37, s119_40, s119_41, s119_44, s119_45, s119_48, s119_50, s119_53, s119_55, s119_58, s119_59, s119_62, s119_63, s119_65, s119_67, s119_70, s119_71, s119_74, s119_75, s119_78, s119_81, s119_82, s119_83, s119_84, s119_87, s119_88, s119_91, s119_92, s119_95, s119_98, s119_99, mq_k0s, mq_k1s, mq_k2s, mq_k4s, mq_k5s, mq_k5n, mq_k5as, mq_k6s, mj_pu, mj_lo, mj_br, mj_hr, mj_hw, mq_gf, mq_len, mq_al, mq_pf, mq_ok, mj_re, mq_lkm, mq_lkn, mj_ldi, mj_ldl, mj_lda, mj_ii, mj_ll, mj_li, mj_i1, ms_1, ms_2, f1_n, f1_i, f1_r, f1_u, f1_l, f2_n, f2_i, f2_r, f2_u, f2_l, mj_tg, mj_c1, mj_c2, mj_ar, mj_aw, mq_cb, mq_oi, mj_rm, Value.category, -getElem?_pos, List.getElem?_cons_zero, decide_eq_true, decide_eq_false, nl_lt, nl_le, ln_lt, ln_le, nl_eq, ln_eq, nl_add, ln_add, nl_sub, ln_mul, nI_sub, nI_mul, nI_add, nI_lt_iff, nI_le_iff, nI_inj, nI_num, mq_ix, nI_1, nl_mul, nl_div, x0, hI.u.ob, hv, cbAny, on1, narrow_b0]
  | succ m ih =>
    intro u p e q j hu hc hj
    obtain ⟨q1, j1, hx, hc2⟩ := hc
    have hle := Ch_le _ _ _ _ _ hc2
    have i1 : iA (tbA S V H E N) ms n (nI e) (some p) := ⟨r, e, q1, j1, hr, rfl, hx, by omega⟩
    obtain ⟨x, v1, x1⟩ := q_named (d := d + 1) hI i1 z.s1
    have v2 := q_sort (d := d + 6) hI x1
    have v3 := q_val (d := d + 6) hI x1
    have hlx := oVn_lt hI x1
    have v4 := q_pk (d := d) hI i1 z.s2 z.s5
    have hnx := q_next (d := d + 6) hI hx (by omega)
    have r1 := ih (u + 1) _ _ _ _ (by omega) hc2 hj
    rw [oV_n] at v3
    rw [show cbMb ms (cbTx ms alg_) (some p) = cbNm ms alg_ (some p) from rfl] at v2 v3 hlx
    rw [cbAny, cbE_eq hx.1 hr, s119_6]
    unfold algF
    cases ha : cbNm ms alg_ (some p) with
    | none =>
      rw [ha] at v2
      simp only [oS] at v2
      simp only [Bool.false_and, Bool.false_or]
      simp (disch := (first | omega | decide)) [s119_0, s119_1, s119_2, s119_3, s119_4, s119_5, s119_7, s119_8, s119_11, s119_12, s119_15, s119_18, s119_19, s119_22, s119_23, s119_26, s119_29, s119_31, s119_32, s119_35, s119_37, s119_40, s119_41, s119_44, s119_45, s119_48, s119_50, s119_53, s119_55, s119_58, s119_59, s119_62, s119_63, s119_65, s119_67, s119_70, s119_71, s119_74, s119_75, s119_78, s119_81, s119_82, s119_83, s119_84, s119_87, s119_88, s119_91, s119_92, s119_95, s119_98, s119_99, mq_k0s, mq_k1s, mq_k2s, mq_k4s, mq_k5s, mq_k5n, mq_k5as, mq_k6s, mj_pu, mj_lo, mj_br, mj_hr, mj_hw, mq_gf, mq_len, mq_al, mq_pf, mq_ok, mj_re, mq_lkm, mq_lkn, mj_ldi, mj_ldl, mj_lda, mj_ii, mj_ll, mj_li, mj_i1, ms_1, ms_2, f1_n, f1_i, f1_r, f1_u, f1_l, f2_n, f2_i, f2_r, f2_u, f2_l, mj_tg, mj_c1, mj_c2, mj_ar, mj_aw, mq_cb, mq_oi, mj_rm, Value.category, -getElem?_pos, List.getElem?_cons_zero, decide_eq_true, decide_eq_false, nl_lt, nl_le, ln_lt, ln_le, nl_eq, ln_eq, nl_add, ln_add, nl_sub, ln_mul, nI_sub, nI_mul, nI_add, nI_lt_iff, nI_le_iff, nI_inj, nI_num, mq_ix, nI_1, nl_mul, nl_div, x0, hI.u.ob, hv, v1, v2, hnx]
      refine mq_wk ?_ r1
      simp [mq_sub, mj_lk]
    | some a =>
      rw [ha] at v2 v3 hlx
      simp only [oS, oVn] at v2 v3 hlx
      have hS8 : cbS ms a < 8 := by have := ms_by hI.b.2.2.2.2.1 a; unfold cbS; omega
      dsimp only
      by_cases b1 : cbS ms a = 1
      · rw [b1] at v2
        by_cases b2 : cbV ms a = 6
        · rw [b2] at v3
          by_cases b3 : oT ms pk_ (cbNm ms ty_ (some p)) = true
          · rw [b3] at v4
            simp at v4
            simp (disch := (first | omega | decide)) [s119_0, s119_1, s119_2, s119_3, s119_4, s119_5, s119_7, s119_8, s119_11, s119_12, s119_15, s119_18, s119_19, s119_22, s119_23, s119_26, s119_29, s119_31, s119_32, s119_35, s119_37, s119_40, s119_41, s119_44, s119_45, s119_48, s119_50, s119_53, s119_55, s119_58, s119_59, s119_62, s119_63, s119_65, s119_67, s119_70, s119_71, s119_74, s119_75, s119_78, s119_81, s119_82, s119_83, s119_84, s119_87, s119_88, s119_91, s119_92, s119_95, s119_98, s119_99, mq_k0s, mq_k1s, mq_k2s, mq_k4s, mq_k5s, mq_k5n, mq_k5as, mq_k6s, mj_pu, mj_lo, mj_br, mj_hr, mj_hw, mq_gf, mq_len, mq_al, mq_pf, mq_ok, mj_re, mq_lkm, mq_lkn, mj_ldi, mj_ldl, mj_lda, mj_ii, mj_ll, mj_li, mj_i1, ms_1, ms_2, f1_n, f1_i, f1_r, f1_u, f1_l, f2_n, f2_i, f2_r, f2_u, f2_l, mj_tg, mj_c1, mj_c2, mj_ar, mj_aw, mq_cb, mq_oi, mj_rm, Value.category, -getElem?_pos, List.getElem?_cons_zero, decide_eq_true, decide_eq_false, nl_lt, nl_le, ln_lt, ln_le, nl_eq, ln_eq, nl_add, ln_add, nl_sub, ln_mul, nI_sub, nI_mul, nI_add, nI_lt_iff, nI_le_iff, nI_inj, nI_num, mq_ix, nI_1, nl_mul, nl_div, x0, hI.u.ob, hv, v1, v2, v3, v4, b1, b2, b3, on1, narrow_b1]
          · have b3 : oT ms pk_ (cbNm ms ty_ (some p)) = false := by simpa using b3
            rw [b3] at v4
            simp at v4
            simp only [b3, Bool.and_false, Bool.false_or]
            simp (disch := (first | omega | decide)) [s119_0, s119_1, s119_2, s119_3, s119_4, s119_5, s119_7, s119_8, s119_11, s119_12, s119_15, s119_18, s119_19, s119_22, s119_23, s119_26, s119_29, s119_31, s119_32, s119_35, s119_37, s119_40, s119_41, s119_44, s119_45, s119_48, s119_50, s119_53, s119_55, s119_58, s119_59, s119_62, s119_63, s119_65, s119_67, s119_70, s119_71, s119_74, s119_75, s119_78, s119_81, s119_82, s119_83, s119_84, s119_87, s119_88, s119_91, s119_92, s119_95, s119_98, s119_99, mq_k0s, mq_k1s, mq_k2s, mq_k4s, mq_k5s, mq_k5n, mq_k5as, mq_k6s, mj_pu, mj_lo, mj_br, mj_hr, mj_hw, mq_gf, mq_len, mq_al, mq_pf, mq_ok, mj_re, mq_lkm, mq_lkn, mj_ldi, mj_ldl, mj_lda, mj_ii, mj_ll, mj_li, mj_i1, ms_1, ms_2, f1_n, f1_i, f1_r, f1_u, f1_l, f2_n, f2_i, f2_r, f2_u, f2_l, mj_tg, mj_c1, mj_c2, mj_ar, mj_aw, mq_cb, mq_oi, mj_rm, Value.category, -getElem?_pos, List.getElem?_cons_zero, decide_eq_true, decide_eq_false, nl_lt, nl_le, ln_lt, ln_le, nl_eq, ln_eq, nl_add, ln_add, nl_sub, ln_mul, nI_sub, nI_mul, nI_add, nI_lt_iff, nI_le_iff, nI_inj, nI_num, mq_ix, nI_1, nl_mul, nl_div, x0, hI.u.ob, hv, v1, v2, v3, v4, hnx]
            refine mq_wk ?_ r1
            simp [mq_sub, mj_lk]
        · simp only [b2, decide_false, Bool.and_false, Bool.false_and, Bool.false_or]
          simp (disch := (first | omega | decide)) [s119_0, s119_1, s119_2, s119_3, s119_4, s119_5, s119_7, s119_8, s119_11, s119_12, s119_15, s119_18, s119_19, s119_22, s119_23, s119_26, s119_29, s119_31, s119_32, s119_35, s119_37, s119_40, s119_41, s119_44, s119_45, s119_48, s119_50, s119_53, s119_55, s119_58, s119_59, s119_62, s119_63, s119_65, s119_67, s119_70, s119_71, s119_74, s119_75, s119_78, s119_81, s119_82, s119_83, s119_84, s119_87, s119_88, s119_91, s119_92, s119_95, s119_98, s119_99, mq_k0s, mq_k1s, mq_k2s, mq_k4s, mq_k5s, mq_k5n, mq_k5as, mq_k6s, mj_pu, mj_lo, mj_br, mj_hr, mj_hw, mq_gf, mq_len, mq_al, mq_pf, mq_ok, mj_re, mq_lkm, mq_lkn, mj_ldi, mj_ldl, mj_lda, mj_ii, mj_ll, mj_li, mj_i1, ms_1, ms_2, f1_n, f1_i, f1_r, f1_u, f1_l, f2_n, f2_i, f2_r, f2_u, f2_l, mj_tg, mj_c1, mj_c2, mj_ar, mj_aw, mq_cb, mq_oi, mj_rm, Value.category, -getElem?_pos, List.getElem?_cons_zero, decide_eq_true, decide_eq_false, nl_lt, nl_le, ln_lt, ln_le, nl_eq, ln_eq, nl_add, ln_add, nl_sub, ln_mul, nI_sub, nI_mul, nI_add, nI_lt_iff, nI_le_iff, nI_inj, nI_num, mq_ix, nI_1, nl_mul, nl_div, x0, hI.u.ob, hv, v1, v2, v3, b2, hnx]
          refine mq_wk ?_ r1
          simp [mq_sub, mj_lk]
      · simp only [b1, decide_false, Bool.false_and, Bool.false_or]
        simp (disch := (first | omega | decide)) [s119_0, s119_1, s119_2, s119_3, s119_4, s119_5, s119_7, s119_8, s119_11, s119_12, s119_15, s119_18, s119_19, s119_22, s119_23, s119_26, s119_29, s119_31, s119_32, s119_35, s119_37, s119_40, s119_41, s119_44, s119_45, s119_48, s119_50, s119_53, s119_55, s119_58, s119_59, s119_62, s119_63, s119_65, s119_67, s119_70, s119_71, s119_74, s119_75, s119_78, s119_81, s119_82, s119_83, s119_84, s119_87, s119_88, s119_91, s119_92, s119_95, s119_98, s119_99, mq_k0s, mq_k1s, mq_k2s, mq_k4s, mq_k5s, mq_k5n, mq_k5as, mq_k6s, mj_pu, mj_lo, mj_br, mj_hr, mj_hw, mq_gf, mq_len, mq_al, mq_pf, mq_ok, mj_re, mq_lkm, mq_lkn, mj_ldi, mj_ldl, mj_lda, mj_ii, mj_ll, mj_li, mj_i1, ms_1, ms_2, f1_n, f1_i, f1_r, f1_u, f1_l, f2_n, f2_i, f2_r, f2_u, f2_l, mj_tg, mj_c1, mj_c2, mj_ar, mj_aw, mq_cb, mq_oi, mj_rm, Value.category, -getElem?_pos, List.getElem?_cons_zero, decide_eq_true, decide_eq_false, nl_lt, nl_le, ln_lt, ln_le, nl_eq, ln_eq, nl_add, ln_add, nl_sub, ln_mul, nI_sub, nI_mul, nI_add, nI_lt_iff, nI_le_iff, nI_inj, nI_num, mq_ix, nI_1, nl_mul, nl_div, x0, hI.u.ob, hv, v1, v2, b1, hnx]
        refine mq_wk ?_ r1
        simp [mq_sub, mj_lk]
theorem ky_has (z : kz A κ M k T row) (hI : iT M ms n S V H E N) (hi : iA (tbA S V H E N) ms n i o) (h4 : oFit ms 4 o = true) : mj_V (d + 8) 119 [.ref κ, .int i] M = some (some (.int (on1 (ky_ha ms o))), M) := by
  obtain ⟨u0, x0⟩ := z.fa
  have hv := q_val (d := d + 6) hI hi
  have hl := oVn_lt hI hi
  rw [oV_n] at hv
  cases o with
  | none =>
    cases hi
    simp only [oVn] at hv
    simp (disch := (first | omega | decide)) [c119, s119_0, s119_1, s119_2, s119_3, s119_4, s119_5, s119_6, s119_7, s119_8, s119_11, s119_12, s119_15, s119_18, s119_19, s119_22, s119_23, s119_26, s119_29, s119_31, s119_32, s119_35, s119_37, s119_40, s119_41, s119_44, s119_45, s119_48, s119_50, s119_53, s119_55, s119_58, s119_59, s119_62, s119_63, s119_65, s119_67, s119_70, s119_71, s119_74, s119_75, s119_78, s119_81, s119_82, s119_83, s119_84, s119_87, s119_88, s119_91, s119_92, s119_95, s119_98, s119_99, mq_k0s, mq_k1s, mq_k2s, mq_k4s, mq_k5s, mq_k5n, mq_k5as, mq_k6s, mj_pu, mj_lo, mj_br, mj_hr, mj_hw, mq_gf, mq_len, mq_al, mq_pf, mq_ok, mj_re, mq_lkm, mq_lkn, mj_ldi, mj_ldl, mj_lda, mj_ii, mj_ll, mj_li, mj_i1, ms_1, ms_2, f1_n, f1_i, f1_r, f1_u, f1_l, f2_n, f2_i, f2_r, f2_u, f2_l, mj_tg, mj_c1, mj_c2, mj_ar, mj_aw, mq_cb, mq_oi, mj_rm, Value.category, -getElem?_pos, List.getElem?_cons_zero, decide_eq_true, decide_eq_false, nl_lt, nl_le, ln_lt, ln_le, nl_eq, ln_eq, nl_add, ln_add, nl_sub, ln_mul, nI_sub, nI_mul, nI_add, nI_lt_iff, nI_le_iff, nI_inj, nI_num, mq_ix, nI_1, nl_mul, nl_div, x0, hI.u.ob, hv, ky_ha, on1, narrow_b0]
  | some p =>
    have h4 : cbS ms p = 4 := by simpa [oFit] using h4
    obtain ⟨r, e, q, j, hr, rfl, hx, hj⟩ := hi
    obtain ⟨r', rfl, hc⟩ := Nx_arr hx h4
    have r1 := l_alg (d := d) (i := nI e) z hI (r := r') (m0 := cbV ms p) (by omega) hl hv (cbV ms p) 0 _ _ _ _ (by omega) hc hj
    simp only [ky_ha]
    rw [nI_0] at r1
    simp (disch := (first | omega | decide)) [c119, s119_0, s119_1, s119_2, s119_3, s119_4, s119_5, s119_7, s119_8, s119_11, s119_12, s119_15, s119_18, s119_19, s119_22, s119_23, s119_26, s119_29, s119_31, s119_32, s119_35, s119_37, s119_40, s119_41, s119_44, s119_45, s119_48, s119_50, s119_53, s119_55, s119_58, s119_59, s119_62, s119_63, s119_65, s119_67, s119_70, s119_71, s119_74, s119_75, s119_78, s119_81, s119_82, s119_83, s119_84, s119_87, s119_88, s119_91, s119_92, s119_95, s119_98, s119_99, mq_k0s, mq_k1s, mq_k2s, mq_k4s, mq_k5s, mq_k5n, mq_k5as, mq_k6s, mj_pu, mj_lo, mj_br, mj_hr, mj_hw, mq_gf, mq_len, mq_al, mq_pf, mq_ok, mj_re, mq_lkm, mq_lkn, mj_ldi, mj_ldl, mj_lda, mj_ii, mj_ll, mj_li, mj_i1, ms_1, ms_2, f1_n, f1_i, f1_r, f1_u, f1_l, f2_n, f2_i, f2_r, f2_u, f2_l, mj_tg, mj_c1, mj_c2, mj_ar, mj_aw, mq_cb, mq_oi, mj_rm, Value.category, -getElem?_pos, List.getElem?_cons_zero, decide_eq_true, decide_eq_false, nl_lt, nl_le, ln_lt, ln_le, nl_eq, ln_eq, nl_add, ln_add, nl_sub, ln_mul, nI_sub, nI_mul, nI_add, nI_lt_iff, nI_le_iff, nI_inj, nI_num, mq_ix, nI_1, nl_mul, nl_div]
    refine mq_wk ?_ r1
    simp [mq_sub, mj_lk]
def opFit (ms t : List Int32) (o : Option Nat) : Bool := oFit ms 5 o && (oFit ms 7 (cbNm ms t o) && oFit ms 7 (cbNm ms uv_ o))
theorem ky_of {a : Nat} {t : List Int32} (z : kz A κ M k T row) (hI : iT M ms n S V H E N) (hi : iA (tbA S V H E N) ms n i o) (hg : sg M a t) : mj_V (d + 7) 106 [.ref κ, .int i, .ref a] M = some (some (.int (on1 (opFit ms t o))), M) := by
  obtain ⟨u0, x0⟩ := z.fa
  have v1 := q_fits (d := d + 4) (s := 5) (by decide) hI hi
  obtain ⟨x, v2, x2⟩ := q_named (d := d) hI hi hg
  have v3 := q_fits (d := d + 4) (s := 7) (by decide) hI x2
  obtain ⟨y, v4, x4⟩ := q_named (d := d) hI hi z.s4
  have v5 := q_fits (d := d + 4) (s := 7) (by decide) hI x4
  rw [show cbMb ms (cbTx ms t) o = cbNm ms t o from rfl, show nI 7 = 7 from rfl] at v3
  rw [show cbMb ms (cbTx ms uv_) o = cbNm ms uv_ o from rfl, show nI 7 = 7 from rfl] at v5
  rw [show nI 5 = 5 from rfl] at v1
  unfold opFit
  cases b1 : oFit ms 5 o
  · rw [b1] at v1
    simp at v1
    simp (disch := (first | omega | decide)) [c106, s106_0, s106_1, s106_4, s106_5, s106_6, s106_9, s106_12, s106_13, s106_16, s106_17, s106_20, s106_21, s106_22, s106_25, s106_27, s106_30, s106_33, s106_34, s106_37, s106_38, s106_41, s106_42, s106_44, s106_47, s106_49, s106_52, s106_55, s106_56, s106_59, s106_60, mq_k0s, mq_k1s, mq_k2s, mq_k4s, mq_k5s, mq_k5n, mq_k5as, mq_k6s, mj_pu, mj_lo, mj_br, mj_hr, mj_hw, mq_gf, mq_len, mq_al, mq_pf, mq_ok, mj_re, mq_lkm, mq_lkn, mj_ldi, mj_ldl, mj_lda, mj_ii, mj_ll, mj_li, mj_i1, ms_1, ms_2, f1_n, f1_i, f1_r, f1_u, f1_l, f2_n, f2_i, f2_r, f2_u, f2_l, mj_tg, mj_c1, mj_c2, mj_ar, mj_aw, mq_cb, mq_oi, mj_rm, Value.category, -getElem?_pos, List.getElem?_cons_zero, decide_eq_true, decide_eq_false, nl_lt, nl_le, ln_lt, ln_le, nl_eq, ln_eq, nl_add, ln_add, nl_sub, ln_mul, nI_sub, nI_mul, nI_add, nI_lt_iff, nI_le_iff, nI_inj, nI_num, mq_ix, nI_1, nl_mul, nl_div, x0, hI.u.ob, v1, on1, narrow_b0]
  · rw [b1] at v1
    simp at v1
    cases b2 : oFit ms 7 (cbNm ms t o)
    · rw [b2] at v3
      simp at v3
      simp (disch := (first | omega | decide)) [c106, s106_0, s106_1, s106_4, s106_5, s106_6, s106_9, s106_12, s106_13, s106_16, s106_17, s106_20, s106_21, s106_22, s106_25, s106_27, s106_30, s106_33, s106_34, s106_37, s106_38, s106_41, s106_42, s106_44, s106_47, s106_49, s106_52, s106_55, s106_56, s106_59, s106_60, mq_k0s, mq_k1s, mq_k2s, mq_k4s, mq_k5s, mq_k5n, mq_k5as, mq_k6s, mj_pu, mj_lo, mj_br, mj_hr, mj_hw, mq_gf, mq_len, mq_al, mq_pf, mq_ok, mj_re, mq_lkm, mq_lkn, mj_ldi, mj_ldl, mj_lda, mj_ii, mj_ll, mj_li, mj_i1, ms_1, ms_2, f1_n, f1_i, f1_r, f1_u, f1_l, f2_n, f2_i, f2_r, f2_u, f2_l, mj_tg, mj_c1, mj_c2, mj_ar, mj_aw, mq_cb, mq_oi, mj_rm, Value.category, -getElem?_pos, List.getElem?_cons_zero, decide_eq_true, decide_eq_false, nl_lt, nl_le, ln_lt, ln_le, nl_eq, ln_eq, nl_add, ln_add, nl_sub, ln_mul, nI_sub, nI_mul, nI_add, nI_lt_iff, nI_le_iff, nI_inj, nI_num, mq_ix, nI_1, nl_mul, nl_div, x0, hI.u.ob, v1, v2, v3, on1, narrow_b0]
    · rw [b2] at v3
      simp at v3
      cases b3 : oFit ms 7 (cbNm ms uv_ o)
      · rw [b3] at v5
        simp at v5
        simp (disch := (first | omega | decide)) [c106, s106_0, s106_1, s106_4, s106_5, s106_6, s106_9, s106_12, s106_13, s106_16, s106_17, s106_20, s106_21, s106_22, s106_25, s106_27, s106_30, s106_33, s106_34, s106_37, s106_38, s106_41, s106_42, s106_44, s106_47, s106_49, s106_52, s106_55, s106_56, s106_59, s106_60, mq_k0s, mq_k1s, mq_k2s, mq_k4s, mq_k5s, mq_k5n, mq_k5as, mq_k6s, mj_pu, mj_lo, mj_br, mj_hr, mj_hw, mq_gf, mq_len, mq_al, mq_pf, mq_ok, mj_re, mq_lkm, mq_lkn, mj_ldi, mj_ldl, mj_lda, mj_ii, mj_ll, mj_li, mj_i1, ms_1, ms_2, f1_n, f1_i, f1_r, f1_u, f1_l, f2_n, f2_i, f2_r, f2_u, f2_l, mj_tg, mj_c1, mj_c2, mj_ar, mj_aw, mq_cb, mq_oi, mj_rm, Value.category, -getElem?_pos, List.getElem?_cons_zero, decide_eq_true, decide_eq_false, nl_lt, nl_le, ln_lt, ln_le, nl_eq, ln_eq, nl_add, ln_add, nl_sub, ln_mul, nI_sub, nI_mul, nI_add, nI_lt_iff, nI_le_iff, nI_inj, nI_num, mq_ix, nI_1, nl_mul, nl_div, x0, hI.u.ob, v1, v2, v3, v4, v5, on1, narrow_b0]
      · rw [b3] at v5
        simp at v5
        simp (disch := (first | omega | decide)) [c106, s106_0, s106_1, s106_4, s106_5, s106_6, s106_9, s106_12, s106_13, s106_16, s106_17, s106_20, s106_21, s106_22, s106_25, s106_27, s106_30, s106_33, s106_34, s106_37, s106_38, s106_41, s106_42, s106_44, s106_47, s106_49, s106_52, s106_55, s106_56, s106_59, s106_60, mq_k0s, mq_k1s, mq_k2s, mq_k4s, mq_k5s, mq_k5n, mq_k5as, mq_k6s, mj_pu, mj_lo, mj_br, mj_hr, mj_hw, mq_gf, mq_len, mq_al, mq_pf, mq_ok, mj_re, mq_lkm, mq_lkn, mj_ldi, mj_ldl, mj_lda, mj_ii, mj_ll, mj_li, mj_i1, ms_1, ms_2, f1_n, f1_i, f1_r, f1_u, f1_l, f2_n, f2_i, f2_r, f2_u, f2_l, mj_tg, mj_c1, mj_c2, mj_ar, mj_aw, mq_cb, mq_oi, mj_rm, Value.category, -getElem?_pos, List.getElem?_cons_zero, decide_eq_true, decide_eq_false, nl_lt, nl_le, ln_lt, ln_le, nl_eq, ln_eq, nl_add, ln_add, nl_sub, ln_mul, nI_sub, nI_mul, nI_add, nI_lt_iff, nI_le_iff, nI_inj, nI_num, mq_ix, nI_1, nl_mul, nl_div, x0, hI.u.ob, v1, v2, v3, v4, v5, on1, narrow_b1]
end KZ
end
