/- 94.key13 -/
section
set_option maxRecDepth 512
/-! Class: Key: a message is received. -/
/- 79 PasskeyHouse$Key.formFault(LPasskeyHouse$Bytes;I)I -/
theorem s79_0 {d : Nat} {ls : mj_L} {st : List Value} {M : mj_H} : mj_Rn d mj_m79 0 ls st M = mq_k0 d mj_m79 1 ls M (mj_ldi (mj_lk ls 2) st) := mj_R0 (r := (.iload_n 2, 1, 0, 0, 0)) rfl rfl
theorem s79_1 {d : Nat} {ls : mj_L} {st : List Value} {M : mj_H} : mj_Rn d mj_m79 1 ls st M = mq_k2 d mj_m79 ls M (mj_br (.tableswitch 104 (-1) 8 #[55, 104, 71, 71, 104, 57, 104, 71, 57, 57]) 1 st) := mj_R2 (r := (.tableswitch 104 (-1) 8 #[55, 104, 71, 71, 104, 57, 104, 71, 57, 57], 55, 0, 0, 0)) rfl rfl
theorem s79_56 {d : Nat} {ls : mj_L} {st : List Value} {M : mj_H} : mj_Rn d mj_m79 56 ls st M = mj_Rn d mj_m79 57 ls (.int 3 :: st) M := mj_R0 (r := (.iconst 3, 1, 0, 0, 0)) rfl rfl
theorem s79_57 {d : Nat} {ls : mj_L} {st : List Value} {M : mj_H} : mj_Rn d mj_m79 57 ls st M = mq_k6 M (mj_re (some .int) (.ireturn) st) := mj_R6 (r := (.ireturn, 1, 0, 0, 0)) rfl rfl
theorem s79_58 {d : Nat} {ls : mj_L} {st : List Value} {M : mj_H} : mj_Rn d mj_m79 58 ls st M = mq_k0 d mj_m79 59 ls M (mj_lda (mj_lk ls 1) st) := mj_R0 (r := (.aload_n 1, 1, 0, 0, 0)) rfl rfl
theorem s79_59 {d : Nat} {ls : mj_L} {st : List Value} {M : mj_H} : mj_Rn (d + 1) mj_m79 59 ls st M = mq_k5a (d + 1) mj_m79 62 ls M 9 (mq_cb 0 0 1 st M) := mj_R5e (r := (.invokevirtual 99, 3, 0, 9, 12441)) (z := mj_m9) rfl rfl (by decide) (by decide) rfl
theorem s79_62 {d : Nat} {ls : mj_L} {st : List Value} {M : mj_H} : mj_Rn d mj_m79 62 ls st M = mj_Rn d mj_m79 63 ls (.int 1 :: st) M := mj_R0 (r := (.iconst 1, 1, 0, 0, 0)) rfl rfl
theorem s79_63 {d : Nat} {ls : mj_L} {st : List Value} {M : mj_H} : mj_Rn d mj_m79 63 ls st M = mq_k2 d mj_m79 ls M (mj_br (.if_icmp .ne 7) 63 st) := mj_R2 (r := (.if_icmp .ne 7, 3, 0, 0, 0)) rfl rfl
theorem s79_66 {d : Nat} {ls : mj_L} {st : List Value} {M : mj_H} : mj_Rn d mj_m79 66 ls st M = mj_Rn d mj_m79 67 ls (.int 0 :: st) M := mj_R0 (r := (.iconst 0, 1, 0, 0, 0)) rfl rfl
theorem s79_67 {d : Nat} {ls : mj_L} {st : List Value} {M : mj_H} : mj_Rn d mj_m79 67 ls st M = mj_Rn d mj_m79 71 ls st M := mj_R2 (r := (.goto 4, 3, 0, 0, 0)) rfl rfl
theorem s79_70 {d : Nat} {ls : mj_L} {st : List Value} {M : mj_H} : mj_Rn d mj_m79 70 ls st M = mj_Rn d mj_m79 71 ls (.int 3 :: st) M := mj_R0 (r := (.iconst 3, 1, 0, 0, 0)) rfl rfl
theorem s79_71 {d : Nat} {ls : mj_L} {st : List Value} {M : mj_H} : mj_Rn d mj_m79 71 ls st M = mq_k6 M (mj_re (some .int) (.ireturn) st) := mj_R6 (r := (.ireturn, 1, 0, 0, 0)) rfl rfl
theorem s79_72 {d : Nat} {ls : mj_L} {st : List Value} {M : mj_H} : mj_Rn d mj_m79 72 ls st M = mq_k0 d mj_m79 73 ls M (mj_lda (mj_lk ls 0) st) := mj_R0 (r := (.aload_n 0, 1, 0, 0, 0)) rfl rfl
theorem s79_73 {d : Nat} {ls : mj_L} {st : List Value} {M : mj_H} : mj_Rn d mj_m79 73 ls st M = mq_k0 d mj_m79 76 ls M (mq_gf 5 1 st M) := (mj_R3 (r := (.getfield 15, 3, 5, 1, 16598)) rfl rfl).trans (congrArg (mq_k0 d mj_m79 76 ls M) mq_gf_eq)
theorem s79_76 {d : Nat} {ls : mj_L} {st : List Value} {M : mj_H} : mj_Rn d mj_m79 76 ls st M = mq_k0 d mj_m79 77 ls M (mj_lda (mj_lk ls 1) st) := mj_R0 (r := (.aload_n 1, 1, 0, 0, 0)) rfl rfl
theorem s79_77 {d : Nat} {ls : mj_L} {st : List Value} {M : mj_H} : mj_Rn (d + 1) mj_m79 77 ls st M = mq_k5a (d + 1) mj_m79 80 ls M 80 (mq_cb 0 1 4 st M) := mj_R5e (r := (.invokevirtual 130, 3, 0, 80, 12447)) (z := mj_m80) rfl rfl (by decide) (by decide) rfl
theorem s79_80 {d : Nat} {ls : mj_L} {st : List Value} {M : mj_H} : mj_Rn d mj_m79 80 ls st M = mq_k2 d mj_m79 ls M (mj_br (.ifCond .ne 6) 80 st) := mj_R2 (r := (.ifCond .ne 6, 3, 0, 0, 0)) rfl rfl
theorem s79_83 {d : Nat} {ls : mj_L} {st : List Value} {M : mj_H} : mj_Rn d mj_m79 83 ls st M = mj_Rn d mj_m79 85 ls (.int 18 :: st) M := mj_R0 (r := (.bipush 18, 2, 0, 0, 0)) rfl rfl
theorem s79_85 {d : Nat} {ls : mj_L} {st : List Value} {M : mj_H} : mj_Rn d mj_m79 85 ls st M = mq_k6 M (mj_re (some .int) (.ireturn) st) := mj_R6 (r := (.ireturn, 1, 0, 0, 0)) rfl rfl
theorem s79_86 {d : Nat} {ls : mj_L} {st : List Value} {M : mj_H} : mj_Rn d mj_m79 86 ls st M = mq_k0 d mj_m79 87 ls M (mj_lda (mj_lk ls 0) st) := mj_R0 (r := (.aload_n 0, 1, 0, 0, 0)) rfl rfl
theorem s79_87 {d : Nat} {ls : mj_L} {st : List Value} {M : mj_H} : mj_Rn d mj_m79 87 ls st M = mq_k0 d mj_m79 90 ls M (mq_gf 5 1 st M) := (mj_R3 (r := (.getfield 15, 3, 5, 1, 16598)) rfl rfl).trans (congrArg (mq_k0 d mj_m79 90 ls M) mq_gf_eq)
theorem s79_90 {d : Nat} {ls : mj_L} {st : List Value} {M : mj_H} : mj_Rn d mj_m79 90 ls st M = mj_Rn d mj_m79 91 ls (.int 0 :: st) M := mj_R0 (r := (.iconst 0, 1, 0, 0, 0)) rfl rfl
theorem s79_91 {d : Nat} {ls : mj_L} {st : List Value} {M : mj_H} : mj_Rn (d + 1) mj_m79 91 ls st M = mq_k5a (d + 1) mj_m79 94 ls M 84 (mq_cb 0 1 4 st M) := mj_R5e (r := (.invokevirtual 136, 3, 0, 84, 12476)) (z := mj_m84) rfl rfl (by decide) (by decide) rfl
theorem s79_94 {d : Nat} {ls : mj_L} {st : List Value} {M : mj_H} : mj_Rn d mj_m79 94 ls st M = mj_Rn d mj_m79 95 ls (.int 5 :: st) M := mj_R0 (r := (.iconst 5, 1, 0, 0, 0)) rfl rfl
theorem s79_95 {d : Nat} {ls : mj_L} {st : List Value} {M : mj_H} : mj_Rn d mj_m79 95 ls st M = mq_k2 d mj_m79 ls M (mj_br (.if_icmp .ne 7) 95 st) := mj_R2 (r := (.if_icmp .ne 7, 3, 0, 0, 0)) rfl rfl
theorem s79_98 {d : Nat} {ls : mj_L} {st : List Value} {M : mj_H} : mj_Rn d mj_m79 98 ls st M = mj_Rn d mj_m79 99 ls (.int 0 :: st) M := mj_R0 (r := (.iconst 0, 1, 0, 0, 0)) rfl rfl
theorem s79_99 {d : Nat} {ls : mj_L} {st : List Value} {M : mj_H} : mj_Rn d mj_m79 99 ls st M = mj_Rn d mj_m79 104 ls st M := mj_R2 (r := (.goto 5, 3, 0, 0, 0)) rfl rfl
theorem s79_102 {d : Nat} {ls : mj_L} {st : List Value} {M : mj_H} : mj_Rn d mj_m79 102 ls st M = mj_Rn d mj_m79 104 ls (.int 17 :: st) M := mj_R0 (r := (.bipush 17, 2, 0, 0, 0)) rfl rfl
theorem s79_104 {d : Nat} {ls : mj_L} {st : List Value} {M : mj_H} : mj_Rn d mj_m79 104 ls st M = mq_k6 M (mj_re (some .int) (.ireturn) st) := mj_R6 (r := (.ireturn, 1, 0, 0, 0)) rfl rfl
theorem s79_105 {d : Nat} {ls : mj_L} {st : List Value} {M : mj_H} : mj_Rn d mj_m79 105 ls st M = mj_Rn d mj_m79 106 ls (.int 1 :: st) M := mj_R0 (r := (.iconst 1, 1, 0, 0, 0)) rfl rfl
theorem s79_106 {d : Nat} {ls : mj_L} {st : List Value} {M : mj_H} : mj_Rn d mj_m79 106 ls st M = mq_k6 M (mj_re (some .int) (.ireturn) st) := mj_R6 (r := (.ireturn, 1, 0, 0, 0)) rfl rfl
/- 78 PasskeyHouse$Key.receive(LPasskeyHouse$Bytes;)I -/
theorem s78_0 {d : Nat} {ls : mj_L} {st : List Value} {M : mj_H} : mj_Rn d mj_m78 0 ls st M = mq_k0 d mj_m78 1 ls M (mj_lda (mj_lk ls 0) st) := mj_R0 (r := (.aload_n 0, 1, 0, 0, 0)) rfl rfl
theorem s78_1 {d : Nat} {ls : mj_L} {st : List Value} {M : mj_H} : mj_Rn d mj_m78 1 ls st M = mq_k0 d mj_m78 4 ls M (mq_gf 5 3 st M) := (mj_R3 (r := (.getfield 31, 3, 5, 3, 16604)) rfl rfl).trans (congrArg (mq_k0 d mj_m78 4 ls M) mq_gf_eq)
theorem s78_4 {d : Nat} {ls : mj_L} {st : List Value} {M : mj_H} : mj_Rn (d + 1) mj_m78 4 ls st M = mq_k5a (d + 1) mj_m78 7 ls M 12 (mq_cb 0 0 1 st M) := mj_R5e (r := (.invokevirtual 92, 3, 0, 12, 12439)) (z := mj_m12) rfl rfl (by decide) (by decide) rfl
theorem s78_7 {d : Nat} {ls : mj_L} {st : List Value} {M : mj_H} : mj_Rn d mj_m78 7 ls st M = mq_k0 d mj_m78 8 ls M (mj_lda (mj_lk ls 0) st) := mj_R0 (r := (.aload_n 0, 1, 0, 0, 0)) rfl rfl
theorem s78_8 {d : Nat} {ls : mj_L} {st : List Value} {M : mj_H} : mj_Rn d mj_m78 8 ls st M = mq_k0 d mj_m78 11 ls M (mq_gf 5 2 st M) := (mj_R3 (r := (.getfield 22, 3, 5, 2, 16600)) rfl rfl).trans (congrArg (mq_k0 d mj_m78 11 ls M) mq_gf_eq)
theorem s78_11 {d : Nat} {ls : mj_L} {st : List Value} {M : mj_H} : mj_Rn d mj_m78 11 ls st M = mq_k0 d mj_m78 14 ls M (mq_gf 8 4 st M) := (mj_R3 (r := (.getfield 50, 3, 8, 4, 16495)) rfl rfl).trans (congrArg (mq_k0 d mj_m78 14 ls M) mq_gf_eq)
theorem s78_14 {d : Nat} {ls : mj_L} {st : List Value} {M : mj_H} : mj_Rn d mj_m78 14 ls st M = mq_k2 d mj_m78 ls M (mj_br (.ifCond .ne 6) 14 st) := mj_R2 (r := (.ifCond .ne 6, 3, 0, 0, 0)) rfl rfl
theorem s78_17 {d : Nat} {ls : mj_L} {st : List Value} {M : mj_H} : mj_Rn d mj_m78 17 ls st M = mj_Rn d mj_m78 19 ls (.int (-3) :: st) M := mj_R0 (r := (.bipush (-3), 2, 0, 0, 0)) rfl rfl
theorem s78_19 {d : Nat} {ls : mj_L} {st : List Value} {M : mj_H} : mj_Rn d mj_m78 19 ls st M = mq_k6 M (mj_re (some .int) (.ireturn) st) := mj_R6 (r := (.ireturn, 1, 0, 0, 0)) rfl rfl
theorem s78_20 {d : Nat} {ls : mj_L} {st : List Value} {M : mj_H} : mj_Rn d mj_m78 20 ls st M = mq_k0 d mj_m78 21 ls M (mj_lda (mj_lk ls 1) st) := mj_R0 (r := (.aload_n 1, 1, 0, 0, 0)) rfl rfl
theorem s78_21 {d : Nat} {ls : mj_L} {st : List Value} {M : mj_H} : mj_Rn d mj_m78 21 ls st M = mj_Rn d mj_m78 22 ls (.int 0 :: st) M := mj_R0 (r := (.iconst 0, 1, 0, 0, 0)) rfl rfl
theorem s78_22 {d : Nat} {ls : mj_L} {st : List Value} {M : mj_H} : mj_Rn (d + 1) mj_m78 22 ls st M = mq_k5a (d + 1) mj_m78 25 ls M 14 (mq_cb 0 1 1 st M) := mj_R5e (r := (.invokevirtual 95, 3, 0, 14, 12440)) (z := mj_m14) rfl rfl (by decide) (by decide) rfl
theorem s78_25 {d : Nat} {ls : mj_L} {st : List Value} {M : mj_H} : mj_Rn d mj_m78 25 ls st M = mq_k1 d mj_m78 26 M (mj_lo 4 (.istore 2) ls st) := (mj_R1 (r := (.istore_n 2, 1, 0, 0, 0)) rfl rfl).trans (congrArg (mq_k1 d mj_m78 26 M) (mq_sti (k := 2)))
theorem s78_26 {d : Nat} {ls : mj_L} {st : List Value} {M : mj_H} : mj_Rn d mj_m78 26 ls st M = mq_k0 d mj_m78 27 ls M (mj_ldi (mj_lk ls 2) st) := mj_R0 (r := (.iload_n 2, 1, 0, 0, 0)) rfl rfl
theorem s78_27 {d : Nat} {ls : mj_L} {st : List Value} {M : mj_H} : mj_Rn d mj_m78 27 ls st M = mj_Rn d mj_m78 29 ls (.int 8 :: st) M := mj_R0 (r := (.bipush 8, 2, 0, 0, 0)) rfl rfl
theorem s78_29 {d : Nat} {ls : mj_L} {st : List Value} {M : mj_H} : mj_Rn d mj_m78 29 ls st M = mq_k2 d mj_m78 ls M (mj_br (.if_icmp .ne 11) 29 st) := mj_R2 (r := (.if_icmp .ne 11, 3, 0, 0, 0)) rfl rfl
theorem s78_32 {d : Nat} {ls : mj_L} {st : List Value} {M : mj_H} : mj_Rn d mj_m78 32 ls st M = mq_k0 d mj_m78 33 ls M (mj_lda (mj_lk ls 1) st) := mj_R0 (r := (.aload_n 1, 1, 0, 0, 0)) rfl rfl
theorem s78_33 {d : Nat} {ls : mj_L} {st : List Value} {M : mj_H} : mj_Rn (d + 1) mj_m78 33 ls st M = mq_k5a (d + 1) mj_m78 36 ls M 9 (mq_cb 0 0 1 st M) := mj_R5e (r := (.invokevirtual 99, 3, 0, 9, 12441)) (z := mj_m9) rfl rfl (by decide) (by decide) rfl
theorem s78_36 {d : Nat} {ls : mj_L} {st : List Value} {M : mj_H} : mj_Rn d mj_m78 36 ls st M = mj_Rn d mj_m78 37 ls (.int 1 :: st) M := mj_R0 (r := (.iconst 1, 1, 0, 0, 0)) rfl rfl
theorem s78_37 {d : Nat} {ls : mj_L} {st : List Value} {M : mj_H} : mj_Rn d mj_m78 37 ls st M = mq_k2 d mj_m78 ls M (mj_br (.if_icmp .eq 8) 37 st) := mj_R2 (r := (.if_icmp .eq 8, 3, 0, 0, 0)) rfl rfl
theorem s78_40 {d : Nat} {ls : mj_L} {st : List Value} {M : mj_H} : mj_Rn d mj_m78 40 ls st M = mq_k0 d mj_m78 41 ls M (mj_lda (mj_lk ls 0) st) := mj_R0 (r := (.aload_n 0, 1, 0, 0, 0)) rfl rfl
theorem s78_41 {d : Nat} {ls : mj_L} {st : List Value} {M : mj_H} : mj_Rn d mj_m78 41 ls st M = mj_Rn d mj_m78 42 ls (.int 0 :: st) M := mj_R0 (r := (.iconst 0, 1, 0, 0, 0)) rfl rfl
theorem s78_42 {d : Nat} {ls : mj_L} {st : List Value} {M : mj_H} : mj_Rn d mj_m78 42 ls st M = mq_k4 d mj_m78 45 ls (mq_pf 5 12 0 st M) := (mj_R4 (r := (.putfield 58, 3, 5, 12, 16624)) rfl rfl).trans (congrArg (mq_k4 d mj_m78 45 ls) (mq_pf_eq rfl rfl))
theorem s78_45 {d : Nat} {ls : mj_L} {st : List Value} {M : mj_H} : mj_Rn d mj_m78 45 ls st M = mq_k0 d mj_m78 46 ls M (mj_lda (mj_lk ls 0) st) := mj_R0 (r := (.aload_n 0, 1, 0, 0, 0)) rfl rfl
theorem s78_46 {d : Nat} {ls : mj_L} {st : List Value} {M : mj_H} : mj_Rn d mj_m78 46 ls st M = mq_k0 d mj_m78 49 ls M (mq_gf 5 3 st M) := (mj_R3 (r := (.getfield 31, 3, 5, 3, 16604)) rfl rfl).trans (congrArg (mq_k0 d mj_m78 49 ls M) mq_gf_eq)
theorem s78_49 {d : Nat} {ls : mj_L} {st : List Value} {M : mj_H} : mj_Rn d mj_m78 49 ls st M = mj_Rn d mj_m78 50 ls (.int 0 :: st) M := mj_R0 (r := (.iconst 0, 1, 0, 0, 0)) rfl rfl
theorem s78_50 {d : Nat} {ls : mj_L} {st : List Value} {M : mj_H} : mj_Rn (d + 1) mj_m78 50 ls st M = mq_k5a (d + 1) mj_m78 53 ls M 45 (mq_cb 0 1 1 st M) := mj_R5e (r := (.invokevirtual 102, 3, 0, 45, 12442)) (z := mj_m45) rfl rfl (by decide) (by decide) rfl
theorem s78_53 {d : Nat} {ls : mj_L} {st : List Value} {M : mj_H} : mj_Rn d mj_m78 53 ls st M = mq_k0 d mj_m78 54 ls M (mj_lda (mj_lk ls 0) st) := mj_R0 (r := (.aload_n 0, 1, 0, 0, 0)) rfl rfl
theorem s78_54 {d : Nat} {ls : mj_L} {st : List Value} {M : mj_H} : mj_Rn d mj_m78 54 ls st M = mq_k0 d mj_m78 55 ls M (mj_lda (mj_lk ls 1) st) := mj_R0 (r := (.aload_n 1, 1, 0, 0, 0)) rfl rfl
theorem s78_55 {d : Nat} {ls : mj_L} {st : List Value} {M : mj_H} : mj_Rn d mj_m78 55 ls st M = mq_k0 d mj_m78 56 ls M (mj_ldi (mj_lk ls 2) st) := mj_R0 (r := (.iload_n 2, 1, 0, 0, 0)) rfl rfl
theorem s78_56 {d : Nat} {ls : mj_L} {st : List Value} {M : mj_H} : mj_Rn (d + 1) mj_m78 56 ls st M = mq_k5a (d + 1) mj_m78 59 ls M 79 (mq_cb 0 2 5 st M) := mj_R5e (r := (.invokevirtual 105, 3, 0, 79, 12443)) (z := mj_m79) rfl rfl (by decide) (by decide) rfl
theorem s78_59 {d : Nat} {ls : mj_L} {st : List Value} {M : mj_H} : mj_Rn d mj_m78 59 ls st M = mq_k1 d mj_m78 60 M (mj_lo 4 (.istore 3) ls st) := (mj_R1 (r := (.istore_n 3, 1, 0, 0, 0)) rfl rfl).trans (congrArg (mq_k1 d mj_m78 60 M) (mq_sti (k := 3)))
theorem s78_60 {d : Nat} {ls : mj_L} {st : List Value} {M : mj_H} : mj_Rn d mj_m78 60 ls st M = mq_k0 d mj_m78 61 ls M (mj_ldi (mj_lk ls 3) st) := mj_R0 (r := (.iload_n 3, 1, 0, 0, 0)) rfl rfl
theorem s78_61 {d : Nat} {ls : mj_L} {st : List Value} {M : mj_H} : mj_Rn d mj_m78 61 ls st M = mq_k2 d mj_m78 ls M (mj_br (.ifCond .ne 91) 61 st) := mj_R2 (r := (.ifCond .ne 91, 3, 0, 0, 0)) rfl rfl
theorem s78_64 {d : Nat} {ls : mj_L} {st : List Value} {M : mj_H} : mj_Rn d mj_m78 64 ls st M = mq_k0 d mj_m78 65 ls M (mj_ldi (mj_lk ls 2) st) := mj_R0 (r := (.iload_n 2, 1, 0, 0, 0)) rfl rfl
theorem s78_65 {d : Nat} {ls : mj_L} {st : List Value} {M : mj_H} : mj_Rn d mj_m78 65 ls st M = mq_k2 d mj_m78 ls M (mj_br (.tableswitch 82 1 7 #[43, 51, 82, 59, 82, 66, 74]) 65 st) := mj_R2 (r := (.tableswitch 82 1 7 #[43, 51, 82, 59, 82, 66, 74], 43, 0, 0, 0)) rfl rfl
theorem s78_108 {d : Nat} {ls : mj_L} {st : List Value} {M : mj_H} : mj_Rn d mj_m78 108 ls st M = mq_k0 d mj_m78 109 ls M (mj_lda (mj_lk ls 0) st) := mj_R0 (r := (.aload_n 0, 1, 0, 0, 0)) rfl rfl
theorem s78_109 {d : Nat} {ls : mj_L} {st : List Value} {M : mj_H} : mj_Rn (d + 1) mj_m78 109 ls st M = mq_k5a (d + 1) mj_m78 112 ls M 85 (mq_cb 0 0 5 st M) := mj_R5e (r := (.invokevirtual 109, 3, 0, 85, 12477)) (z := mj_m85) rfl rfl (by decide) (by decide) rfl
theorem s78_112 {d : Nat} {ls : mj_L} {st : List Value} {M : mj_H} : mj_Rn d mj_m78 112 ls st M = mq_k1 d mj_m78 113 M (mj_lo 4 (.istore 3) ls st) := (mj_R1 (r := (.istore_n 3, 1, 0, 0, 0)) rfl rfl).trans (congrArg (mq_k1 d mj_m78 113 M) (mq_sti (k := 3)))
theorem s78_113 {d : Nat} {ls : mj_L} {st : List Value} {M : mj_H} : mj_Rn d mj_m78 113 ls st M = mj_Rn d mj_m78 152 ls st M := mj_R2 (r := (.goto 39, 3, 0, 0, 0)) rfl rfl
theorem s78_116 {d : Nat} {ls : mj_L} {st : List Value} {M : mj_H} : mj_Rn d mj_m78 116 ls st M = mq_k0 d mj_m78 117 ls M (mj_lda (mj_lk ls 0) st) := mj_R0 (r := (.aload_n 0, 1, 0, 0, 0)) rfl rfl
theorem s78_117 {d : Nat} {ls : mj_L} {st : List Value} {M : mj_H} : mj_Rn (d + 1) mj_m78 117 ls st M = mq_k5a (d + 1) mj_m78 120 ls M 135 (mq_cb 0 0 5 st M) := mj_R5e (r := (.invokevirtual 112, 3, 0, 135, 16563)) (z := mj_m135) rfl rfl (by decide) (by decide) rfl
theorem s78_120 {d : Nat} {ls : mj_L} {st : List Value} {M : mj_H} : mj_Rn d mj_m78 120 ls st M = mq_k1 d mj_m78 121 M (mj_lo 4 (.istore 3) ls st) := (mj_R1 (r := (.istore_n 3, 1, 0, 0, 0)) rfl rfl).trans (congrArg (mq_k1 d mj_m78 121 M) (mq_sti (k := 3)))
theorem s78_121 {d : Nat} {ls : mj_L} {st : List Value} {M : mj_H} : mj_Rn d mj_m78 121 ls st M = mj_Rn d mj_m78 152 ls st M := mj_R2 (r := (.goto 31, 3, 0, 0, 0)) rfl rfl
theorem s78_124 {d : Nat} {ls : mj_L} {st : List Value} {M : mj_H} : mj_Rn d mj_m78 124 ls st M = mq_k0 d mj_m78 125 ls M (mj_lda (mj_lk ls 0) st) := mj_R0 (r := (.aload_n 0, 1, 0, 0, 0)) rfl rfl
theorem s78_125 {d : Nat} {ls : mj_L} {st : List Value} {M : mj_H} : mj_Rn (d + 1) mj_m78 125 ls st M = mq_k5a (d + 1) mj_m78 128 ls M 141 (mq_cb 0 0 5 st M) := mj_R5e (r := (.invokevirtual 115, 3, 0, 141, 16591)) (z := mj_m141) rfl rfl (by decide) (by decide) rfl
theorem s78_128 {d : Nat} {ls : mj_L} {st : List Value} {M : mj_H} : mj_Rn d mj_m78 128 ls st M = mj_Rn d mj_m78 152 ls st M := mj_R2 (r := (.goto 24, 3, 0, 0, 0)) rfl rfl
theorem s78_131 {d : Nat} {ls : mj_L} {st : List Value} {M : mj_H} : mj_Rn d mj_m78 131 ls st M = mq_k0 d mj_m78 132 ls M (mj_lda (mj_lk ls 0) st) := mj_R0 (r := (.aload_n 0, 1, 0, 0, 0)) rfl rfl
theorem s78_132 {d : Nat} {ls : mj_L} {st : List Value} {M : mj_H} : mj_Rn (d + 1) mj_m78 132 ls st M = mq_k5a (d + 1) mj_m78 135 ls M 142 (mq_cb 0 0 5 st M) := mj_R5e (r := (.invokevirtual 118, 3, 0, 142, 16597)) (z := mj_m142) rfl rfl (by decide) (by decide) rfl
theorem s78_135 {d : Nat} {ls : mj_L} {st : List Value} {M : mj_H} : mj_Rn d mj_m78 135 ls st M = mq_k1 d mj_m78 136 M (mj_lo 4 (.istore 3) ls st) := (mj_R1 (r := (.istore_n 3, 1, 0, 0, 0)) rfl rfl).trans (congrArg (mq_k1 d mj_m78 136 M) (mq_sti (k := 3)))
theorem s78_136 {d : Nat} {ls : mj_L} {st : List Value} {M : mj_H} : mj_Rn d mj_m78 136 ls st M = mj_Rn d mj_m78 152 ls st M := mj_R2 (r := (.goto 16, 3, 0, 0, 0)) rfl rfl
theorem s78_139 {d : Nat} {ls : mj_L} {st : List Value} {M : mj_H} : mj_Rn d mj_m78 139 ls st M = mq_k0 d mj_m78 140 ls M (mj_lda (mj_lk ls 0) st) := mj_R0 (r := (.aload_n 0, 1, 0, 0, 0)) rfl rfl
theorem s78_140 {d : Nat} {ls : mj_L} {st : List Value} {M : mj_H} : mj_Rn (d + 1) mj_m78 140 ls st M = mq_k5a (d + 1) mj_m78 143 ls M 154 (mq_cb 0 0 5 st M) := mj_R5e (r := (.invokevirtual 121, 3, 0, 154, 20505)) (z := mj_m154) rfl rfl (by decide) (by decide) rfl
theorem s78_143 {d : Nat} {ls : mj_L} {st : List Value} {M : mj_H} : mj_Rn d mj_m78 143 ls st M = mq_k1 d mj_m78 144 M (mj_lo 4 (.istore 3) ls st) := (mj_R1 (r := (.istore_n 3, 1, 0, 0, 0)) rfl rfl).trans (congrArg (mq_k1 d mj_m78 144 M) (mq_sti (k := 3)))
theorem s78_144 {d : Nat} {ls : mj_L} {st : List Value} {M : mj_H} : mj_Rn d mj_m78 144 ls st M = mj_Rn d mj_m78 152 ls st M := mj_R2 (r := (.goto 8, 3, 0, 0, 0)) rfl rfl
theorem s78_147 {d : Nat} {ls : mj_L} {st : List Value} {M : mj_H} : mj_Rn d mj_m78 147 ls st M = mq_k0 d mj_m78 148 ls M (mj_lda (mj_lk ls 0) st) := mj_R0 (r := (.aload_n 0, 1, 0, 0, 0)) rfl rfl
theorem s78_148 {d : Nat} {ls : mj_L} {st : List Value} {M : mj_H} : mj_Rn (d + 1) mj_m78 148 ls st M = mq_k5a (d + 1) mj_m78 151 ls M 156 (mq_cb 0 0 5 st M) := mj_R5e (r := (.invokevirtual 124, 3, 0, 156, 20513)) (z := mj_m156) rfl rfl (by decide) (by decide) rfl
theorem s78_151 {d : Nat} {ls : mj_L} {st : List Value} {M : mj_H} : mj_Rn d mj_m78 151 ls st M = mq_k1 d mj_m78 152 M (mj_lo 4 (.istore 3) ls st) := (mj_R1 (r := (.istore_n 3, 1, 0, 0, 0)) rfl rfl).trans (congrArg (mq_k1 d mj_m78 152 M) (mq_sti (k := 3)))
theorem s78_152 {d : Nat} {ls : mj_L} {st : List Value} {M : mj_H} : mj_Rn d mj_m78 152 ls st M = mq_k0 d mj_m78 153 ls M (mj_lda (mj_lk ls 0) st) := mj_R0 (r := (.aload_n 0, 1, 0, 0, 0)) rfl rfl
theorem s78_153 {d : Nat} {ls : mj_L} {st : List Value} {M : mj_H} : mj_Rn d mj_m78 153 ls st M = mj_Rn d mj_m78 154 ls (.int 1 :: st) M := mj_R0 (r := (.iconst 1, 1, 0, 0, 0)) rfl rfl
theorem s78_154 {d : Nat} {ls : mj_L} {st : List Value} {M : mj_H} : mj_Rn d mj_m78 154 ls st M = mq_k4 d mj_m78 157 ls (mq_pf 5 11 3 st M) := (mj_R4 (r := (.putfield 62, 3, 5, 11, 16622)) rfl rfl).trans (congrArg (mq_k4 d mj_m78 157 ls) (mq_pf_eq rfl rfl))
theorem s78_157 {d : Nat} {ls : mj_L} {st : List Value} {M : mj_H} : mj_Rn d mj_m78 157 ls st M = mq_k0 d mj_m78 158 ls M (mj_lda (mj_lk ls 0) st) := mj_R0 (r := (.aload_n 0, 1, 0, 0, 0)) rfl rfl
theorem s78_158 {d : Nat} {ls : mj_L} {st : List Value} {M : mj_H} : mj_Rn d mj_m78 158 ls st M = mq_k0 d mj_m78 159 ls M (mj_ldi (mj_lk ls 3) st) := mj_R0 (r := (.iload_n 3, 1, 0, 0, 0)) rfl rfl
theorem s78_159 {d : Nat} {ls : mj_L} {st : List Value} {M : mj_H} : mj_Rn (d + 1) mj_m78 159 ls st M = mq_k5a (d + 1) mj_m78 162 ls M 157 (mq_cb 0 1 5 st M) := mj_R5e (r := (.invokevirtual 127, 3, 0, 157, 20517)) (z := mj_m157) rfl rfl (by decide) (by decide) rfl
theorem s78_162 {d : Nat} {ls : mj_L} {st : List Value} {M : mj_H} : mj_Rn d mj_m78 162 ls st M = mq_k6 M (mj_re (some .int) (.ireturn) st) := mj_R6 (r := (.ireturn, 1, 0, 0, 0)) rfl rfl
theorem c79 {d : Nat} {a0 : Nat} {a1 : Nat} {x2 : Int32} {M : mj_H} : mj_V (d + 1) 79 [.ref a0, .ref a1, .int x2] M = mj_Rn d mj_m79 0 [(0, .ref a0), (1, .ref a1), (2, .int x2)] [] M := mj_V_go rfl (Nat.le_of_ble_eq_true rfl)
theorem c78 {d : Nat} {a0 : Nat} {a1 : Nat} {M : mj_H} : mj_V (d + 1) 78 [.ref a0, .ref a1] M = mj_Rn d mj_m78 0 [(0, .ref a0), (1, .ref a1)] [] M := mj_V_go rfl (Nat.le_of_ble_eq_true rfl)
def ky_form (ms : List Int32) : Int32 :=
  if ms = [] then 3
  else if cbB ms 0 = 4 ∨ cbB ms 0 = 7 ∨ cbB ms 0 = 8 then (if ms.length = 1 then 0 else 3)
  else if cbB ms 0 = 1 ∨ cbB ms 0 = 2 ∨ cbB ms 0 = 6 then (if cbI ms 4 1 = some ms.length then (if cbS ms 1 = 5 then 0 else 17) else 18)
  else 1
def ky_cmd (ms : List Int32) (k : Ky) (T : Tm) : Int32 × Ky × Tm :=
  if cbB ms 0 = 1 then ky_make ms k T
  else if cbB ms 0 = 2 then ky_sign ms k T
  else if cbB ms 0 = 4 then (0, (((((k.1.1.1.1, k.1.1.1.2 ++ rpInfo (!decide (k.1.1.1.1.2.2.2.2.2.2.2.2.1 = 0))), (k.1.1.2.1, k.1.1.2.2)), ((k.1.2.1.1, k.1.2.1.2), (k.1.2.2.1, k.1.2.2.2))), (((k.2.1.1.1, k.2.1.1.2), (k.2.1.2.1, k.2.1.2.2)), ((k.2.2.1.1, k.2.2.1.2), k.2.2.2))) : Ky), T)
  else if cbB ms 0 = 6 then ky_doPin ms k T
  else if cbB ms 0 = 7 then ky_reset k T
  else ky_next k T
def ky_r1 (ms : List Int32) (k : Ky) : Ky := (((((k.1.1.1.1, [0]), (k.1.1.2.1, k.1.1.2.2)), ((k.1.2.1.1, k.1.2.1.2), (k.1.2.2.1, k.1.2.2.2))), (((k.2.1.1.1, k.2.1.1.2), (k.2.1.2.1, if cbB ms 0 = 8 ∧ ms.length = 1 then k.2.1.2.2 else 0)), ((k.2.2.1.1, k.2.2.1.2), k.2.2.2))) : Ky)
def ky_r2 (ms : List Int32) (k : Ky) (T : Tm) : Int32 × Ky × Tm := if ky_form ms ≠ 0 then (ky_form ms, ky_r1 ms k, T) else ky_cmd ms (ky_r1 ms k) T
def ky_recv (ms : List Int32) (k : Ky) (T : Tm) : Int32 × Ky × Tm :=
  if k.1.1.1.1.2.1 = false then (-3, (((((k.1.1.1.1, []), (k.1.1.2.1, k.1.1.2.2)), ((k.1.2.1.1, k.1.2.1.2), (k.1.2.2.1, k.1.2.2.2))), (((k.2.1.1.1, k.2.1.1.2), (k.2.1.2.1, k.2.1.2.2)), ((k.2.2.1.1, k.2.2.1.2), k.2.2.2))) : Ky), T)
  else (st_end (((((((ky_r2 ms k T).2.1).1.1.1.1, ((ky_r2 ms k T).2.1).1.1.1.2), (((ky_r2 ms k T).2.1).1.1.2.1, ((ky_r2 ms k T).2.1).1.1.2.2)), ((((ky_r2 ms k T).2.1).1.2.1.1, ((ky_r2 ms k T).2.1).1.2.1.2), (((ky_r2 ms k T).2.1).1.2.2.1, ((ky_r2 ms k T).2.1).1.2.2.2))), (((((ky_r2 ms k T).2.1).2.1.1.1, ((ky_r2 ms k T).2.1).2.1.1.2), (true, ((ky_r2 ms k T).2.1).2.1.2.2)), ((((ky_r2 ms k T).2.1).2.2.1.1, ((ky_r2 ms k T).2.1).2.2.1.2), ((ky_r2 ms k T).2.1).2.2.2))) : Ky) (ky_r2 ms k T).1, ky_end (((((((ky_r2 ms k T).2.1).1.1.1.1, ((ky_r2 ms k T).2.1).1.1.1.2), (((ky_r2 ms k T).2.1).1.1.2.1, ((ky_r2 ms k T).2.1).1.1.2.2)), ((((ky_r2 ms k T).2.1).1.2.1.1, ((ky_r2 ms k T).2.1).1.2.1.2), (((ky_r2 ms k T).2.1).1.2.2.1, ((ky_r2 ms k T).2.1).1.2.2.2))), (((((ky_r2 ms k T).2.1).2.1.1.1, ((ky_r2 ms k T).2.1).2.1.1.2), (true, ((ky_r2 ms k T).2.1).2.1.2.2)), ((((ky_r2 ms k T).2.1).2.2.1.1, ((ky_r2 ms k T).2.1).2.2.1.2), ((ky_r2 ms k T).2.1).2.2.2))) : Ky) (ky_r2 ms k T).1, (ky_r2 ms k T).2.2)
def kR (A : Nat → Prop) (κ c : Nat) : Prop := kS A κ c ∨ (36 ≤ c ∧ c ≤ 41)
/-- what is small of a key -/
def kg (k : Ky) : Prop := (fw k.1.1.1.1) ∧ (k.1.1.1.1.2.2.2.2.2.1 + 3 < 2 ^ 29) ∧ (k.1.2.1.1 ≤ 9) ∧ (k.2.1.1.2 ≤ 3) ∧ (k.2.1.2.2 ≤ 8)
theorem kg.w {k : Ky} (hh_ : kg k) : fw k.1.1.1.1 := hh_.1
theorem kg.g {k : Ky} (hh_ : kg k) : k.1.1.1.1.2.2.2.2.2.1 + 3 < 2 ^ 29 := hh_.2.1
theorem kg.p {k : Ky} (hh_ : kg k) : k.1.2.1.1 ≤ 9 := hh_.2.2.1
theorem kg.x {k : Ky} (hh_ : kg k) : k.2.1.1.2 ≤ 3 := hh_.2.2.2.1
theorem kg.l {k : Ky} (hh_ : kg k) : k.2.1.2.2 ≤ 8 := hh_.2.2.2.2
theorem kg_mk_ {k : Ky} (f_0_ : fw k.1.1.1.1) (f_1_ : k.1.1.1.1.2.2.2.2.2.1 + 3 < 2 ^ 29) (f_2_ : k.1.2.1.1 ≤ 9) (f_3_ : k.2.1.1.2 ≤ 3) (f_4_ : k.2.1.2.2 ≤ 8) : kg k := And.intro f_0_ (And.intro f_1_ (And.intro f_2_ (And.intro f_3_ f_4_)))
theorem at0 {ms : List Int32} (h8 : ∀ v ∈ ms, v &&& 255 = v) (hn : ms ≠ []) : bt_at ms 0 = nI (cbB ms 0) ∧ cbB ms 0 < 256 := by
  have hl : 0 < ms.length := List.length_pos_iff.mpr hn
  refine ⟨?_, ms_by h8 0⟩
  rw [show (0 : Int32) = nI 0 from rfl, bt_at_nI (by decide), ms_at h8 hl]
theorem at0n : bt_at [] 0 = -1 := rfl
section KZ
variable {A : Nat → Prop} {κ : Nat} {M M' : mj_H} {k : Ky} {T T' : Tm} {row row' : List Int32} {d : Nat} {ms : List Int32} {n : Nat} {S V H E N : List Int32} {i : Int32} {o : Option Nat}
theorem kz.mk_i (z : kz A κ M k T row) (hf : mq_fr [36, 37, 38, 39, 40, 41] M M') (hg : mj_gr M M') : kz A κ M' k T row ∧ fx (kR A κ) M M' := by
  have hlo := z.lo
  have e : ∀ c, ¬ (36 ≤ c ∧ c ≤ 41) → M'[c]? = M[c]? := fun c hc => hf.2 c (by simp; omega)
  obtain ⟨r, hr⟩ := z.st
  have h30 : M'[30]? = M[30]? := e _ (by omega)
  have hz := mj_zz_eq hg h30 z.t.p30.pe
  have hsl := hg.sl
  have hl := hf.1
  rw [List.drop_eq_nil_of_le (by omega)] at hsl
  refine ⟨(kz_mk_ (z.t.fr (by omega) (fun c _ hc => e c (fun n => hc (z.aA c (by omega))))) ((e _ (by omega)).trans z.ob) (⟨r, hr.fr (fun c hc => e c (by omega))⟩) ((e _ (by omega)).trans z.cm) (z.re.fr (e _ (by omega)) (e _ (by omega))) (z.da.fr (e _ (by omega)) (e _ (by omega))) z.lo z.aA (fun i hi => (z.str i hi).fr (e _ (by omega)) (e _ (by omega)))), (fx_mk_ hg (fun c _ hc => e c (fun n => hc (Or.inr n))) ?_ ?_)⟩
  · rw [hsl, hz]; simp [mj_sl]
  · rw [hz, hl]; exact Nat.le_refl _
theorem fx.kr (h : fx (kS A κ) M M') : fx (kR A κ) M M' := h.mono (fun _ _ hc => Or.inl hc)
theorem iT.iw (h : iT M ms n S V H E N) : iw M := ⟨_, _, _, _, _, _, _, _, h.u⟩
theorem kz.iwf (z : kz A κ M k T row) (f : fx (kS A κ) M M') (h : iw M) : iw M' := by
  obtain ⟨src, c, p, S, V, H, E, N, hu⟩ := h
  have hlo := z.lo
  refine ⟨src, c, p, S, V, H, E, N, hu.fr (fun a h1 h2 => f.same a (z.lt (by omega)) (fun q => ?_))⟩
  rcases q with q | q
  · exact q (z.aA a (by omega))
  · omega
theorem kz.msf (z : kz A κ M k T row) (f : fx (kR A κ) M M') (h : bb M 28 29 400 ms) : bb M' 28 29 400 ms := by
  have hlo := z.lo
  have e : ∀ c, c < 30 → M'[c]? = M[c]? := fun c hc => f.same c (z.lt (by omega)) (fun q => by
    rcases q with (q | q) | q
    · exact q (z.aA c (by omega))
    · omega
    · omega)
  exact h.fr (e _ (by omega)) (e _ (by omega))
/-- the form of a message: its fault, or its items -/
theorem ky_ff (z : kz A κ M k T row) (hb : bb M 28 29 400 ms) (hi : iw M) : ∃ M', mj_V (d + 11) 79 [.ref κ, .ref 28, .int (bt_at ms 0)] M = some (some (.int (ky_form ms)), M') ∧ kz A κ M' k T row ∧ fx (kR A κ) M M' ∧ iw M' ∧ (ky_form ms = 0 → (cbB ms 0 = 1 ∨ cbB ms 0 = 2 ∨ cbB ms 0 = 6) → ∃ n S V H E N, iT M' ms n S V H E N) ∧ (ky_form ms = 0 → cbB ms 0 = 1 ∨ cbB ms 0 = 2 ∨ cbB ms 0 = 4 ∨ cbB ms 0 = 6 ∨ cbB ms 0 = 7 ∨ cbB ms 0 = 8) := by
  obtain ⟨u0, x0⟩ := z.fa
  have h8 := hb.2.2.2.2.1
  have hcap := hb.len
  have vs := v_size (d := d + 9) hb
  have hob := hb.2.2.2.2.2.1
  unfold ky_form
  by_cases hn : ms = []
  · subst hn
    rw [if_pos rfl, at0n]
    refine ⟨M, ?_, z, fx.rf, hi, (by intro h; cases h), (by intro h; cases h)⟩
    simp (disch := (first | omega | decide)) [c79, s79_0, s79_1, s79_56, s79_57, s79_58, s79_59, s79_62, s79_63, s79_66, s79_67, s79_70, s79_71, s79_72, s79_73, s79_76, s79_77, s79_80, s79_83, s79_85, s79_86, s79_87, s79_90, s79_91, s79_94, s79_95, s79_98, s79_99, s79_102, s79_104, s79_105, s79_106, mq_k0s, mq_k1s, mq_k2s, mq_k4s, mq_k5s, mq_k5n, mq_k5as, mq_k6s, mj_pu, mj_lo, mj_br, mj_hr, mj_hw, mq_gf, mq_len, mq_al, mq_pf, mq_ok, mj_re, mq_lkm, mq_lkn, mj_ldi, mj_ldl, mj_lda, mj_ii, mj_ll, mj_li, mj_i1, ms_1, ms_2, f1_n, f1_i, f1_r, f1_u, f1_l, f2_n, f2_i, f2_r, f2_u, f2_l, mj_tg, mj_c1, mj_c2, mj_ar, mj_aw, mq_cb, mq_oi, mj_rm, Value.category, -getElem?_pos, List.getElem?_cons_zero, decide_eq_true, decide_eq_false, nl_lt, nl_le, ln_lt, ln_le, nl_eq, ln_eq, nl_add, ln_add, nl_sub, ln_mul, nI_sub, nI_mul, nI_add, nI_lt_iff, nI_le_iff, nI_inj, nI_num, mq_ix, nI_1, nl_mul, nl_div, narrow]
  rw [if_neg hn]
  obtain ⟨e0, hB⟩ := at0 h8 hn
  rw [e0]
  by_cases c1 : cbB ms 0 = 4 ∨ cbB ms 0 = 7 ∨ cbB ms 0 = 8
  · rw [if_pos c1]
    refine ⟨M, ?_, z, fx.rf, hi, by intro _ h; omega, by intro _; omega⟩
    by_cases c2 : ms.length = 1
    · rw [c2] at vs
      rcases c1 with c1 | c1 | c1 <;> (rw [c1]; simp (disch := (first | omega | decide)) [c79, s79_0, s79_1, s79_56, s79_57, s79_58, s79_59, s79_62, s79_63, s79_66, s79_67, s79_70, s79_71, s79_72, s79_73, s79_76, s79_77, s79_80, s79_83, s79_85, s79_86, s79_87, s79_90, s79_91, s79_94, s79_95, s79_98, s79_99, s79_102, s79_104, s79_105, s79_106, mq_k0s, mq_k1s, mq_k2s, mq_k4s, mq_k5s, mq_k5n, mq_k5as, mq_k6s, mj_pu, mj_lo, mj_br, mj_hr, mj_hw, mq_gf, mq_len, mq_al, mq_pf, mq_ok, mj_re, mq_lkm, mq_lkn, mj_ldi, mj_ldl, mj_lda, mj_ii, mj_ll, mj_li, mj_i1, ms_1, ms_2, f1_n, f1_i, f1_r, f1_u, f1_l, f2_n, f2_i, f2_r, f2_u, f2_l, mj_tg, mj_c1, mj_c2, mj_ar, mj_aw, mq_cb, mq_oi, mj_rm, Value.category, -getElem?_pos, List.getElem?_cons_zero, decide_eq_true, decide_eq_false, nl_lt, nl_le, ln_lt, ln_le, nl_eq, ln_eq, nl_add, ln_add, nl_sub, ln_mul, nI_sub, nI_mul, nI_add, nI_lt_iff, nI_le_iff, nI_inj, nI_num, mq_ix, nI_1, nl_mul, nl_div, hob, vs, c2, narrow, show nI 4 = 4 from rfl, show nI 7 = 7 from rfl, show nI 8 = 8 from rfl])
    · rcases c1 with c1 | c1 | c1 <;> (rw [c1]; simp (disch := (first | omega | decide)) [c79, s79_0, s79_1, s79_56, s79_57, s79_58, s79_59, s79_62, s79_63, s79_66, s79_67, s79_70, s79_71, s79_72, s79_73, s79_76, s79_77, s79_80, s79_83, s79_85, s79_86, s79_87, s79_90, s79_91, s79_94, s79_95, s79_98, s79_99, s79_102, s79_104, s79_105, s79_106, mq_k0s, mq_k1s, mq_k2s, mq_k4s, mq_k5s, mq_k5n, mq_k5as, mq_k6s, mj_pu, mj_lo, mj_br, mj_hr, mj_hw, mq_gf, mq_len, mq_al, mq_pf, mq_ok, mj_re, mq_lkm, mq_lkn, mj_ldi, mj_ldl, mj_lda, mj_ii, mj_ll, mj_li, mj_i1, ms_1, ms_2, f1_n, f1_i, f1_r, f1_u, f1_l, f2_n, f2_i, f2_r, f2_u, f2_l, mj_tg, mj_c1, mj_c2, mj_ar, mj_aw, mq_cb, mq_oi, mj_rm, Value.category, -getElem?_pos, List.getElem?_cons_zero, decide_eq_true, decide_eq_false, nl_lt, nl_le, ln_lt, ln_le, nl_eq, ln_eq, nl_add, ln_add, nl_sub, ln_mul, nI_sub, nI_mul, nI_add, nI_lt_iff, nI_le_iff, nI_inj, nI_num, mq_ix, nI_1, nl_mul, nl_div, hob, vs, c2, narrow, show nI 4 = 4 from rfl, show nI 7 = 7 from rfl, show nI 8 = 8 from rfl])
  rw [if_neg c1]
  by_cases c2 : cbB ms 0 = 1 ∨ cbB ms 0 = 2 ∨ cbB ms 0 = 6
  · rw [if_pos c2]
    obtain ⟨M1, f1, hp⟩ := i_parse (d := d + 1) hi hb
    rcases hp with ⟨hm, p1, h1⟩ | ⟨hm, p1, h1⟩
    · obtain ⟨z1, g1⟩ := z.mk_i f1 (mj_V_gr p1)
      obtain ⟨j, S, V, H, E, N, hu, hnd, htk, hle⟩ := h1.w
      have hI1 : iT M1 ms j S V H E N := (iT_mk_ hu hm hnd htk hle (z.msf g1 hb))
      have hs := q_sort (d := d + 9) hI1 hI1.root
      simp only [oS] at hs
      have ho1 := hI1.u.ob
      have hS8 : cbS ms 1 < 8 := by have := ms_by h8 1; unfold cbS; omega
      obtain ⟨u1, x1⟩ := z1.fa
      rw [if_pos (show cbI ms 4 1 = some ms.length from hm)]
      obtain ⟨src, c, p, S0, V0, H0, E0, N0, hu0⟩ := hi
      have ho := hu0.ob
      refine ⟨M1, ?_, z1, g1, hI1.iw, fun _ _ => ⟨j, S, V, H, E, N, hI1⟩, by intro _; omega⟩
      by_cases c3 : cbS ms 1 = 5
      · rcases c2 with c2 | c2 | c2 <;> (rw [c2]; simp (disch := (first | omega | decide)) [c79, s79_0, s79_1, s79_56, s79_57, s79_58, s79_59, s79_62, s79_63, s79_66, s79_67, s79_70, s79_71, s79_72, s79_73, s79_76, s79_77, s79_80, s79_83, s79_85, s79_86, s79_87, s79_90, s79_91, s79_94, s79_95, s79_98, s79_99, s79_102, s79_104, s79_105, s79_106, mq_k0s, mq_k1s, mq_k2s, mq_k4s, mq_k5s, mq_k5n, mq_k5as, mq_k6s, mj_pu, mj_lo, mj_br, mj_hr, mj_hw, mq_gf, mq_len, mq_al, mq_pf, mq_ok, mj_re, mq_lkm, mq_lkn, mj_ldi, mj_ldl, mj_lda, mj_ii, mj_ll, mj_li, mj_i1, ms_1, ms_2, f1_n, f1_i, f1_r, f1_u, f1_l, f2_n, f2_i, f2_r, f2_u, f2_l, mj_tg, mj_c1, mj_c2, mj_ar, mj_aw, mq_cb, mq_oi, mj_rm, Value.category, -getElem?_pos, List.getElem?_cons_zero, decide_eq_true, decide_eq_false, nl_lt, nl_le, ln_lt, ln_le, nl_eq, ln_eq, nl_add, ln_add, nl_sub, ln_mul, nI_sub, nI_mul, nI_add, nI_lt_iff, nI_le_iff, nI_inj, nI_num, mq_ix, nI_1, nl_mul, nl_div, x0, ho, p1, x1, ho1, hs, c3, narrow, show nI 1 = 1 from rfl, show nI 2 = 2 from rfl, show nI 6 = 6 from rfl])
      · rcases c2 with c2 | c2 | c2 <;> (rw [c2]; simp (disch := (first | omega | decide)) [c79, s79_0, s79_1, s79_56, s79_57, s79_58, s79_59, s79_62, s79_63, s79_66, s79_67, s79_70, s79_71, s79_72, s79_73, s79_76, s79_77, s79_80, s79_83, s79_85, s79_86, s79_87, s79_90, s79_91, s79_94, s79_95, s79_98, s79_99, s79_102, s79_104, s79_105, s79_106, mq_k0s, mq_k1s, mq_k2s, mq_k4s, mq_k5s, mq_k5n, mq_k5as, mq_k6s, mj_pu, mj_lo, mj_br, mj_hr, mj_hw, mq_gf, mq_len, mq_al, mq_pf, mq_ok, mj_re, mq_lkm, mq_lkn, mj_ldi, mj_ldl, mj_lda, mj_ii, mj_ll, mj_li, mj_i1, ms_1, ms_2, f1_n, f1_i, f1_r, f1_u, f1_l, f2_n, f2_i, f2_r, f2_u, f2_l, mj_tg, mj_c1, mj_c2, mj_ar, mj_aw, mq_cb, mq_oi, mj_rm, Value.category, -getElem?_pos, List.getElem?_cons_zero, decide_eq_true, decide_eq_false, nl_lt, nl_le, ln_lt, ln_le, nl_eq, ln_eq, nl_add, ln_add, nl_sub, ln_mul, nI_sub, nI_mul, nI_add, nI_lt_iff, nI_le_iff, nI_inj, nI_num, mq_ix, nI_1, nl_mul, nl_div, x0, ho, p1, x1, ho1, hs, c3, narrow, show nI 1 = 1 from rfl, show nI 2 = 2 from rfl, show nI 6 = 6 from rfl])
    · obtain ⟨z1, g1⟩ := z.mk_i f1 (mj_V_gr p1)
      rw [if_neg (show ¬ cbI ms 4 1 = some ms.length from hm)]
      refine ⟨M1, ?_, z1, g1, h1, (by intro h; cases h), (by intro h; cases h)⟩
      obtain ⟨src, c, p, S, V, H, E, N, hu⟩ := hi
      have ho := hu.ob
      rcases c2 with c2 | c2 | c2 <;> (rw [c2]; simp (disch := (first | omega | decide)) [c79, s79_0, s79_1, s79_56, s79_57, s79_58, s79_59, s79_62, s79_63, s79_66, s79_67, s79_70, s79_71, s79_72, s79_73, s79_76, s79_77, s79_80, s79_83, s79_85, s79_86, s79_87, s79_90, s79_91, s79_94, s79_95, s79_98, s79_99, s79_102, s79_104, s79_105, s79_106, mq_k0s, mq_k1s, mq_k2s, mq_k4s, mq_k5s, mq_k5n, mq_k5as, mq_k6s, mj_pu, mj_lo, mj_br, mj_hr, mj_hw, mq_gf, mq_len, mq_al, mq_pf, mq_ok, mj_re, mq_lkm, mq_lkn, mj_ldi, mj_ldl, mj_lda, mj_ii, mj_ll, mj_li, mj_i1, ms_1, ms_2, f1_n, f1_i, f1_r, f1_u, f1_l, f2_n, f2_i, f2_r, f2_u, f2_l, mj_tg, mj_c1, mj_c2, mj_ar, mj_aw, mq_cb, mq_oi, mj_rm, Value.category, -getElem?_pos, List.getElem?_cons_zero, decide_eq_true, decide_eq_false, nl_lt, nl_le, ln_lt, ln_le, nl_eq, ln_eq, nl_add, ln_add, nl_sub, ln_mul, nI_sub, nI_mul, nI_add, nI_lt_iff, nI_le_iff, nI_inj, nI_num, mq_ix, nI_1, nl_mul, nl_div, x0, ho, p1, narrow, show nI 1 = 1 from rfl, show nI 2 = 2 from rfl, show nI 6 = 6 from rfl])
  · rw [if_neg c2]
    refine ⟨M, ?_, z, fx.rf, hi, (by intro h; cases h), (by intro h; cases h)⟩
    by_cases c3 : 8 < cbB ms 0
    · have ht : (nI (cbB ms 0)).toInt = (cbB ms 0 : Int) := nI_toInt (by omega)
      have h9 : (8 : Int) < (cbB ms 0 : Int) := by omega
      simp (disch := (first | omega | decide)) [c79, s79_0, s79_1, s79_56, s79_57, s79_58, s79_59, s79_62, s79_63, s79_66, s79_67, s79_70, s79_71, s79_72, s79_73, s79_76, s79_77, s79_80, s79_83, s79_85, s79_86, s79_87, s79_90, s79_91, s79_94, s79_95, s79_98, s79_99, s79_102, s79_104, s79_105, s79_106, mq_k0s, mq_k1s, mq_k2s, mq_k4s, mq_k5s, mq_k5n, mq_k5as, mq_k6s, mj_pu, mj_lo, mj_br, mj_hr, mj_hw, mq_gf, mq_len, mq_al, mq_pf, mq_ok, mj_re, mq_lkm, mq_lkn, mj_ldi, mj_ldl, mj_lda, mj_ii, mj_ll, mj_li, mj_i1, ms_1, ms_2, f1_n, f1_i, f1_r, f1_u, f1_l, f2_n, f2_i, f2_r, f2_u, f2_l, mj_tg, mj_c1, mj_c2, mj_ar, mj_aw, mq_cb, mq_oi, mj_rm, Value.category, -getElem?_pos, List.getElem?_cons_zero, decide_eq_true, decide_eq_false, nl_lt, nl_le, ln_lt, ln_le, nl_eq, ln_eq, nl_add, ln_add, nl_sub, ln_mul, nI_sub, nI_mul, nI_add, nI_lt_iff, nI_le_iff, nI_inj, nI_num, mq_ix, nI_1, nl_mul, nl_div, ht, h9, narrow]
    · rcases (show cbB ms 0 = 0 ∨ cbB ms 0 = 3 ∨ cbB ms 0 = 5 by omega) with c4 | c4 | c4 <;> (rw [c4]; simp (disch := (first | omega | decide)) [c79, s79_0, s79_1, s79_56, s79_57, s79_58, s79_59, s79_62, s79_63, s79_66, s79_67, s79_70, s79_71, s79_72, s79_73, s79_76, s79_77, s79_80, s79_83, s79_85, s79_86, s79_87, s79_90, s79_91, s79_94, s79_95, s79_98, s79_99, s79_102, s79_104, s79_105, s79_106, mq_k0s, mq_k1s, mq_k2s, mq_k4s, mq_k5s, mq_k5n, mq_k5as, mq_k6s, mj_pu, mj_lo, mj_br, mj_hr, mj_hw, mq_gf, mq_len, mq_al, mq_pf, mq_ok, mj_re, mq_lkm, mq_lkn, mj_ldi, mj_ldl, mj_lda, mj_ii, mj_ll, mj_li, mj_i1, ms_1, ms_2, f1_n, f1_i, f1_r, f1_u, f1_l, f2_n, f2_i, f2_r, f2_u, f2_l, mj_tg, mj_c1, mj_c2, mj_ar, mj_aw, mq_cb, mq_oi, mj_rm, Value.category, -getElem?_pos, List.getElem?_cons_zero, decide_eq_true, decide_eq_false, nl_lt, nl_le, ln_lt, ln_le, nl_eq, ln_eq, nl_add, ln_add, nl_sub, ln_mul, nI_sub, nI_mul, nI_add, nI_lt_iff, nI_le_iff, nI_inj, nI_num, mq_ix, nI_1, nl_mul, nl_div, narrow, nI_0, show nI 3 = 3 from rfl, show nI 5 = 5 from rfl])
/-- a command of which the form is good -/
theorem ky_c {l3 : Int32} (z : kz A κ M k T row) (hb : bb M 28 29 400 ms) (hg : kg k) (hon : k.1.1.1.1.2.1 = true) (hf : T.1.length + 5 < 1000) (hr : k.1.1.1.2.length ≤ 1) (hc : cbB ms 0 = 1 ∨ cbB ms 0 = 2 ∨ cbB ms 0 = 4 ∨ cbB ms 0 = 6 ∨ cbB ms 0 = 7 ∨ cbB ms 0 = 8) (hit : (cbB ms 0 = 1 ∨ cbB ms 0 = 2 ∨ cbB ms 0 = 6) → ∃ n S V H E N, iT M ms n S V H E N) :
    ∃ M' row', kz A κ M' (ky_cmd ms k T).2.1 (ky_cmd ms k T).2.2 row' ∧ fx (kS A κ) M M' ∧ ∀ q, mj_Rn (d + 11) mj_m78 152 [(3, .int (ky_cmd ms k T).1), (2, .int (nI (cbB ms 0))), (0, .ref κ), (1, .ref 28)] [] M' = some q → mj_Rn (d + 11) mj_m78 64 [(3, .int 0), (2, .int (nI (cbB ms 0))), (0, .ref κ), (1, .ref 28)] [] M = some q := by
  obtain ⟨u0, x0⟩ := z.fa
  unfold ky_cmd
  rcases hc with hc | hc | hc | hc | hc | hc
  · obtain ⟨n, S, V, H, E, N, hI⟩ := hit (by omega)
    obtain ⟨M1, row1, p1, z1, f1⟩ := ky_mak (d := d) z hI hg.w hon hg.p hf hr
    rw [if_pos hc]
    refine ⟨M1, row1, z1, f1, fun q hq => ?_⟩
    rw [hc] at hq ⊢
    rw [show nI 1 = 1 from rfl] at hq ⊢
    simp (disch := (first | omega | decide)) [s78_0, s78_1, s78_4, s78_7, s78_8, s78_11, s78_14, s78_17, s78_19, s78_20, s78_21, s78_22, s78_25, s78_26, s78_27, s78_29, s78_32, s78_33, s78_36, s78_37, s78_40, s78_41, s78_42, s78_45, s78_46, s78_49, s78_50, s78_53, s78_54, s78_55, s78_56, s78_59, s78_60, s78_61, s78_64, s78_65, s78_108, s78_109, s78_112, s78_113, s78_116, s78_117, s78_120, s78_121, s78_124, s78_125, s78_128, s78_131, s78_132, s78_135, s78_136, s78_139, s78_140, s78_143, s78_144, s78_147, s78_148, s78_151, s78_153, s78_154, s78_157, s78_158, s78_159, s78_162, mq_k0s, mq_k1s, mq_k2s, mq_k4s, mq_k5s, mq_k5n, mq_k5as, mq_k6s, mj_pu, mj_lo, mj_br, mj_hr, mj_hw, mq_gf, mq_len, mq_al, mq_pf, mq_ok, mj_re, mq_lkm, mq_lkn, mj_ldi, mj_ldl, mj_lda, mj_ii, mj_ll, mj_li, mj_i1, ms_1, ms_2, f1_n, f1_i, f1_r, f1_u, f1_l, f2_n, f2_i, f2_r, f2_u, f2_l, mj_tg, mj_c1, mj_c2, mj_ar, mj_aw, mq_cb, mq_oi, mj_rm, Value.category, -getElem?_pos, List.getElem?_cons_zero, decide_eq_true, decide_eq_false, nl_lt, nl_le, ln_lt, ln_le, nl_eq, ln_eq, nl_add, ln_add, nl_sub, ln_mul, nI_sub, nI_mul, nI_add, nI_lt_iff, nI_le_iff, nI_inj, nI_num, mq_ix, nI_1, nl_mul, nl_div, x0, p1]
    exact hq
  · obtain ⟨n, S, V, H, E, N, hI⟩ := hit (by omega)
    obtain ⟨M1, row1, p1, z1, f1⟩ := ky_sgn (d := d) z hI hg.w hon hg.p (by omega) hr
    rw [if_neg (by omega), if_pos hc]
    refine ⟨M1, row1, z1, f1, fun q hq => ?_⟩
    rw [hc] at hq ⊢
    rw [show nI 2 = 2 from rfl] at hq ⊢
    simp (disch := (first | omega | decide)) [s78_0, s78_1, s78_4, s78_7, s78_8, s78_11, s78_14, s78_17, s78_19, s78_20, s78_21, s78_22, s78_25, s78_26, s78_27, s78_29, s78_32, s78_33, s78_36, s78_37, s78_40, s78_41, s78_42, s78_45, s78_46, s78_49, s78_50, s78_53, s78_54, s78_55, s78_56, s78_59, s78_60, s78_61, s78_64, s78_65, s78_108, s78_109, s78_112, s78_113, s78_116, s78_117, s78_120, s78_121, s78_124, s78_125, s78_128, s78_131, s78_132, s78_135, s78_136, s78_139, s78_140, s78_143, s78_144, s78_147, s78_148, s78_151, s78_153, s78_154, s78_157, s78_158, s78_159, s78_162, mq_k0s, mq_k1s, mq_k2s, mq_k4s, mq_k5s, mq_k5n, mq_k5as, mq_k6s, mj_pu, mj_lo, mj_br, mj_hr, mj_hw, mq_gf, mq_len, mq_al, mq_pf, mq_ok, mj_re, mq_lkm, mq_lkn, mj_ldi, mj_ldl, mj_lda, mj_ii, mj_ll, mj_li, mj_i1, ms_1, ms_2, f1_n, f1_i, f1_r, f1_u, f1_l, f2_n, f2_i, f2_r, f2_u, f2_l, mj_tg, mj_c1, mj_c2, mj_ar, mj_aw, mq_cb, mq_oi, mj_rm, Value.category, -getElem?_pos, List.getElem?_cons_zero, decide_eq_true, decide_eq_false, nl_lt, nl_le, ln_lt, ln_le, nl_eq, ln_eq, nl_add, ln_add, nl_sub, ln_mul, nI_sub, nI_mul, nI_add, nI_lt_iff, nI_le_iff, nI_inj, nI_num, mq_ix, nI_1, nl_mul, nl_div, x0, p1]
    exact hq
  · obtain ⟨M1, p1, z1, f1⟩ := ky_inf (d := d + 5) z hr
    rw [if_neg (by omega), if_neg (by omega), if_pos hc]
    refine ⟨M1, _, z1, f1, fun q hq => ?_⟩
    rw [hc] at hq ⊢
    rw [show nI 4 = 4 from rfl] at hq ⊢
    simp (disch := (first | omega | decide)) [s78_0, s78_1, s78_4, s78_7, s78_8, s78_11, s78_14, s78_17, s78_19, s78_20, s78_21, s78_22, s78_25, s78_26, s78_27, s78_29, s78_32, s78_33, s78_36, s78_37, s78_40, s78_41, s78_42, s78_45, s78_46, s78_49, s78_50, s78_53, s78_54, s78_55, s78_56, s78_59, s78_60, s78_61, s78_64, s78_65, s78_108, s78_109, s78_112, s78_113, s78_116, s78_117, s78_120, s78_121, s78_124, s78_125, s78_128, s78_131, s78_132, s78_135, s78_136, s78_139, s78_140, s78_143, s78_144, s78_147, s78_148, s78_151, s78_153, s78_154, s78_157, s78_158, s78_159, s78_162, mq_k0s, mq_k1s, mq_k2s, mq_k4s, mq_k5s, mq_k5n, mq_k5as, mq_k6s, mj_pu, mj_lo, mj_br, mj_hr, mj_hw, mq_gf, mq_len, mq_al, mq_pf, mq_ok, mj_re, mq_lkm, mq_lkn, mj_ldi, mj_ldl, mj_lda, mj_ii, mj_ll, mj_li, mj_i1, ms_1, ms_2, f1_n, f1_i, f1_r, f1_u, f1_l, f2_n, f2_i, f2_r, f2_u, f2_l, mj_tg, mj_c1, mj_c2, mj_ar, mj_aw, mq_cb, mq_oi, mj_rm, Value.category, -getElem?_pos, List.getElem?_cons_zero, decide_eq_true, decide_eq_false, nl_lt, nl_le, ln_lt, ln_le, nl_eq, ln_eq, nl_add, ln_add, nl_sub, ln_mul, nI_sub, nI_mul, nI_add, nI_lt_iff, nI_le_iff, nI_inj, nI_num, mq_ix, nI_1, nl_mul, nl_div, x0, p1]
    exact hq
  · obtain ⟨n, S, V, H, E, N, hI⟩ := hit (by omega)
    obtain ⟨M1, row1, p1, z1, f1⟩ := ky_pin (d := d) z hI hg.w hg.g hon hg.x (by omega) hr
    rw [if_neg (by omega), if_neg (by omega), if_neg (by omega), if_pos hc]
    refine ⟨M1, row1, z1, f1, fun q hq => ?_⟩
    rw [hc] at hq ⊢
    rw [show nI 6 = 6 from rfl] at hq ⊢
    simp (disch := (first | omega | decide)) [s78_0, s78_1, s78_4, s78_7, s78_8, s78_11, s78_14, s78_17, s78_19, s78_20, s78_21, s78_22, s78_25, s78_26, s78_27, s78_29, s78_32, s78_33, s78_36, s78_37, s78_40, s78_41, s78_42, s78_45, s78_46, s78_49, s78_50, s78_53, s78_54, s78_55, s78_56, s78_59, s78_60, s78_61, s78_64, s78_65, s78_108, s78_109, s78_112, s78_113, s78_116, s78_117, s78_120, s78_121, s78_124, s78_125, s78_128, s78_131, s78_132, s78_135, s78_136, s78_139, s78_140, s78_143, s78_144, s78_147, s78_148, s78_151, s78_153, s78_154, s78_157, s78_158, s78_159, s78_162, mq_k0s, mq_k1s, mq_k2s, mq_k4s, mq_k5s, mq_k5n, mq_k5as, mq_k6s, mj_pu, mj_lo, mj_br, mj_hr, mj_hw, mq_gf, mq_len, mq_al, mq_pf, mq_ok, mj_re, mq_lkm, mq_lkn, mj_ldi, mj_ldl, mj_lda, mj_ii, mj_ll, mj_li, mj_i1, ms_1, ms_2, f1_n, f1_i, f1_r, f1_u, f1_l, f2_n, f2_i, f2_r, f2_u, f2_l, mj_tg, mj_c1, mj_c2, mj_ar, mj_aw, mq_cb, mq_oi, mj_rm, Value.category, -getElem?_pos, List.getElem?_cons_zero, decide_eq_true, decide_eq_false, nl_lt, nl_le, ln_lt, ln_le, nl_eq, ln_eq, nl_add, ln_add, nl_sub, ln_mul, nI_sub, nI_mul, nI_add, nI_lt_iff, nI_le_iff, nI_inj, nI_num, mq_ix, nI_1, nl_mul, nl_div, x0, p1]
    exact hq
  · obtain ⟨M1, row1, p1, z1, f1⟩ := ky_rst (d := d + 5) z hg.w hon hg.p (by omega)
    rw [if_neg (by omega), if_neg (by omega), if_neg (by omega), if_neg (by omega), if_pos hc]
    refine ⟨M1, row1, z1, f1, fun q hq => ?_⟩
    rw [hc] at hq ⊢
    rw [show nI 7 = 7 from rfl] at hq ⊢
    simp (disch := (first | omega | decide)) [s78_0, s78_1, s78_4, s78_7, s78_8, s78_11, s78_14, s78_17, s78_19, s78_20, s78_21, s78_22, s78_25, s78_26, s78_27, s78_29, s78_32, s78_33, s78_36, s78_37, s78_40, s78_41, s78_42, s78_45, s78_46, s78_49, s78_50, s78_53, s78_54, s78_55, s78_56, s78_59, s78_60, s78_61, s78_64, s78_65, s78_108, s78_109, s78_112, s78_113, s78_116, s78_117, s78_120, s78_121, s78_124, s78_125, s78_128, s78_131, s78_132, s78_135, s78_136, s78_139, s78_140, s78_143, s78_144, s78_147, s78_148, s78_151, s78_153, s78_154, s78_157, s78_158, s78_159, s78_162, mq_k0s, mq_k1s, mq_k2s, mq_k4s, mq_k5s, mq_k5n, mq_k5as, mq_k6s, mj_pu, mj_lo, mj_br, mj_hr, mj_hw, mq_gf, mq_len, mq_al, mq_pf, mq_ok, mj_re, mq_lkm, mq_lkn, mj_ldi, mj_ldl, mj_lda, mj_ii, mj_ll, mj_li, mj_i1, ms_1, ms_2, f1_n, f1_i, f1_r, f1_u, f1_l, f2_n, f2_i, f2_r, f2_u, f2_l, mj_tg, mj_c1, mj_c2, mj_ar, mj_aw, mq_cb, mq_oi, mj_rm, Value.category, -getElem?_pos, List.getElem?_cons_zero, decide_eq_true, decide_eq_false, nl_lt, nl_le, ln_lt, ln_le, nl_eq, ln_eq, nl_add, ln_add, nl_sub, ln_mul, nI_sub, nI_mul, nI_add, nI_lt_iff, nI_le_iff, nI_inj, nI_num, mq_ix, nI_1, nl_mul, nl_div, x0, p1]
    exact hq
  · obtain ⟨M1, row1, p1, z1, f1⟩ := ky_nxt (d := d + 4) z hg.w hon (by omega) hr hg.l
    rw [if_neg (by omega), if_neg (by omega), if_neg (by omega), if_neg (by omega), if_neg (by omega)]
    refine ⟨M1, row1, z1, f1, fun q hq => ?_⟩
    rw [hc] at hq ⊢
    rw [show nI 8 = 8 from rfl] at hq ⊢
    simp (disch := (first | omega | decide)) [s78_0, s78_1, s78_4, s78_7, s78_8, s78_11, s78_14, s78_17, s78_19, s78_20, s78_21, s78_22, s78_25, s78_26, s78_27, s78_29, s78_32, s78_33, s78_36, s78_37, s78_40, s78_41, s78_42, s78_45, s78_46, s78_49, s78_50, s78_53, s78_54, s78_55, s78_56, s78_59, s78_60, s78_61, s78_64, s78_65, s78_108, s78_109, s78_112, s78_113, s78_116, s78_117, s78_120, s78_121, s78_124, s78_125, s78_128, s78_131, s78_132, s78_135, s78_136, s78_139, s78_140, s78_143, s78_144, s78_147, s78_148, s78_151, s78_153, s78_154, s78_157, s78_158, s78_159, s78_162, mq_k0s, mq_k1s, mq_k2s, mq_k4s, mq_k5s, mq_k5n, mq_k5as, mq_k6s, mj_pu, mj_lo, mj_br, mj_hr, mj_hw, mq_gf, mq_len, mq_al, mq_pf, mq_ok, mj_re, mq_lkm, mq_lkn, mj_ldi, mj_ldl, mj_lda, mj_ii, mj_ll, mj_li, mj_i1, ms_1, ms_2, f1_n, f1_i, f1_r, f1_u, f1_l, f2_n, f2_i, f2_r, f2_u, f2_l, mj_tg, mj_c1, mj_c2, mj_ar, mj_aw, mq_cb, mq_oi, mj_rm, Value.category, -getElem?_pos, List.getElem?_cons_zero, decide_eq_true, decide_eq_false, nl_lt, nl_le, ln_lt, ln_le, nl_eq, ln_eq, nl_add, ln_add, nl_sub, ln_mul, nI_sub, nI_mul, nI_add, nI_lt_iff, nI_le_iff, nI_inj, nI_num, mq_ix, nI_1, nl_mul, nl_div, x0, p1]
    exact hq
theorem fx.tkr (h : fx (kR A κ) M M') {M'' : mj_H} (h' : fx (kR A κ) M' M'') : fx (kR A κ) M M'' := h.trs h'
theorem kz.iwr (z : kz A κ M k T row) (f : fx (kS A κ) M M') (h : iw M) : iw M' := z.iwf f h
theorem ky_rec (z : kz A κ M k T row) (hb : bb M 28 29 400 ms) (hi : iw M) (hg : kg k) (hf : T.1.length + 5 < 1000) : ∃ M' row', mj_V (d + 12) 78 [.ref κ, .ref 28] M = some (some (.int (ky_recv ms k T).1), M') ∧ kz A κ M' (ky_recv ms k T).2.1 (ky_recv ms k T).2.2 row' ∧ fx (kR A κ) M M' ∧ iw M' ∧ bb M' 28 29 400 ms := by
  obtain ⟨u0, x0⟩ := z.fa
  have hlo := z.lo
  have hh : ¬ κ < 25 := by omega
  obtain ⟨M1, p1, z1, f1⟩ := kz_clear (d := d + 10) z
  obtain ⟨u1, x1⟩ := z1.fa
  unfold ky_recv
  cases hon : k.1.1.1.1.2.1 with
  | false =>
    rw [if_pos rfl]
    refine ⟨M1, row, ?_, z1, f1.kr, z.iwf f1 hi, z.msf f1.kr hb⟩
    dsimp only at x1
    rw [hon] at x1
    simp (disch := (first | omega | decide)) [c78, s78_0, s78_1, s78_4, s78_7, s78_8, s78_11, s78_14, s78_17, s78_19, s78_20, s78_21, s78_22, s78_25, s78_26, s78_27, s78_29, s78_32, s78_33, s78_36, s78_37, s78_40, s78_41, s78_42, s78_45, s78_46, s78_49, s78_50, s78_53, s78_54, s78_55, s78_56, s78_59, s78_60, s78_61, s78_64, s78_65, s78_108, s78_109, s78_112, s78_113, s78_116, s78_117, s78_120, s78_121, s78_124, s78_125, s78_128, s78_131, s78_132, s78_135, s78_136, s78_139, s78_140, s78_143, s78_144, s78_147, s78_148, s78_151, s78_152, s78_153, s78_154, s78_157, s78_158, s78_159, s78_162, mq_k0s, mq_k1s, mq_k2s, mq_k4s, mq_k5s, mq_k5n, mq_k5as, mq_k6s, mj_pu, mj_lo, mj_br, mj_hr, mj_hw, mq_gf, mq_len, mq_al, mq_pf, mq_ok, mj_re, mq_lkm, mq_lkn, mj_ldi, mj_ldl, mj_lda, mj_ii, mj_ll, mj_li, mj_i1, ms_1, ms_2, f1_n, f1_i, f1_r, f1_u, f1_l, f2_n, f2_i, f2_r, f2_u, f2_l, mj_tg, mj_c1, mj_c2, mj_ar, mj_aw, mq_cb, mq_oi, mj_rm, Value.category, -getElem?_pos, List.getElem?_cons_zero, decide_eq_true, decide_eq_false, nl_lt, nl_le, ln_lt, ln_le, nl_eq, ln_eq, nl_add, ln_add, nl_sub, ln_mul, nI_sub, nI_mul, nI_add, nI_lt_iff, nI_le_iff, nI_inj, nI_num, mq_ix, nI_1, nl_mul, nl_div, x0, p1, x1, narrow]
  | true =>
  rw [if_neg (by simp)]
  dsimp only at x1
  rw [hon] at x1
  have hb1 := z.msf f1.kr hb
  have v1 := v_item (d := d + 10) hb1 0
  have s1 := v_size (d := d + 10) hb1
  have o1 := hb1.2.2.2.2.2.1
  have h8 := hb.2.2.2.2.1
  have hcap := hb.len
  -- the list goes, unless NEXT comes
  obtain ⟨M2, z2, f2, q2⟩ : ∃ M2, kz A κ M2 (((((k.1.1.1.1, []), (k.1.1.2.1, k.1.1.2.2)), ((k.1.2.1.1, k.1.2.1.2), (k.1.2.2.1, k.1.2.2.2))), (((k.2.1.1.1, k.2.1.1.2), (k.2.1.2.1, if cbB ms 0 = 8 ∧ ms.length = 1 then k.2.1.2.2 else 0)), ((k.2.2.1.1, k.2.2.1.2), k.2.2.2))) : Ky) T row ∧ fx (kS A κ) M1 M2 ∧ ∀ q, mj_Rn (d + 11) mj_m78 45 [(2, .int (bt_at ms 0)), (0, .ref κ), (1, .ref 28)] [] M2 = some q → mj_V (d + 12) 78 [.ref κ, .ref 28] M = some q := by
    by_cases hc : cbB ms 0 = 8 ∧ ms.length = 1
    · refine ⟨M1, by rw [if_pos hc]; exact z1, fx.rf, fun q hq => ?_⟩
      have hn : ms ≠ [] := by intro h; rw [h] at hc; simp at hc
      obtain ⟨e0, -⟩ := at0 h8 hn
      rw [e0, hc.1, show nI 8 = 8 from rfl] at hq v1
      rw [hc.2] at s1
      simp (disch := (first | omega | decide)) [c78, s78_0, s78_1, s78_4, s78_7, s78_8, s78_11, s78_14, s78_17, s78_19, s78_20, s78_21, s78_22, s78_25, s78_26, s78_27, s78_29, s78_32, s78_33, s78_36, s78_37, s78_40, s78_41, s78_42, s78_46, s78_49, s78_50, s78_53, s78_54, s78_55, s78_56, s78_59, s78_60, s78_61, s78_64, s78_65, s78_108, s78_109, s78_112, s78_113, s78_116, s78_117, s78_120, s78_121, s78_124, s78_125, s78_128, s78_131, s78_132, s78_135, s78_136, s78_139, s78_140, s78_143, s78_144, s78_147, s78_148, s78_151, s78_152, s78_153, s78_154, s78_157, s78_158, s78_159, s78_162, mq_k0s, mq_k1s, mq_k2s, mq_k4s, mq_k5s, mq_k5n, mq_k5as, mq_k6s, mj_pu, mj_lo, mj_br, mj_hr, mj_hw, mq_gf, mq_len, mq_al, mq_pf, mq_ok, mj_re, mq_lkm, mq_lkn, mj_ldi, mj_ldl, mj_lda, mj_ii, mj_ll, mj_li, mj_i1, ms_1, ms_2, f1_n, f1_i, f1_r, f1_u, f1_l, f2_n, f2_i, f2_r, f2_u, f2_l, mj_tg, mj_c1, mj_c2, mj_ar, mj_aw, mq_cb, mq_oi, mj_rm, Value.category, -getElem?_pos, List.getElem?_cons_zero, decide_eq_true, decide_eq_false, nl_lt, nl_le, ln_lt, ln_le, nl_eq, ln_eq, nl_add, ln_add, nl_sub, ln_mul, nI_sub, nI_mul, nI_add, nI_lt_iff, nI_le_iff, nI_inj, nI_num, mq_ix, nI_1, nl_mul, nl_div, x0, p1, x1, o1, v1, s1]
      exact hq
    · obtain ⟨z2, f2⟩ := z1.mk_o (((((k.1.1.1.1, []), (k.1.1.2.1, k.1.1.2.2)), ((k.1.2.1.1, k.1.2.1.2), (k.1.2.2.1, k.1.2.2.2))), (((k.2.1.1.1, k.2.1.1.2), (k.2.1.2.1, 0)), ((k.2.2.1.1, k.2.2.1.2), k.2.2.2))) : Ky) rfl rfl rfl rfl
      refine ⟨_, by rw [if_neg hc]; exact z2, f2, fun q hq => ?_⟩
      have l1 := mq_lt z1.ob
      unfold ko at hq
      dsimp only at hq
      rw [nI_0] at hq
      by_cases hn : ms = []
      · subst hn
        rw [at0n] at hq v1
        simp (disch := (first | omega | decide)) [c78, s78_0, s78_1, s78_4, s78_7, s78_8, s78_11, s78_14, s78_17, s78_19, s78_20, s78_21, s78_22, s78_25, s78_26, s78_27, s78_29, s78_32, s78_33, s78_36, s78_37, s78_40, s78_41, s78_42, s78_46, s78_49, s78_50, s78_53, s78_54, s78_55, s78_56, s78_59, s78_60, s78_61, s78_64, s78_65, s78_108, s78_109, s78_112, s78_113, s78_116, s78_117, s78_120, s78_121, s78_124, s78_125, s78_128, s78_131, s78_132, s78_135, s78_136, s78_139, s78_140, s78_143, s78_144, s78_147, s78_148, s78_151, s78_152, s78_153, s78_154, s78_157, s78_158, s78_159, s78_162, mq_k0s, mq_k1s, mq_k2s, mq_k4s, mq_k5s, mq_k5n, mq_k5as, mq_k6s, mj_pu, mj_lo, mj_br, mj_hr, mj_hw, mq_gf, mq_len, mq_al, mq_pf, mq_ok, mj_re, mq_lkm, mq_lkn, mj_ldi, mj_ldl, mj_lda, mj_ii, mj_ll, mj_li, mj_i1, ms_1, ms_2, f1_n, f1_i, f1_r, f1_u, f1_l, f2_n, f2_i, f2_r, f2_u, f2_l, mj_tg, mj_c1, mj_c2, mj_ar, mj_aw, mq_cb, mq_oi, mj_rm, Value.category, -getElem?_pos, List.getElem?_cons_zero, decide_eq_true, decide_eq_false, nl_lt, nl_le, ln_lt, ln_le, nl_eq, ln_eq, nl_add, ln_add, nl_sub, ln_mul, nI_sub, nI_mul, nI_add, nI_lt_iff, nI_le_iff, nI_inj, nI_num, mq_ix, nI_1, nl_mul, nl_div, x0, p1, x1, o1, v1, narrow, mj_E, hh, l1]
        exact hq
      · obtain ⟨e0, hB⟩ := at0 h8 hn
        rw [e0] at hq v1
        by_cases h88 : cbB ms 0 = 8
        · have hl1 : ¬ ms.length = 1 := fun h => hc ⟨h88, h⟩
          rw [h88] at hq v1
          simp (disch := (first | omega | decide)) [c78, s78_0, s78_1, s78_4, s78_7, s78_8, s78_11, s78_14, s78_17, s78_19, s78_20, s78_21, s78_22, s78_25, s78_26, s78_27, s78_29, s78_32, s78_33, s78_36, s78_37, s78_40, s78_41, s78_42, s78_46, s78_49, s78_50, s78_53, s78_54, s78_55, s78_56, s78_59, s78_60, s78_61, s78_64, s78_65, s78_108, s78_109, s78_112, s78_113, s78_116, s78_117, s78_120, s78_121, s78_124, s78_125, s78_128, s78_131, s78_132, s78_135, s78_136, s78_139, s78_140, s78_143, s78_144, s78_147, s78_148, s78_151, s78_152, s78_153, s78_154, s78_157, s78_158, s78_159, s78_162, mq_k0s, mq_k1s, mq_k2s, mq_k4s, mq_k5s, mq_k5n, mq_k5as, mq_k6s, mj_pu, mj_lo, mj_br, mj_hr, mj_hw, mq_gf, mq_len, mq_al, mq_pf, mq_ok, mj_re, mq_lkm, mq_lkn, mj_ldi, mj_ldl, mj_lda, mj_ii, mj_ll, mj_li, mj_i1, ms_1, ms_2, f1_n, f1_i, f1_r, f1_u, f1_l, f2_n, f2_i, f2_r, f2_u, f2_l, mj_tg, mj_c1, mj_c2, mj_ar, mj_aw, mq_cb, mq_oi, mj_rm, Value.category, -getElem?_pos, List.getElem?_cons_zero, decide_eq_true, decide_eq_false, nl_lt, nl_le, ln_lt, ln_le, nl_eq, ln_eq, nl_add, ln_add, nl_sub, ln_mul, nI_sub, nI_mul, nI_add, nI_lt_iff, nI_le_iff, nI_inj, nI_num, mq_ix, nI_1, nl_mul, nl_div, x0, p1, x1, o1, v1, s1, hl1, narrow, mj_E, hh, l1]
          exact hq
        · simp (disch := (first | omega | decide)) [c78, s78_0, s78_1, s78_4, s78_7, s78_8, s78_11, s78_14, s78_17, s78_19, s78_20, s78_21, s78_22, s78_25, s78_26, s78_27, s78_29, s78_32, s78_33, s78_36, s78_37, s78_40, s78_41, s78_42, s78_46, s78_49, s78_50, s78_53, s78_54, s78_55, s78_56, s78_59, s78_60, s78_61, s78_64, s78_65, s78_108, s78_109, s78_112, s78_113, s78_116, s78_117, s78_120, s78_121, s78_124, s78_125, s78_128, s78_131, s78_132, s78_135, s78_136, s78_139, s78_140, s78_143, s78_144, s78_147, s78_148, s78_151, s78_152, s78_153, s78_154, s78_157, s78_158, s78_159, s78_162, mq_k0s, mq_k1s, mq_k2s, mq_k4s, mq_k5s, mq_k5n, mq_k5as, mq_k6s, mj_pu, mj_lo, mj_br, mj_hr, mj_hw, mq_gf, mq_len, mq_al, mq_pf, mq_ok, mj_re, mq_lkm, mq_lkn, mj_ldi, mj_ldl, mj_lda, mj_ii, mj_ll, mj_li, mj_i1, ms_1, ms_2, f1_n, f1_i, f1_r, f1_u, f1_l, f2_n, f2_i, f2_r, f2_u, f2_l, mj_tg, mj_c1, mj_c2, mj_ar, mj_aw, mq_cb, mq_oi, mj_rm, Value.category, -getElem?_pos, List.getElem?_cons_zero, decide_eq_true, decide_eq_false, nl_lt, nl_le, ln_lt, ln_le, nl_eq, ln_eq, nl_add, ln_add, nl_sub, ln_mul, nI_sub, nI_mul, nI_add, nI_lt_iff, nI_le_iff, nI_inj, nI_num, mq_ix, nI_1, nl_mul, nl_div, x0, p1, x1, o1, v1, h88, narrow, mj_E, hh, l1]
          exact hq
  obtain ⟨M3, p3, z3, f3⟩ := kz_pushX (d := d + 10) z2 0 [0] (by rfl) (by simp)
  change kz A κ M3 (ky_r1 ms k) T row at z3
  have f13 := (f1.trs f2).trs f3
  have hb3 := z.msf f13.kr hb
  have hi3 := z.iwf f13 hi
  obtain ⟨M4, p4, z4, f4, hi4, hit4, hc4⟩ := ky_ff (d := d) z3 hb3 hi3
  obtain ⟨u2, x2⟩ := z2.fa
  obtain ⟨u3, x3⟩ := z3.fa
  have hb4 := z3.msf f4 hb3
  -- the command
  obtain ⟨M5, row5, z5, f5, hi5, q5⟩ : ∃ M5 row5, kz A κ M5 (ky_r2 ms k T).2.1 (ky_r2 ms k T).2.2 row5 ∧ fx (kS A κ) M4 M5 ∧ iw M5 ∧ ∀ q, mj_Rn (d + 11) mj_m78 152 [(3, .int (ky_r2 ms k T).1), (2, .int (bt_at ms 0)), (0, .ref κ), (1, .ref 28)] [] M5 = some q → mj_Rn (d + 11) mj_m78 45 [(2, .int (bt_at ms 0)), (0, .ref κ), (1, .ref 28)] [] M2 = some q := by
    unfold ky_r2
    by_cases hfm : ky_form ms = 0
    · rw [if_neg (by simp [hfm])]
      have hg1 : kg (ky_r1 ms k) := (kg_mk_ hg.w hg.g hg.p hg.x (by
        have := hg.l
        show (if cbB ms 0 = 8 ∧ ms.length = 1 then k.2.1.2.2 else 0) ≤ 8
        split <;> omega))
      obtain ⟨M5, row5, z5, f5, q5⟩ := ky_c (d := d) (l3 := 0) z4 hb4 hg1 hon hf (by simp [ky_r1]) (hc4 hfm) (hit4 hfm)
      refine ⟨M5, row5, z5, f5, z4.iwf f5 hi4, fun q hq => ?_⟩
      have hn : ms ≠ [] := by
        intro h
        subst h
        simp [ky_form] at hfm
      obtain ⟨e0, hB⟩ := at0 h8 hn
      rw [e0] at hq ⊢
      rw [e0, hfm] at p4
      have := q5 q hq
      simp (disch := (first | omega | decide)) [s78_0, s78_1, s78_4, s78_7, s78_8, s78_11, s78_14, s78_17, s78_19, s78_20, s78_21, s78_22, s78_25, s78_26, s78_27, s78_29, s78_32, s78_33, s78_36, s78_37, s78_40, s78_41, s78_42, s78_45, s78_46, s78_49, s78_50, s78_53, s78_54, s78_55, s78_56, s78_59, s78_60, s78_61, s78_65, s78_108, s78_109, s78_112, s78_113, s78_116, s78_117, s78_120, s78_121, s78_124, s78_125, s78_128, s78_131, s78_132, s78_135, s78_136, s78_139, s78_140, s78_143, s78_144, s78_147, s78_148, s78_151, s78_152, s78_153, s78_154, s78_157, s78_158, s78_159, s78_162, mq_k0s, mq_k1s, mq_k2s, mq_k4s, mq_k5s, mq_k5n, mq_k5as, mq_k6s, mj_pu, mj_lo, mj_br, mj_hr, mj_hw, mq_gf, mq_len, mq_al, mq_pf, mq_ok, mj_re, mq_lkm, mq_lkn, mj_ldi, mj_ldl, mj_lda, mj_ii, mj_ll, mj_li, mj_i1, ms_1, ms_2, f1_n, f1_i, f1_r, f1_u, f1_l, f2_n, f2_i, f2_r, f2_u, f2_l, mj_tg, mj_c1, mj_c2, mj_ar, mj_aw, mq_cb, mq_oi, mj_rm, Value.category, -getElem?_pos, List.getElem?_cons_zero, decide_eq_true, decide_eq_false, nl_lt, nl_le, ln_lt, ln_le, nl_eq, ln_eq, nl_add, ln_add, nl_sub, ln_mul, nI_sub, nI_mul, nI_add, nI_lt_iff, nI_le_iff, nI_inj, nI_num, mq_ix, nI_1, nl_mul, nl_div, x2, p3, x3, p4]
      exact this
    · rw [if_pos hfm]
      refine ⟨M4, row, z4, fx.rf, hi4, fun q hq => ?_⟩
      simp (disch := (first | omega | decide)) [s78_0, s78_1, s78_4, s78_7, s78_8, s78_11, s78_14, s78_17, s78_19, s78_20, s78_21, s78_22, s78_25, s78_26, s78_27, s78_29, s78_32, s78_33, s78_36, s78_37, s78_40, s78_41, s78_42, s78_45, s78_46, s78_49, s78_50, s78_53, s78_54, s78_55, s78_56, s78_59, s78_60, s78_61, s78_64, s78_65, s78_108, s78_109, s78_112, s78_113, s78_116, s78_117, s78_120, s78_121, s78_124, s78_125, s78_128, s78_131, s78_132, s78_135, s78_136, s78_139, s78_140, s78_143, s78_144, s78_147, s78_148, s78_151, s78_153, s78_154, s78_157, s78_158, s78_159, s78_162, mq_k0s, mq_k1s, mq_k2s, mq_k4s, mq_k5s, mq_k5n, mq_k5as, mq_k6s, mj_pu, mj_lo, mj_br, mj_hr, mj_hw, mq_gf, mq_len, mq_al, mq_pf, mq_ok, mj_re, mq_lkm, mq_lkn, mj_ldi, mj_ldl, mj_lda, mj_ii, mj_ll, mj_li, mj_i1, ms_1, ms_2, f1_n, f1_i, f1_r, f1_u, f1_l, f2_n, f2_i, f2_r, f2_u, f2_l, mj_tg, mj_c1, mj_c2, mj_ar, mj_aw, mq_cb, mq_oi, mj_rm, Value.category, -getElem?_pos, List.getElem?_cons_zero, decide_eq_true, decide_eq_false, nl_lt, nl_le, ln_lt, ln_le, nl_eq, ln_eq, nl_add, ln_add, nl_sub, ln_mul, nI_sub, nI_mul, nI_add, nI_lt_iff, nI_le_iff, nI_inj, nI_num, mq_ix, nI_1, nl_mul, nl_div, x2, p3, x3, p4, hfm]
      exact hq
  generalize ky_r2 ms k T = R at *
  obtain ⟨u5, x5⟩ := z5.fa
  obtain ⟨z6, f6⟩ := z5.mk_o (((((R.2.1.1.1.1.1, R.2.1.1.1.1.2), (R.2.1.1.1.2.1, R.2.1.1.1.2.2)), ((R.2.1.1.2.1.1, R.2.1.1.2.1.2), (R.2.1.1.2.2.1, R.2.1.1.2.2.2))), (((R.2.1.2.1.1.1, R.2.1.2.1.1.2), (true, R.2.1.2.1.2.2)), ((R.2.1.2.2.1.1, R.2.1.2.2.1.2), R.2.1.2.2.2))) : Ky) rfl rfl rfl rfl
  obtain ⟨u6, x6⟩ := z6.fa
  obtain ⟨M7, p7, z7, f7⟩ := ky_ended (d := d + 9) z6 R.1
  have ff : fx (kR A κ) M M7 := ((((f13.kr).tkr f4).tkr f5.kr).tkr f6.kr).tkr f7.kr
  refine ⟨M7, row5, q2 _ (q5 _ ?_), z7, ff, z6.iwf f7 (z5.iwf f6 hi5), z.msf ff hb⟩
  have l5 := mq_lt z5.ob
  unfold ko at x6 p7
  dsimp only at x6 p7
  simp only [if_true] at x6 p7
  simp (disch := (first | omega | decide)) [s78_0, s78_1, s78_4, s78_7, s78_8, s78_11, s78_14, s78_17, s78_19, s78_20, s78_21, s78_22, s78_25, s78_26, s78_27, s78_29, s78_32, s78_33, s78_36, s78_37, s78_40, s78_41, s78_42, s78_45, s78_46, s78_49, s78_50, s78_53, s78_54, s78_55, s78_56, s78_59, s78_60, s78_61, s78_64, s78_65, s78_108, s78_109, s78_112, s78_113, s78_116, s78_117, s78_120, s78_121, s78_124, s78_125, s78_128, s78_131, s78_132, s78_135, s78_136, s78_139, s78_140, s78_143, s78_144, s78_147, s78_148, s78_151, s78_152, s78_153, s78_154, s78_157, s78_158, s78_159, s78_162, mq_k0s, mq_k1s, mq_k2s, mq_k4s, mq_k5s, mq_k5n, mq_k5as, mq_k6s, mj_pu, mj_lo, mj_br, mj_hr, mj_hw, mq_gf, mq_len, mq_al, mq_pf, mq_ok, mj_re, mq_lkm, mq_lkn, mj_ldi, mj_ldl, mj_lda, mj_ii, mj_ll, mj_li, mj_i1, ms_1, ms_2, f1_n, f1_i, f1_r, f1_u, f1_l, f2_n, f2_i, f2_r, f2_u, f2_l, mj_tg, mj_c1, mj_c2, mj_ar, mj_aw, mq_cb, mq_oi, mj_rm, Value.category, -getElem?_pos, List.getElem?_cons_zero, decide_eq_true, decide_eq_false, nl_lt, nl_le, ln_lt, ln_le, nl_eq, ln_eq, nl_add, ln_add, nl_sub, ln_mul, nI_sub, nI_mul, nI_add, nI_lt_iff, nI_le_iff, nI_inj, nI_num, mq_ix, nI_1, nl_mul, nl_div, x5, narrow_b1, mj_E, hh, l5, x6, p7, narrow]
end KZ
end
/- 95.house -/
section
set_option maxRecDepth 512
/-! The house, as both keep it: pure. -/
abbrev Hd : Type := (List Int32) × (List Int32) × Int32 × Int32 × Int32
abbrev Of : Type := Int32 × (List Int32) × Bool × Bool
abbrev Ac : Type := Int32 × Int32 × Int32 × Int32 × (List Int32)
abbrev Pa : Type := (List Int32) × (List Int32) × (List Of) × (List Ac) × Int32 × Int32
abbrev Ho : Type := (List Int32) × Tm × (List Ky) × (List Hd) × (List Pa)
/-- a number of one of n things -/
def ix (i : Int32) (n : Nat) : Option Nat := if i < 0 then none else if i.toNatClampNeg < n then some i.toNatClampNeg else none
/-- how much of the tape a call takes -/
def tp (H : Ho) (n : Int32) : Option Nat := if n = -1 then some H.1.length else if n < 0 then none else if n.toNatClampNeg ≤ H.1.length then some n.toNatClampNeg else none
def inR (v a b : Int32) : Bool := decide (a ≤ v) && decide (v ≤ b)
def Ho.kt (H : Ho) (j : Nat) (q : Ky × Tm) : Ho := ((H.1, (q.2, (H.2.2.1.set j q.1, (H.2.2.2.1, H.2.2.2.2)))) : Ho)
def Ho.ht (H : Ho) (j : Nat) (q : Hd × Tm) : Ho := ((H.1, (q.2, (H.2.2.1, (H.2.2.2.1.set j q.1, H.2.2.2.2)))) : Ho)
def Ho.pt (H : Ho) (j : Nat) (p : Pa) : Ho := ((H.1, (H.2.1, (H.2.2.1, (H.2.2.2.1, H.2.2.2.2.set j p)))) : Ho)
-- the tape
def ho_feed (H : Ho) (w : Int64) (n : Int32) : Int32 × Ho := if inR n 1 8 = true ∧ H.1.length + n.toNatClampNeg ≤ 400 then (nI (H.1.length + n.toNatClampNeg), ((H.1 ++ bt_low w n.toNatClampNeg, (H.2.1, (H.2.2.1, (H.2.2.2.1, H.2.2.2.2)))) : Ho)) else (-1, H)
def ho_wipe (H : Ho) : Int32 × Ho := (nI H.1.length, (([], (H.2.1, (H.2.2.1, (H.2.2.2.1, H.2.2.2.2)))) : Ho))
def ho_at (H : Ho) (i : Int32) : Int32 × Ho := (bt_at H.1 i, H)
def ho_poke (H : Ho) (i v : Int32) : Int32 × Ho := match ix i H.1.length with
  | none => (-1, H)
  | some j => if inR v 0 255 then (H.1.getD j (-1), ((H.1.set j v, (H.2.1, (H.2.2.1, (H.2.2.2.1, H.2.2.2.2)))) : Ho)) else (-1, H)
def ho_terms (H : Ho) : Int32 × Ho := (nI H.2.1.1.length, H)
def ho_sort (H : Ho) (t : Int32) : Int32 × Ho := (bt_at (tm_row H.2.1.1 t) 0, H)
-- keys
def ky_zero : Ky := ((((((([], (false, (0, (-1, (0, (0, (0, ((0, (0, (0, (0, [])))) : St)))))))) : Fl), []), ([], ((0, (0, (0, ([], 0)))) : Cr))), ((0, 0), (0, 0))), (((0, 0), (false, 0)), ((0, 0), 0))) : Ky)
def ky_born (T : Tm) : Ky := (((((((fs_new (nI (tm_no T [1, nI T.2.1])), (ky_zero.1.1.1.1.2.1, (ky_zero.1.1.1.1.2.2.1, (ky_zero.1.1.1.1.2.2.2.1, (ky_zero.1.1.1.1.2.2.2.2.1, (ky_zero.1.1.1.1.2.2.2.2.2.1, (ky_zero.1.1.1.1.2.2.2.2.2.2.1, ky_zero.1.1.1.1.2.2.2.2.2.2.2))))))) : Fl), ky_zero.1.1.1.2), (ky_zero.1.1.2.1, ky_zero.1.1.2.2)), ((ky_zero.1.2.1.1, ky_zero.1.2.1.2), (ky_zero.1.2.2.1, ky_zero.1.2.2.2))), (((ky_zero.2.1.1.1, ky_zero.2.1.1.2), (ky_zero.2.1.2.1, ky_zero.2.1.2.2)), ((ky_zero.2.2.1.1, ky_zero.2.2.1.2), ky_zero.2.2.2))) : Ky)
def ho_key (H : Ho) : Int32 × Ho := if 3 ≤ H.2.2.1.length then (-1, H) else (nI H.2.2.1.length, ((H.1, ((ky_wake (ky_born H.2.1) (tm_fresh H.2.1)).2, (H.2.2.1 ++ [(ky_wake (ky_born H.2.1) (tm_fresh H.2.1)).1], (H.2.2.2.1, H.2.2.2.2)))) : Ho))
def ho_power (H : Ho) (i : Int32) (b : Bool) : Int32 × Ho := match ix i H.2.2.1.length with
  | none => (0, H)
  | some j => match H.2.2.1[j]? with
    | none => (0, H)
    | some k => (on1 (ky_switch k H.2.1 b).1.1.1.1.1.2.1, H.kt j (ky_switch k H.2.1 b))
def ho_press (H : Ho) (i : Int32) : Int32 × Ho := match ix i H.2.2.1.length with
  | none => (-1, H)
  | some j => match H.2.2.1[j]? with
    | none => (-1, H)
    | some k => ((ky_addp k).2, H.kt j ((ky_addp k).1, H.2.1))
def ho_cut (H : Ho) (i a : Int32) : Int32 × Ho := match ix i H.2.2.1.length with
  | none => (0, H)
  | some j => match H.2.2.1[j]? with
    | none => (0, H)
    | some k => if inR a (-1) 2000 then (1, H.kt j ((((((((k.1.1.1.1.1, (k.1.1.1.1.2.1, (k.1.1.1.1.2.2.1, (a, (k.1.1.1.1.2.2.2.2.1, (k.1.1.1.1.2.2.2.2.2.1, (k.1.1.1.1.2.2.2.2.2.2.1, k.1.1.1.1.2.2.2.2.2.2.2))))))) : Fl), k.1.1.1.2), (k.1.1.2.1, k.1.1.2.2)), ((k.1.2.1.1, k.1.2.1.2), (k.1.2.2.1, k.1.2.2.2))), (((k.2.1.1.1, k.2.1.1.2), (k.2.1.2.1, k.2.1.2.2)), ((k.2.2.1.1, k.2.2.1.2), k.2.2.2))) : Ky), H.2.1)) else (0, H)
def ho_command (H : Ho) (i n : Int32) : Int32 × Ho := match ix i H.2.2.1.length, tp H n with
  | some j, some m => match H.2.2.1[j]? with
    | none => (-1, H)
    | some k => (if (ky_recv (H.1.take m) k H.2.1).1 = -3 then -3 else nI (ky_recv (H.1.take m) k H.2.1).2.1.1.1.1.2.length, H.kt j (ky_recv (H.1.take m) k H.2.1).2)
  | _, _ => (-1, H)
def ho_answer (H : Ho) (i p : Int32) : Int32 × Ho := match ix i H.2.2.1.length with
  | none => (-1, H)
  | some j => match H.2.2.1[j]? with
    | none => (-1, H)
    | some k => (bt_at k.1.1.1.2 p, H)
def ho_take (H : Ho) (i : Int32) : Int32 × Ho := match ix i H.2.2.1.length with
  | none => (-1, H)
  | some j => match H.2.2.1[j]? with
    | none => (-1, H)
    | some k => if k.1.1.1.2 = [] then (-1, H) else (nI k.1.1.1.2.length, ((k.1.1.1.2, (H.2.1, (H.2.2.1, (H.2.2.2.1, H.2.2.2.2)))) : Ho))
def ho_flash (H : Ho) (i p : Int32) : Int32 × Ho := match ix i H.2.2.1.length with
  | none => (-1, H)
  | some j => match H.2.2.1[j]? with
    | none => (-1, H)
    | some k => (bt_at k.1.1.1.1.1 p, H)
def ky_tell (k : Ky) (w : Int32) : Int32 := if w = 0 then on1 k.1.1.1.1.2.1 else if w = 1 then k.1.1.1.1.2.2.1 else if w = 2 then nI k.1.2.1.1 else if w = 3 then k.1.2.1.2 else if w = 4 then k.1.2.2.1 else -1
def ho_told (H : Ho) (i w : Int32) : Int32 × Ho := match ix i H.2.2.1.length with
  | none => (-1, H)
  | some j => match H.2.2.1[j]? with
    | none => (-1, H)
    | some k => (if w < 5 then ky_tell k w else fs_tell k.1.1.1.1 w, H)
def cr_tell (c : Cr) (w : Int32) : Int32 := if w = 0 then c.1 else if w = 1 then c.2.1 else if w = 2 then c.2.2.2.2 else if w = 3 then nI c.2.2.2.1.length else if w < 4 then -1 else bt_at c.2.2.2.1 (w - 4)
def ho_credential (H : Ho) (i p w : Int32) : Int32 × Ho := match ix i H.2.2.1.length with
  | none => (-1, H)
  | some j => match H.2.2.1[j]? with
    | none => (-1, H)
    | some k => if k.1.1.1.1.2.1 = false then (-1, H) else match (ix p k.1.1.1.1.2.2.2.2.2.2.2.2.2.2.2.length).bind (fun q => k.1.1.1.1.2.2.2.2.2.2.2.2.2.2.2[q]?) with
      | none => (-1, H)
      | some c => (cr_tell c w, H)
-- hands
def own_T1 (T : Tm) : Tm := ((T.1, (T.2.1, T.2.2 + 1)) : Tm)
def own_T (T : Tm) : Tm := tm_mk (own_T1 T) [2, nI (T.2.2 + 1)]
def own_n (T : Tm) : Int32 := nI (tm_no (own_T1 T) [2, nI (T.2.2 + 1)])
def own_h (h : Hd) (T : Tm) : Hd := ((h.1, (h.2.1, (nI (T.2.2 + 1), (0, 0)))) : Hd)
def ho_own (H : Ho) (i : Int32) : Int32 × Ho := match ix i 4 with
  | none => (-1, H)
  | some j => match H.2.2.2.1[j]? with
    | none => (-1, H)
    | some h => (own_n H.2.1, H.ht j (own_h h H.2.1, own_T H.2.1))
def agr_h (h : Hd) (T : Tm) (other : Int32) : Hd := ((h.1, (h.2.1, (h.2.2.1, (nI (tm_no T (tm_agr h.2.2.1 other)), h.2.2.2.2)))) : Hd)
def agr_T (h : Hd) (T : Tm) (other : Int32) : Tm := tm_mk T (tm_agr h.2.2.1 other)
def ho_agree (H : Ho) (i t : Int32) : Int32 × Ho := match ix i 4 with
  | none => (0, H)
  | some j => match H.2.2.2.1[j]? with
    | none => (0, H)
    | some h => if h.2.2.1 = 0 ∨ tm_sec H.2.1.1 t = 0 then (0, H) else (1, H.ht j (agr_h h H.2.1 (tm_sec H.2.1.1 t), agr_T h H.2.1 (tm_sec H.2.1.1 t)))
def sl_with (h : Hd) (w : Int32) : Int32 := if w = 1 ∨ w = 2 then h.2.2.2.1 else if w = 3 then h.2.2.2.2 else if w = 4 then h.2.2.1 else 0
def sl_row (h : Hd) (w : Int32) (b : List Int32) : List Int32 := if w = 1 then 4 :: h.2.2.2.1 :: b else if w = 2 then 5 :: h.2.2.2.1 :: b else if w = 3 then 10 :: h.2.2.2.2 :: b else if w = 4 then 6 :: h.2.2.1 :: b else 7 :: b
def ho_seal (H : Ho) (i w n : Int32) : Int32 × Ho := match ix i 4, tp H n with
  | some j, some m => match H.2.2.2.1[j]? with
    | none => (-1, H)
    | some h => if inR w 0 4 = false ∨ (w ≠ 0 ∧ sl_with h w = 0) then (-1, H) else (nI (tm_no H.2.1 (sl_row h w (H.1.take m))), ((H.1, (tm_mk H.2.1 (sl_row h w (H.1.take m)), (H.2.2.1, (H.2.2.2.1, H.2.2.2.2)))) : Ho))
  | _, _ => (-1, H)
def ho_open (H : Ho) (i t : Int32) : Int32 × Ho := match ix i 4 with
  | none => (-1, H)
  | some j => match H.2.2.2.1[j]? with
    | none => (-1, H)
    | some h => if h.2.2.2.1 ≠ 0 ∧ bt_at (tm_row H.2.1.1 t) 0 = 4 ∧ bt_at (tm_row H.2.1.1 t) 1 = h.2.2.2.1 then (nI ((tm_row H.2.1.1 t).drop 2).length, (((tm_row H.2.1.1 t).drop 2, (H.2.1, (H.2.2.1, (H.2.2.2.1, H.2.2.2.2)))) : Ho)) else (-1, H)
abbrev tok_ok (h : Hd) (T : Tm) (t : Int32) : Prop := h.2.2.2.1 ≠ 0 ∧ bt_at (tm_row T.1 t) 0 = 9 ∧ bt_at (tm_row T.1 t) 1 = h.2.2.2.1
def tok_h (h : Hd) (T : Tm) (t : Int32) : Hd := if tok_ok h T t then ((h.1, (h.2.1, (h.2.2.1, (h.2.2.2.1, bt_at (tm_row T.1 t) 2)))) : Hd) else h
def ho_token (H : Ho) (i t : Int32) : Int32 × Ho := match ix i 4 with
  | none => (0, H)
  | some j => match H.2.2.2.1[j]? with
    | none => (0, H)
    | some h => (on1 (decide (tok_ok h H.2.1 t)), H.ht j (tok_h h H.2.1 t, H.2.1))
def ho_pin (H : Ho) (i n : Int32) : Int32 × Ho := match ix i 4 with
  | none => (0, H)
  | some j => match H.2.2.2.1[j]? with
    | none => (0, H)
    | some h => if inR n 0 12 = true ∧ n.toNatClampNeg ≤ H.1.length then (1, H.ht j (((H.1.take n.toNatClampNeg, (h.2.1, (h.2.2.1, (h.2.2.2.1, h.2.2.2.2)))) : Hd), H.2.1)) else (0, H)
def ho_page (H : Ho) (i n : Int32) : Int32 × Ho := match ix i 4 with
  | none => (0, H)
  | some j => match H.2.2.2.1[j]? with
    | none => (0, H)
    | some h => if inR n 0 40 = true ∧ n.toNatClampNeg ≤ H.1.length then (1, H.ht j (((h.1, (H.1.take n.toNatClampNeg, (h.2.2.1, (h.2.2.2.1, h.2.2.2.2)))) : Hd), H.2.1)) else (0, H)
-- clients
def agMsg : List Int32 := [6, 162, 1, 1, 2, 2]
def pnMsg (map step own : Int32) (rest : List Int32) : List Int32 := [6, map, 1, 1, 2, step, 3] ++ ((68 :: b4 own) ++ rest)
def mbr (m v : Int32) : List Int32 := m :: 68 :: b4 v
/-- a hand and a key agree: status, hand, key, terms -/
def ag_k (h : Hd) (k : Ky) (T : Tm) : Int32 × Ky × Tm := ky_recv agMsg k (own_T T)
def ag_h (h : Hd) (k : Ky) (T : Tm) : Hd := agr_h (own_h h T) (ag_k h k T).2.2 (tm_sec (ag_k h k T).2.2.1 (w4a (ag_k h k T).2.1.1.1.1.2 4))
def ag_T (h : Hd) (k : Ky) (T : Tm) : Tm := agr_T (own_h h T) (ag_k h k T).2.2 (tm_sec (ag_k h k T).2.2.1 (w4a (ag_k h k T).2.1.1.1.1.2 4))
def Ho.hk (H : Ho) (j : Nat) (h : Hd) (l : Nat) (q : Ky × Tm) : Ho := ((H.1, (q.2, (H.2.2.1.set l q.1, (H.2.2.2.1.set j h, H.2.2.2.2)))) : Ho)
def enc_row (h : Hd) (b : List Int32) : List Int32 := 4 :: h.2.2.2.1 :: b
def eh_T (h : Hd) (T : Tm) : Tm := tm_mk (tm_mk T (7 :: h.1)) (enc_row h (b4 (nI (tm_no T (7 :: h.1)))))
def eh_n (h : Hd) (T : Tm) : Int32 := nI (tm_no (tm_mk T (7 :: h.1)) (enc_row h (b4 (nI (tm_no T (7 :: h.1))))))
def mac_row (h : Hd) (b : List Int32) : List Int32 := 5 :: h.2.2.2.1 :: b
/-- setting a PIN, agreed -/
def sp_2 (h : Hd) (k : Ky) (T : Tm) (own : Int32) : Int32 × Ky × Tm :=
  ky_recv (pnMsg 165 3 own (mbr 4 (nI (tm_no (tm_mk T (enc_row h h.1)) (mac_row h (b4 (nI (tm_no T (enc_row h h.1))))))) ++ mbr 5 (nI (tm_no T (enc_row h h.1))))) k (tm_mk (tm_mk T (enc_row h h.1)) (mac_row h (b4 (nI (tm_no T (enc_row h h.1))))))
def cp_T (h : Hd) (T : Tm) (b : List Int32) : Tm := eh_T h (tm_mk T (enc_row h b))
def cp_e (h : Hd) (T : Tm) (b : List Int32) : Int32 := nI (tm_no T (enc_row h b))
def cp_o (h : Hd) (T : Tm) (b : List Int32) : Int32 := eh_n h (tm_mk T (enc_row h b))
def cp_2 (h : Hd) (k : Ky) (T : Tm) (own : Int32) (b : List Int32) : Int32 × Ky × Tm :=
  ky_recv (pnMsg 166 4 own (mbr 4 (nI (tm_no (cp_T h T b) (mac_row h (b4 (cp_e h T b) ++ b4 (cp_o h T b))))) ++ (mbr 5 (cp_e h T b) ++ mbr 6 (cp_o h T b)))) k (tm_mk (cp_T h T b) (mac_row h (b4 (cp_e h T b) ++ b4 (cp_o h T b))))
def ul_2 (h : Hd) (k : Ky) (T : Tm) (own : Int32) : Int32 × Ky × Tm := ky_recv (pnMsg 164 5 own (mbr 6 (eh_n h T))) k (eh_T h T)
def ho_setPin (H : Ho) (i l : Int32) : Int32 × Ho := match ix i 4, ix l H.2.2.1.length with
  | some a, some b => match H.2.2.2.1[a]?, H.2.2.1[b]? with
    | some h, some k => if (ag_k h k H.2.1).1 ≠ 0 then ((ag_k h k H.2.1).1, H.hk a (own_h h H.2.1) b (ag_k h k H.2.1).2)
      else ((sp_2 (ag_h h k H.2.1) (ag_k h k H.2.1).2.1 (ag_T h k H.2.1) (own_n H.2.1)).1, H.hk a (ag_h h k H.2.1) b (sp_2 (ag_h h k H.2.1) (ag_k h k H.2.1).2.1 (ag_T h k H.2.1) (own_n H.2.1)).2)
    | _, _ => (-1, H)
  | _, _ => (-1, H)
def ho_changePin (H : Ho) (i l n : Int32) : Int32 × Ho := match ix i 4, ix l H.2.2.1.length with
  | some a, some b => match H.2.2.2.1[a]?, H.2.2.1[b]? with
    | some h, some k => if ¬ (inR n 0 12 = true ∧ n.toNatClampNeg ≤ H.1.length) then (-1, H)
      else if (ag_k h k H.2.1).1 ≠ 0 then ((ag_k h k H.2.1).1, H.hk a (own_h h H.2.1) b (ag_k h k H.2.1).2)
      else ((cp_2 (ag_h h k H.2.1) (ag_k h k H.2.1).2.1 (ag_T h k H.2.1) (own_n H.2.1) (H.1.take n.toNatClampNeg)).1, H.hk a (ag_h h k H.2.1) b (cp_2 (ag_h h k H.2.1) (ag_k h k H.2.1).2.1 (ag_T h k H.2.1) (own_n H.2.1) (H.1.take n.toNatClampNeg)).2)
    | _, _ => (-1, H)
  | _, _ => (-1, H)
def ul_h (h : Hd) (q : Int32 × Ky × Tm) : Hd := if q.1 = 0 then tok_h h q.2.2 (w4a q.2.1.1.1.1.2 4) else h
def ho_unlock (H : Ho) (i l : Int32) : Int32 × Ho := match ix i 4, ix l H.2.2.1.length with
  | some a, some b => match H.2.2.2.1[a]?, H.2.2.1[b]? with
    | some h, some k => if (ag_k h k H.2.1).1 ≠ 0 then ((ag_k h k H.2.1).1, H.hk a (own_h h H.2.1) b (ag_k h k H.2.1).2)
      else ((ul_2 (ag_h h k H.2.1) (ag_k h k H.2.1).2.1 (ag_T h k H.2.1) (own_n H.2.1)).1, H.hk a (ul_h (ag_h h k H.2.1) (ul_2 (ag_h h k H.2.1) (ag_k h k H.2.1).2.1 (ag_T h k H.2.1) (own_n H.2.1))) b (ul_2 (ag_h h k H.2.1) (ag_k h k H.2.1).2.1 (ag_T h k H.2.1) (own_n H.2.1)).2)
    | _, _ => (-1, H)
  | _, _ => (-1, H)
/-- a name is the page's, or the page's end behind a point -/
def isR (page name : List Int32) : Bool := decide (name.length ≤ page.length) && ((decide (page.length = name.length) || decide (page.getD (page.length - name.length - 1) (-1) = 46)) && decide (page.drop (page.length - name.length) = name))
def pOf (H : Ho) (i : Int32) : Option Pa := (ix i H.2.2.2.2.length).bind (fun j => H.2.2.2.2[j]?)
def fitA (H : Ho) (party m n : Int32) : Bool := (decide (party = -1) || (pOf H party).isSome) && (inR m 1 8 && (inR n 1 24 && decide (n.toNatClampNeg ≤ H.1.length)))
def chOf (c : Int32) (p : Option Pa) : Int32 := if c ≠ 0 then c else match p with
  | none => 0
  | some p => match p.2.2.1.getLast? with
    | none => 0
    | some o => o.1
def chRow (kind c : Int32) (page : List Int32) : List Int32 := 7 :: kind :: (b4 c ++ page)
def mkRow (h : Hd) (hash : Int32) : List Int32 := 10 :: h.2.2.2.2 :: b4 hash
def acOf (p : Option Pa) (u : List Int32) : List Ac := match p with
  | none => []
  | some p => p.2.2.2.1.filter (fun a => decide (a.2.2.2.2 = u))
def acEnt (a : Ac) : List Int32 := [162, 98, 105, 100] ++ ((68 :: b4 a.1) ++ [100, 116, 121, 112, 101, 106, 112, 117, 98, 108, 105, 99, 45, 107, 101, 121])
def acMsg (m : Int32) (l : List Ac) : List Int32 := if l = [] then [] else m :: (bt_hd 4 (nI l.length) ++ l.flatMap acEnt)
/-- a hash, a mark if there is one, and the terms then -/
def cl_h (h : Hd) (T : Tm) (kind c : Int32) : Int32 := nI (tm_no T (chRow kind c h.2.1))
def cl_m (h : Hd) (T : Tm) (kind c how : Int32) : Int32 := if how &&& 2 ≠ 0 ∧ h.2.2.2.2 ≠ 0 then nI (tm_no (tm_mk T (chRow kind c h.2.1)) (mkRow h (cl_h h T kind c))) else 0
def cl_T (h : Hd) (T : Tm) (kind c how : Int32) : Tm := if how &&& 2 ≠ 0 ∧ h.2.2.2.2 ≠ 0 then tm_mk (tm_mk T (chRow kind c h.2.1)) (mkRow h (cl_h h T kind c)) else tm_mk T (chRow kind c h.2.1)
def mkMsg (hash mark : Int32) (name u : List Int32) (l : List Ac) (how : Int32) : List Int32 :=
  [1, 164 + (if l = [] then 0 else 1) + (how &&& 1) + (if mark = 0 then 0 else 2)] ++ (mbr 1 hash ++ ([2, 161, 98, 105, 100] ++ (bt_hd 3 (nI name.length) ++ (name ++ ([3, 161, 98, 105, 100] ++ (bt_hd 2 (nI u.length) ++ (u ++ ([4, 129, 162, 99, 97, 108, 103, 38, 100, 116, 121, 112, 101, 106, 112, 117, 98, 108, 105, 99, 45, 107, 101, 121] ++ (acMsg 5 l ++ ((if how &&& 1 = 0 then [] else [7, 161, 98, 114, 107, 245]) ++ (if mark = 0 then [] else mbr 8 mark ++ [9, 1])))))))))))
def sgMsg (hash mark : Int32) (name : List Int32) (l : List Ac) (how : Int32) : List Int32 :=
  [2, 162 + (if l = [] then 0 else 1) + (how &&& 1) + (if mark = 0 then 0 else 2)] ++ (1 :: (bt_hd 3 (nI name.length) ++ (name ++ (mbr 2 hash ++ (acMsg 3 l ++ ((if how &&& 1 = 0 then [] else [5, 161, 98, 117, 112, 244]) ++ (if mark = 0 then [] else mbr 6 mark ++ [7, 1])))))))
def rsp (kind c : Int32) (page reply : List Int32) (id data size : Nat) : List Int32 := kind :: (b4 c ++ (nI page.length :: (page ++ ((reply.drop id).take 4 ++ (nI size :: ((reply.drop data).take size ++ (reply.drop 41).take 4))))))
def ho_create (H : Ho) (i l c party : Int32) (w : Int64) (m n how : Int32) : Int32 × Ho := match ix i 4, ix l H.2.2.1.length with
  | some a, some b => match H.2.2.2.1[a]?, H.2.2.1[b]? with
    | some h, some k => if ¬ (inR how 0 7 = true ∧ fitA H party m n = true) then (-1, H)
      else if isR h.2.1 (H.1.take n.toNatClampNeg) = false then (-2, H)
      else
        let c' := chOf c (pOf H party)
        let q := ky_recv (mkMsg (cl_h h H.2.1 1 c') (cl_m h H.2.1 1 c' how) (H.1.take n.toNatClampNeg) (bt_low w m.toNatClampNeg) (if how &&& 4 ≠ 0 then [] else acOf (pOf H party) (bt_low w m.toNatClampNeg)) how) k (cl_T h H.2.1 1 c' how)
        (q.1, ((if q.1 = 0 then rsp 1 c' h.2.1 q.2.1.1.1.1.2 21 12 17 else H.1, ((H.kt b q.2).2.1, ((H.kt b q.2).2.2.1, ((H.kt b q.2).2.2.2.1, (H.kt b q.2).2.2.2.2)))) : Ho))
    | _, _ => (-1, H)
  | _, _ => (-1, H)
def ho_get (H : Ho) (i l c party : Int32) (w : Int64) (m n how : Int32) : Int32 × Ho := match ix i 4, ix l H.2.2.1.length with
  | some a, some b => match H.2.2.2.1[a]?, H.2.2.1[b]? with
    | some h, some k => if ¬ (inR how 0 15 = true ∧ fitA H party m n = true) then (-1, H)
      else if isR h.2.1 (H.1.take n.toNatClampNeg) = false then (-2, H)
      else
        let c' := chOf c (pOf H party)
        let q := if how &&& 4 ≠ 0 then ky_recv [8] k H.2.1 else ky_recv (sgMsg (cl_h h H.2.1 2 c') (cl_m h H.2.1 2 c' how) (H.1.take n.toNatClampNeg) (if how &&& 8 ≠ 0 then [] else acOf (pOf H party) (bt_low w m.toNatClampNeg)) how) k (cl_T h H.2.1 2 c' how)
        (q.1, ((if q.1 = 0 then rsp 2 c' h.2.1 q.2.1.1.1.1.2 8 30 9 else H.1, ((H.kt b q.2).2.1, ((H.kt b q.2).2.2.1, ((H.kt b q.2).2.2.2.1, (H.kt b q.2).2.2.2.2)))) : Ho))
    | _, _ => (-1, H)
  | _, _ => (-1, H)
-- parties
def ho_party (H : Ho) (n m : Int32) : Int32 × Ho := if H.2.2.2.2.length < 4 ∧ inR n 1 40 = true ∧ inR m 1 24 = true ∧ n.toNatClampNeg + m.toNatClampNeg ≤ H.1.length ∧ isR (H.1.take n.toNatClampNeg) ((H.1.drop n.toNatClampNeg).take m.toNatClampNeg) = true then (nI H.2.2.2.2.length, ((H.1, (H.2.1, (H.2.2.1, (H.2.2.2.1, H.2.2.2.2 ++ [((H.1.take n.toNatClampNeg, ((H.1.drop n.toNatClampNeg).take m.toNatClampNeg, ([], ([], (0, 0))))) : Pa)])))) : Ho)) else (-1, H)
def ho_offer (H : Ho) (i : Int32) (w : Int64) (m : Int32) (get pin : Bool) : Int32 × Ho := match ix i H.2.2.2.2.length with
  | none => (-1, H)
  | some j => match H.2.2.2.2[j]? with
    | none => (-1, H)
    | some p => if inR m 1 8 = true ∧ p.2.2.1.length < 4 then (nI (tm_no H.2.1 [1, nI H.2.1.2.1]), (((H.pt j ((p.1, (p.2.1, (p.2.2.1 ++ [((nI (tm_no H.2.1 [1, nI H.2.1.2.1]), (bt_low w m.toNatClampNeg, (get, pin))) : Of)], (p.2.2.2.1, (p.2.2.2.2.1, p.2.2.2.2.2))))) : Pa)).1, (tm_fresh H.2.1, ((H.pt j ((p.1, (p.2.1, (p.2.2.1 ++ [((nI (tm_no H.2.1 [1, nI H.2.1.2.1]), (bt_low w m.toNatClampNeg, (get, pin))) : Of)], (p.2.2.2.1, (p.2.2.2.2.1, p.2.2.2.2.2))))) : Pa)).2.2.1, ((H.pt j ((p.1, (p.2.1, (p.2.2.1 ++ [((nI (tm_no H.2.1 [1, nI H.2.1.2.1]), (bt_low w m.toNatClampNeg, (get, pin))) : Of)], (p.2.2.2.1, (p.2.2.2.2.1, p.2.2.2.2.2))))) : Pa)).2.2.2.1, (H.pt j ((p.1, (p.2.1, (p.2.2.1 ++ [((nI (tm_no H.2.1 [1, nI H.2.1.2.1]), (bt_low w m.toNatClampNeg, (get, pin))) : Of)], (p.2.2.2.1, (p.2.2.2.2.1, p.2.2.2.2.2))))) : Pa)).2.2.2.2)))) : Ho)) else (-1, H)
abbrev jd_ok (t : List Int32) (size : Nat) : Prop := 15 ≤ size ∧ (cbB t 0 = 1 ∨ cbB t 0 = 2) ∧ size = 15 + cbB t 5 + cbB t (10 + cbB t 5)
def jd_data (T : Tm) (p : Pa) (o : Of) (t : List Int32) (bits : Int32) : Int32 :=
  if tm_ix T.1 (7 :: p.2.1) = 0 ∨ w4a t (11 + p.1.length) ≠ nI (tm_ix T.1 (7 :: p.2.1)) then 5
  else if nI (cbB t (15 + p.1.length)) &&& bits ≠ bits then 6
  else if o.2.2.2 = true ∧ nI (cbB t (15 + p.1.length)) &&& 4 = 0 then 7 else 0
def jd_sig (T : Tm) (p : Pa) (t : List Int32) (secret : Int32) (size : Nat) : Bool :=
  !decide (tm_ix T.1 (7 :: (t.take 5 ++ p.1)) = 0) && kn_as T (6 :: secret :: ((t.drop (11 + p.1.length)).take size ++ b4 (nI (tm_ix T.1 (7 :: (t.take 5 ++ p.1)))))) (w4a t (11 + p.1.length + size))
def jd_make (T : Tm) (p : Pa) (o : Of) (t : List Int32) : Int32 × Pa :=
  if cbB t (10 + p.1.length) ≠ 17 then (4, p)
  else if jd_data T p o t 65 ≠ 0 then (jd_data T p o t 65, p)
  else if tm_sec T.1 (w4a t (24 + p.1.length)) = 0 ∨ w4a t (20 + p.1.length) ≠ w4a t (6 + p.1.length) ∨ jd_sig T p t (tm_sec T.1 (w4a t (24 + p.1.length))) 17 = false then (8, p)
  else if p.2.2.2.1.any (fun a => decide (a.1 = w4a t (6 + p.1.length))) then (9, p)
  else if 8 ≤ p.2.2.2.1.length then (10, p)
  else (0, ((p.1, (p.2.1, (p.2.2.1, (p.2.2.2.1 ++ [((w4a t (6 + p.1.length), (w4a t (24 + p.1.length), (w4a t (16 + p.1.length), (0, o.2.1)))) : Ac)], (p.2.2.2.2.1, p.2.2.2.2.2))))) : Pa))
def jd_get (T : Tm) (p : Pa) (o : Of) (t : List Int32) : Int32 × Pa :=
  if cbB t (10 + p.1.length) ≠ 9 then (4, p)
  else if jd_data T p o t 1 ≠ 0 then (jd_data T p o t 1, p)
  else match p.2.2.2.1.findIdx? (fun a => decide (a.1 = w4a t (6 + p.1.length))) with
    | none => (11, p)
    | some j => match p.2.2.2.1[j]? with
      | none => (11, p)
      | some a => if a.2.2.2.2 ≠ o.2.1 then (11, p)
        else if jd_sig T p t (tm_sec T.1 a.2.1) 9 = false then (8, p)
        else if uN (w4a t (16 + p.1.length)) ≤ uN a.2.2.1 ∧ ¬ (w4a t (16 + p.1.length) = 0 ∧ a.2.2.1 = 0) then (12, p)
        else (0, ((p.1, (p.2.1, (p.2.2.1, (p.2.2.2.1.set j ((a.1, (a.2.1, (w4a t (16 + p.1.length), (a.2.2.2.1 + 1, a.2.2.2.2)))) : Ac), (p.2.2.2.2.1, p.2.2.2.2.2))))) : Pa))
def jd_met (T : Tm) (p : Pa) (t : List Int32) (i : Nat) (o : Of) : Int32 × Pa :=
  if (t.drop 6).take (cbB t 5) ≠ p.1 then (3, ((p.1, (p.2.1, (p.2.2.1.eraseIdx i, (p.2.2.2.1, (p.2.2.2.2.1, p.2.2.2.2.2))))) : Pa))
  else if o.2.2.1 then jd_get T ((p.1, (p.2.1, (p.2.2.1.eraseIdx i, (p.2.2.2.1, (p.2.2.2.2.1, p.2.2.2.2.2))))) : Pa) o t else jd_make T ((p.1, (p.2.1, (p.2.2.1.eraseIdx i, (p.2.2.2.1, (p.2.2.2.2.1, p.2.2.2.2.2))))) : Pa) o t
def jd_of (p : Pa) (t : List Int32) : Option Nat := p.2.2.1.findIdx? (fun o => decide (o.1 = w4a t 1 ∧ o.2.2.1 = decide (cbB t 0 = 2)))
def jd (T : Tm) (p : Pa) (t : List Int32) (size : Nat) : Int32 × Pa :=
  if ¬ jd_ok t size then (1, p) else match jd_of p t with
    | none => (2, p)
    | some i => match p.2.2.1[i]? with
      | none => (2, p)
      | some o => jd_met T p t i o
def jd_cnt (q : Int32 × Pa) : Pa := if q.1 = 0 then ((q.2.1, (q.2.2.1, (q.2.2.2.1, (q.2.2.2.2.1, (q.2.2.2.2.2.1 + 1, q.2.2.2.2.2.2))))) : Pa) else ((q.2.1, (q.2.2.1, (q.2.2.2.1, (q.2.2.2.2.1, (q.2.2.2.2.2.1, q.2.2.2.2.2.2 + 1))))) : Pa)
def ho_judge (H : Ho) (i n : Int32) : Int32 × Ho := match ix i H.2.2.2.2.length, tp H n with
  | some j, some m => match H.2.2.2.2[j]? with
    | none => (-1, H)
    | some p => ((jd H.2.1 p H.1 m).1, H.pt j (jd_cnt (jd H.2.1 p H.1 m)))
  | _, _ => (-1, H)
def ho_withdraw (H : Ho) (i : Int32) : Int32 × Ho := match ix i H.2.2.2.2.length with
  | none => (-1, H)
  | some j => match H.2.2.2.2[j]? with
    | none => (-1, H)
    | some p => (nI p.2.2.1.length, H.pt j ((p.1, (p.2.1, ([], (p.2.2.2.1, (p.2.2.2.2.1, p.2.2.2.2.2))))) : Pa))
def pa_tell (p : Pa) (w : Int32) : Int32 := if w = 0 then nI p.2.2.2.1.length else if w = 1 then nI p.2.2.1.length else if w = 2 then p.2.2.2.2.1 else if w = 3 then p.2.2.2.2.2 else -1
def ac_tell (a : Ac) (w : Int32) : Int32 := if w = 0 then a.1 else if w = 1 then a.2.1 else if w = 2 then a.2.2.1 else if w = 3 then a.2.2.2.1 else if w = 4 then nI a.2.2.2.2.length else if w < 5 then -1 else bt_at a.2.2.2.2 (w - 5)
def ho_account (H : Ho) (i p w : Int32) : Int32 × Ho := match ix i H.2.2.2.2.length with
  | none => (-1, H)
  | some j => match H.2.2.2.2[j]? with
    | none => (-1, H)
    | some q => if p = -1 then (pa_tell q w, H) else match (ix p q.2.2.2.1.length).bind (fun x => q.2.2.2.1[x]?) with
      | none => (-1, H)
      | some a => (ac_tell a w, H)
end
/- 96.hz -/
section
set_option maxRecDepth 512
/-! Class: the house: its cells. -/
def hA (κs πs : List Nat) (c : Nat) : Prop := c < 30 ∨ (36 ≤ c ∧ c < 146) ∨ (∃ κ ∈ κs, κ ≤ c ∧ c ≤ κ + 19) ∨ (∃ π ∈ πs, π ≤ c ∧ c ≤ π + 18)
def kb (M : mj_H) (κ : Nat) (k : Ky) : Prop := (M[κ]? = some (ko κ k)) ∧ (∃ r, ks M κ k.1.1.1.1 r) ∧ (M[κ + 15]? = some (cc k.1.1.2.2)) ∧ (bb M (κ + 16) (κ + 17) 400 k.1.1.1.2) ∧ (bb M (κ + 18) (κ + 19) 17 k.1.1.2.1) ∧ (146 ≤ κ)
theorem kb.ob {M : mj_H} {κ : Nat} {k : Ky} (hh_ : kb M κ k) : M[κ]? = some (ko κ k) := hh_.1
theorem kb.st {M : mj_H} {κ : Nat} {k : Ky} (hh_ : kb M κ k) : ∃ r, ks M κ k.1.1.1.1 r := hh_.2.1
theorem kb.cm {M : mj_H} {κ : Nat} {k : Ky} (hh_ : kb M κ k) : M[κ + 15]? = some (cc k.1.1.2.2) := hh_.2.2.1
theorem kb.re {M : mj_H} {κ : Nat} {k : Ky} (hh_ : kb M κ k) : bb M (κ + 16) (κ + 17) 400 k.1.1.1.2 := hh_.2.2.2.1
theorem kb.da {M : mj_H} {κ : Nat} {k : Ky} (hh_ : kb M κ k) : bb M (κ + 18) (κ + 19) 17 k.1.1.2.1 := hh_.2.2.2.2.1
theorem kb.lo {M : mj_H} {κ : Nat} {k : Ky} (hh_ : kb M κ k) : 146 ≤ κ := hh_.2.2.2.2.2
theorem kb_mk_ {M : mj_H} {κ : Nat} {k : Ky} (f_0_ : M[κ]? = some (ko κ k)) (f_1_ : ∃ r, ks M κ k.1.1.1.1 r) (f_2_ : M[κ + 15]? = some (cc k.1.1.2.2)) (f_3_ : bb M (κ + 16) (κ + 17) 400 k.1.1.1.2) (f_4_ : bb M (κ + 18) (κ + 19) 17 k.1.1.2.1) (f_5_ : 146 ≤ κ) : kb M κ k := And.intro f_0_ (And.intro f_1_ (And.intro f_2_ (And.intro f_3_ (And.intro f_4_ f_5_))))
theorem kb.fr {M M' : mj_H} {κ : Nat} {k : Ky} (h : kb M κ k) (e : ∀ c, (κ ≤ c ∧ c ≤ κ + 19) ∨ c = 1 ∨ c = 2 → M'[c]? = M[c]?) : kb M' κ k := by
  obtain ⟨r, hr⟩ := h.st
  exact (kb_mk_ ((e _ (by omega)).trans h.ob) (⟨r, hr.fr (fun c hc => e c (by omega))⟩) ((e _ (by omega)).trans h.cm) (h.re.fr (e _ (by omega)) (e _ (by omega))) (h.da.fr (e _ (by omega)) (e _ (by omega))) h.lo)
def hdz (M : mj_H) (a : Nat) (h : Hd) : Prop := (M[a]? = some (3, [.ref (a + 1), .ref (a + 3), .int h.2.2.1, .int h.2.2.2.1, .int h.2.2.2.2])) ∧ (bb M (a + 1) (a + 2) 12 h.1) ∧ (bb M (a + 3) (a + 4) 40 h.2.1)
theorem hdz.ob {M : mj_H} {a : Nat} {h : Hd} (hh_ : hdz M a h) : M[a]? = some (3, [.ref (a + 1), .ref (a + 3), .int h.2.2.1, .int h.2.2.2.1, .int h.2.2.2.2]) := hh_.1
theorem hdz.pi {M : mj_H} {a : Nat} {h : Hd} (hh_ : hdz M a h) : bb M (a + 1) (a + 2) 12 h.1 := hh_.2.1
theorem hdz.pg {M : mj_H} {a : Nat} {h : Hd} (hh_ : hdz M a h) : bb M (a + 3) (a + 4) 40 h.2.1 := hh_.2.2
theorem hdz_mk_ {M : mj_H} {a : Nat} {h : Hd} (f_0_ : M[a]? = some (3, [.ref (a + 1), .ref (a + 3), .int h.2.2.1, .int h.2.2.2.1, .int h.2.2.2.2])) (f_1_ : bb M (a + 1) (a + 2) 12 h.1) (f_2_ : bb M (a + 3) (a + 4) 40 h.2.1) : hdz M a h := And.intro f_0_ (And.intro f_1_ f_2_)
theorem hdz.fr {M M' : mj_H} {a : Nat} {h : Hd} (z : hdz M a h) (e : ∀ c, a ≤ c ∧ c ≤ a + 4 → M'[c]? = M[c]?) : hdz M' a h :=
  (hdz_mk_ ((e _ (by omega)).trans z.ob) (z.pi.fr (e _ (by omega)) (e _ (by omega))) (z.pg.fr (e _ (by omega)) (e _ (by omega))))
def oc (o : Of) : mj_C := (6, [.int o.1, .long (bt_lo o.2.1), .int (nI o.2.1.length), .int (if o.2.2.1 then 2 else 1), .int (if o.2.2.2 then 1 else 0)])
def acc (a : Ac) : mj_C := (0, [.int a.1, .int a.2.1, .int a.2.2.1, .int a.2.2.2.1, .long (bt_lo a.2.2.2.2), .int (nI a.2.2.2.2.length)])
def pz (M : mj_H) (π : Nat) (p : Pa) : Prop := (M[π]? = some (7, [.ref (π + 1), .ref (π + 3), .ref (π + 5), .ref (π + 10), .int (nI p.2.2.1.length), .int (nI p.2.2.2.1.length), .int p.2.2.2.2.1, .int p.2.2.2.2.2])) ∧ (bb M (π + 1) (π + 2) 40 p.1) ∧ (bb M (π + 3) (π + 4) 24 p.2.1) ∧ (∃ ol : List Nat, ol.length = 4 ∧ M[π + 5]? = some (1008, ol.map Value.ref) ∧ (∀ x ∈ ol, π + 6 ≤ x ∧ x ≤ π + 9) ∧ ol.Nodup ∧ (∀ (i : Nat) (o : Of) (x : Nat), p.2.2.1[i]? = some o → ol[i]? = some x → M[x]? = some (oc o)) ∧ (∀ x ∈ ol, ∃ (a : Int32) (b : Int64) (c d e : Int32), M[x]? = some (6, [.int a, .long b, .int c, .int d, .int e]))) ∧ (M[π + 10]? = some (1009, [.ref (π + 11), .ref (π + 12), .ref (π + 13), .ref (π + 14), .ref (π + 15), .ref (π + 16), .ref (π + 17), .ref (π + 18)])) ∧ (∀ (i : Nat) (a : Ac), p.2.2.2.1[i]? = some a → M[π + 11 + i]? = some (acc a)) ∧ (∀ i, i < 8 → ∃ (a b c d : Int32) (e : Int64) (f : Int32), M[π + 11 + i]? = some (0, [.int a, .int b, .int c, .int d, .long e, .int f])) ∧ (p.2.2.1.length ≤ 4) ∧ (p.2.2.2.1.length ≤ 8) ∧ (146 ≤ π)
theorem pz.ob {M : mj_H} {π : Nat} {p : Pa} (hh_ : pz M π p) : M[π]? = some (7, [.ref (π + 1), .ref (π + 3), .ref (π + 5), .ref (π + 10), .int (nI p.2.2.1.length), .int (nI p.2.2.2.1.length), .int p.2.2.2.2.1, .int p.2.2.2.2.2]) := hh_.1
theorem pz.og {M : mj_H} {π : Nat} {p : Pa} (hh_ : pz M π p) : bb M (π + 1) (π + 2) 40 p.1 := hh_.2.1
theorem pz.nm {M : mj_H} {π : Nat} {p : Pa} (hh_ : pz M π p) : bb M (π + 3) (π + 4) 24 p.2.1 := hh_.2.2.1
theorem pz.oa {M : mj_H} {π : Nat} {p : Pa} (hh_ : pz M π p) : ∃ ol : List Nat, ol.length = 4 ∧ M[π + 5]? = some (1008, ol.map Value.ref) ∧ (∀ x ∈ ol, π + 6 ≤ x ∧ x ≤ π + 9) ∧ ol.Nodup ∧ (∀ (i : Nat) (o : Of) (x : Nat), p.2.2.1[i]? = some o → ol[i]? = some x → M[x]? = some (oc o)) ∧ (∀ x ∈ ol, ∃ (a : Int32) (b : Int64) (c d e : Int32), M[x]? = some (6, [.int a, .long b, .int c, .int d, .int e])) := hh_.2.2.2.1
theorem pz.aa {M : mj_H} {π : Nat} {p : Pa} (hh_ : pz M π p) : M[π + 10]? = some (1009, [.ref (π + 11), .ref (π + 12), .ref (π + 13), .ref (π + 14), .ref (π + 15), .ref (π + 16), .ref (π + 17), .ref (π + 18)]) := hh_.2.2.2.2.1
theorem pz.ac {M : mj_H} {π : Nat} {p : Pa} (hh_ : pz M π p) : ∀ (i : Nat) (a : Ac), p.2.2.2.1[i]? = some a → M[π + 11 + i]? = some (acc a) := hh_.2.2.2.2.2.1
theorem pz.ax {M : mj_H} {π : Nat} {p : Pa} (hh_ : pz M π p) : ∀ i, i < 8 → ∃ (a b c d : Int32) (e : Int64) (f : Int32), M[π + 11 + i]? = some (0, [.int a, .int b, .int c, .int d, .long e, .int f]) := hh_.2.2.2.2.2.2.1
theorem pz.l4 {M : mj_H} {π : Nat} {p : Pa} (hh_ : pz M π p) : p.2.2.1.length ≤ 4 := hh_.2.2.2.2.2.2.2.1
theorem pz.l8 {M : mj_H} {π : Nat} {p : Pa} (hh_ : pz M π p) : p.2.2.2.1.length ≤ 8 := hh_.2.2.2.2.2.2.2.2.1
theorem pz.lo {M : mj_H} {π : Nat} {p : Pa} (hh_ : pz M π p) : 146 ≤ π := hh_.2.2.2.2.2.2.2.2.2
theorem pz_mk_ {M : mj_H} {π : Nat} {p : Pa} (f_0_ : M[π]? = some (7, [.ref (π + 1), .ref (π + 3), .ref (π + 5), .ref (π + 10), .int (nI p.2.2.1.length), .int (nI p.2.2.2.1.length), .int p.2.2.2.2.1, .int p.2.2.2.2.2])) (f_1_ : bb M (π + 1) (π + 2) 40 p.1) (f_2_ : bb M (π + 3) (π + 4) 24 p.2.1) (f_3_ : ∃ ol : List Nat, ol.length = 4 ∧ M[π + 5]? = some (1008, ol.map Value.ref) ∧ (∀ x ∈ ol, π + 6 ≤ x ∧ x ≤ π + 9) ∧ ol.Nodup ∧ (∀ (i : Nat) (o : Of) (x : Nat), p.2.2.1[i]? = some o → ol[i]? = some x → M[x]? = some (oc o)) ∧ (∀ x ∈ ol, ∃ (a : Int32) (b : Int64) (c d e : Int32), M[x]? = some (6, [.int a, .long b, .int c, .int d, .int e]))) (f_4_ : M[π + 10]? = some (1009, [.ref (π + 11), .ref (π + 12), .ref (π + 13), .ref (π + 14), .ref (π + 15), .ref (π + 16), .ref (π + 17), .ref (π + 18)])) (f_5_ : ∀ (i : Nat) (a : Ac), p.2.2.2.1[i]? = some a → M[π + 11 + i]? = some (acc a)) (f_6_ : ∀ i, i < 8 → ∃ (a b c d : Int32) (e : Int64) (f : Int32), M[π + 11 + i]? = some (0, [.int a, .int b, .int c, .int d, .long e, .int f])) (f_7_ : p.2.2.1.length ≤ 4) (f_8_ : p.2.2.2.1.length ≤ 8) (f_9_ : 146 ≤ π) : pz M π p := And.intro f_0_ (And.intro f_1_ (And.intro f_2_ (And.intro f_3_ (And.intro f_4_ (And.intro f_5_ (And.intro f_6_ (And.intro f_7_ (And.intro f_8_ f_9_))))))))
theorem pz.fr {M M' : mj_H} {π : Nat} {p : Pa} (h : pz M π p) (e : ∀ c, π ≤ c ∧ c ≤ π + 18 → M'[c]? = M[c]?) : pz M' π p := by
  obtain ⟨ol, o1, o2, o3, o4, o5, o6⟩ := h.oa
  refine (pz_mk_ ((e _ (by omega)).trans h.ob) (h.og.fr (e _ (by omega)) (e _ (by omega))) (h.nm.fr (e _ (by omega)) (e _ (by omega))) (⟨ol, o1, (e _ (by omega)).trans o2, o3, o4, ?_, ?_⟩) ((e _ (by omega)).trans h.aa) ?_ ?_ h.l4 h.l8 h.lo)
  · intro i o x h1 h2
    have := o3 x (List.mem_of_getElem? h2)
    exact (e _ (by omega)).trans (o5 i o x h1 h2)
  · intro x hx
    have := o3 x hx
    obtain ⟨a, b, c, d, f, q⟩ := o6 x hx
    exact ⟨a, b, c, d, f, (e _ (by omega)).trans q⟩
  · intro i a hi
    have := h.l8
    have := (List.getElem?_eq_some_iff.mp hi).1
    exact (e _ (by omega)).trans (h.ac i a hi)
  · intro i hi
    obtain ⟨a, b, c, d, f, g, q⟩ := h.ax i hi
    exact ⟨a, b, c, d, f, g, (e _ (by omega)).trans q⟩
def nulls (n : Nat) : List Value := List.replicate n .null
def hz (M : mj_H) (H : Ho) (κs πs : List Nat) (row : List Int32) : Prop := (tx (hA κs πs) M H.2.1 row) ∧ (M[25]? = some (10, [.ref 26, .ref 28, .ref 30, .ref 36, .ref 44, .ref 45, .ref 66, .int (nI H.2.2.1.length), .int (nI H.2.2.2.2.length)])) ∧ (bb M 26 27 400 H.1) ∧ (∃ m, bb M 28 29 400 m) ∧ (iw M) ∧ (M[44]? = some (1004, κs.map Value.ref ++ nulls (3 - κs.length))) ∧ (M[45]? = some (1005, [.ref 46, .ref 51, .ref 56, .ref 61])) ∧ (M[66]? = some (1006, πs.map Value.ref ++ nulls (4 - πs.length))) ∧ (∀ (i : Nat) (h : Hd), H.2.2.2.1[i]? = some h → hdz M (46 + 5 * i) h) ∧ (∀ (i : Nat) (k : Ky) (κ : Nat), H.2.2.1[i]? = some k → κs[i]? = some κ → kb M κ k) ∧ (∀ (i : Nat) (p : Pa) (π : Nat), H.2.2.2.2[i]? = some p → πs[i]? = some π → pz M π p) ∧ (H.2.2.2.1.length = 4) ∧ (κs.length = H.2.2.1.length) ∧ (πs.length = H.2.2.2.2.length) ∧ (κs.length ≤ 3) ∧ (πs.length ≤ 4) ∧ (∀ i, i < 11 → sg M (3 + 2 * i) (mj_str.getD i [])) ∧ (M[1]? = some (1000, [.int 0, .int 4, .int 4, .int 1, .int 8, .int 13])) ∧ (M[2]? = some (1000, [.int 0, .int 4, .int 4, .int 1, .int 8, .int 20])) ∧ (∀ (i j a b : Nat), κs[i]? = some a → κs[j]? = some b → i ≠ j → a + 20 ≤ b ∨ b + 20 ≤ a) ∧ (∀ (i j a b : Nat), πs[i]? = some a → πs[j]? = some b → i ≠ j → a + 19 ≤ b ∨ b + 19 ≤ a) ∧ (∀ a ∈ κs, ∀ b ∈ πs, a + 20 ≤ b ∨ b + 19 ≤ a) ∧ (∀ κ ∈ κs, 146 ≤ κ) ∧ (∀ π ∈ πs, 146 ≤ π) ∧ (mj_sl M ≤ 2500000 + mj_zz M + 2000 * κs.length + 500 * πs.length) ∧ (512 * M.length ≤ 100000 + mj_zz M + 11000 * κs.length + 11000 * πs.length)
theorem hz.t {M : mj_H} {H : Ho} {κs πs : List Nat} {row : List Int32} (hh_ : hz M H κs πs row) : tx (hA κs πs) M H.2.1 row := hh_.1
theorem hz.ob {M : mj_H} {H : Ho} {κs πs : List Nat} {row : List Int32} (hh_ : hz M H κs πs row) : M[25]? = some (10, [.ref 26, .ref 28, .ref 30, .ref 36, .ref 44, .ref 45, .ref 66, .int (nI H.2.2.1.length), .int (nI H.2.2.2.2.length)]) := hh_.2.1
theorem hz.tp {M : mj_H} {H : Ho} {κs πs : List Nat} {row : List Int32} (hh_ : hz M H κs πs row) : bb M 26 27 400 H.1 := hh_.2.2.1
theorem hz.ms {M : mj_H} {H : Ho} {κs πs : List Nat} {row : List Int32} (hh_ : hz M H κs πs row) : ∃ m, bb M 28 29 400 m := hh_.2.2.2.1
theorem hz.it {M : mj_H} {H : Ho} {κs πs : List Nat} {row : List Int32} (hh_ : hz M H κs πs row) : iw M := hh_.2.2.2.2.1
theorem hz.ka {M : mj_H} {H : Ho} {κs πs : List Nat} {row : List Int32} (hh_ : hz M H κs πs row) : M[44]? = some (1004, κs.map Value.ref ++ nulls (3 - κs.length)) := hh_.2.2.2.2.2.1
theorem hz.ha {M : mj_H} {H : Ho} {κs πs : List Nat} {row : List Int32} (hh_ : hz M H κs πs row) : M[45]? = some (1005, [.ref 46, .ref 51, .ref 56, .ref 61]) := hh_.2.2.2.2.2.2.1
theorem hz.pa {M : mj_H} {H : Ho} {κs πs : List Nat} {row : List Int32} (hh_ : hz M H κs πs row) : M[66]? = some (1006, πs.map Value.ref ++ nulls (4 - πs.length)) := hh_.2.2.2.2.2.2.2.1
theorem hz.hd {M : mj_H} {H : Ho} {κs πs : List Nat} {row : List Int32} (hh_ : hz M H κs πs row) : ∀ (i : Nat) (h : Hd), H.2.2.2.1[i]? = some h → hdz M (46 + 5 * i) h := hh_.2.2.2.2.2.2.2.2.1
theorem hz.ky {M : mj_H} {H : Ho} {κs πs : List Nat} {row : List Int32} (hh_ : hz M H κs πs row) : ∀ (i : Nat) (k : Ky) (κ : Nat), H.2.2.1[i]? = some k → κs[i]? = some κ → kb M κ k := hh_.2.2.2.2.2.2.2.2.2.1
theorem hz.py {M : mj_H} {H : Ho} {κs πs : List Nat} {row : List Int32} (hh_ : hz M H κs πs row) : ∀ (i : Nat) (p : Pa) (π : Nat), H.2.2.2.2[i]? = some p → πs[i]? = some π → pz M π p := hh_.2.2.2.2.2.2.2.2.2.2.1
theorem hz.hl {M : mj_H} {H : Ho} {κs πs : List Nat} {row : List Int32} (hh_ : hz M H κs πs row) : H.2.2.2.1.length = 4 := hh_.2.2.2.2.2.2.2.2.2.2.2.1
theorem hz.kl {M : mj_H} {H : Ho} {κs πs : List Nat} {row : List Int32} (hh_ : hz M H κs πs row) : κs.length = H.2.2.1.length := hh_.2.2.2.2.2.2.2.2.2.2.2.2.1
theorem hz.pl {M : mj_H} {H : Ho} {κs πs : List Nat} {row : List Int32} (hh_ : hz M H κs πs row) : πs.length = H.2.2.2.2.length := hh_.2.2.2.2.2.2.2.2.2.2.2.2.2.1
theorem hz.k3 {M : mj_H} {H : Ho} {κs πs : List Nat} {row : List Int32} (hh_ : hz M H κs πs row) : κs.length ≤ 3 := hh_.2.2.2.2.2.2.2.2.2.2.2.2.2.2.1
theorem hz.p4 {M : mj_H} {H : Ho} {κs πs : List Nat} {row : List Int32} (hh_ : hz M H κs πs row) : πs.length ≤ 4 := hh_.2.2.2.2.2.2.2.2.2.2.2.2.2.2.2.1
theorem hz.str {M : mj_H} {H : Ho} {κs πs : List Nat} {row : List Int32} (hh_ : hz M H κs πs row) : ∀ i, i < 11 → sg M (3 + 2 * i) (mj_str.getD i []) := hh_.2.2.2.2.2.2.2.2.2.2.2.2.2.2.2.2.1
theorem hz.s1 {M : mj_H} {H : Ho} {κs πs : List Nat} {row : List Int32} (hh_ : hz M H κs πs row) : M[1]? = some (1000, [.int 0, .int 4, .int 4, .int 1, .int 8, .int 13]) := hh_.2.2.2.2.2.2.2.2.2.2.2.2.2.2.2.2.2.1
theorem hz.s2 {M : mj_H} {H : Ho} {κs πs : List Nat} {row : List Int32} (hh_ : hz M H κs πs row) : M[2]? = some (1000, [.int 0, .int 4, .int 4, .int 1, .int 8, .int 20]) := hh_.2.2.2.2.2.2.2.2.2.2.2.2.2.2.2.2.2.2.1
theorem hz.dk {M : mj_H} {H : Ho} {κs πs : List Nat} {row : List Int32} (hh_ : hz M H κs πs row) : ∀ (i j a b : Nat), κs[i]? = some a → κs[j]? = some b → i ≠ j → a + 20 ≤ b ∨ b + 20 ≤ a := hh_.2.2.2.2.2.2.2.2.2.2.2.2.2.2.2.2.2.2.2.1
theorem hz.dp {M : mj_H} {H : Ho} {κs πs : List Nat} {row : List Int32} (hh_ : hz M H κs πs row) : ∀ (i j a b : Nat), πs[i]? = some a → πs[j]? = some b → i ≠ j → a + 19 ≤ b ∨ b + 19 ≤ a := hh_.2.2.2.2.2.2.2.2.2.2.2.2.2.2.2.2.2.2.2.2.1
theorem hz.dx {M : mj_H} {H : Ho} {κs πs : List Nat} {row : List Int32} (hh_ : hz M H κs πs row) : ∀ a ∈ κs, ∀ b ∈ πs, a + 20 ≤ b ∨ b + 19 ≤ a := hh_.2.2.2.2.2.2.2.2.2.2.2.2.2.2.2.2.2.2.2.2.2.1
theorem hz.bk {M : mj_H} {H : Ho} {κs πs : List Nat} {row : List Int32} (hh_ : hz M H κs πs row) : ∀ κ ∈ κs, 146 ≤ κ := hh_.2.2.2.2.2.2.2.2.2.2.2.2.2.2.2.2.2.2.2.2.2.2.1
theorem hz.bp {M : mj_H} {H : Ho} {κs πs : List Nat} {row : List Int32} (hh_ : hz M H κs πs row) : ∀ π ∈ πs, 146 ≤ π := hh_.2.2.2.2.2.2.2.2.2.2.2.2.2.2.2.2.2.2.2.2.2.2.2.1
theorem hz.rs {M : mj_H} {H : Ho} {κs πs : List Nat} {row : List Int32} (hh_ : hz M H κs πs row) : mj_sl M ≤ 2500000 + mj_zz M + 2000 * κs.length + 500 * πs.length := hh_.2.2.2.2.2.2.2.2.2.2.2.2.2.2.2.2.2.2.2.2.2.2.2.2.1
theorem hz.rc {M : mj_H} {H : Ho} {κs πs : List Nat} {row : List Int32} (hh_ : hz M H κs πs row) : 512 * M.length ≤ 100000 + mj_zz M + 11000 * κs.length + 11000 * πs.length := hh_.2.2.2.2.2.2.2.2.2.2.2.2.2.2.2.2.2.2.2.2.2.2.2.2.2
theorem hz_mk_ {M : mj_H} {H : Ho} {κs πs : List Nat} {row : List Int32} (f_0_ : tx (hA κs πs) M H.2.1 row) (f_1_ : M[25]? = some (10, [.ref 26, .ref 28, .ref 30, .ref 36, .ref 44, .ref 45, .ref 66, .int (nI H.2.2.1.length), .int (nI H.2.2.2.2.length)])) (f_2_ : bb M 26 27 400 H.1) (f_3_ : ∃ m, bb M 28 29 400 m) (f_4_ : iw M) (f_5_ : M[44]? = some (1004, κs.map Value.ref ++ nulls (3 - κs.length))) (f_6_ : M[45]? = some (1005, [.ref 46, .ref 51, .ref 56, .ref 61])) (f_7_ : M[66]? = some (1006, πs.map Value.ref ++ nulls (4 - πs.length))) (f_8_ : ∀ (i : Nat) (h : Hd), H.2.2.2.1[i]? = some h → hdz M (46 + 5 * i) h) (f_9_ : ∀ (i : Nat) (k : Ky) (κ : Nat), H.2.2.1[i]? = some k → κs[i]? = some κ → kb M κ k) (f_10_ : ∀ (i : Nat) (p : Pa) (π : Nat), H.2.2.2.2[i]? = some p → πs[i]? = some π → pz M π p) (f_11_ : H.2.2.2.1.length = 4) (f_12_ : κs.length = H.2.2.1.length) (f_13_ : πs.length = H.2.2.2.2.length) (f_14_ : κs.length ≤ 3) (f_15_ : πs.length ≤ 4) (f_16_ : ∀ i, i < 11 → sg M (3 + 2 * i) (mj_str.getD i [])) (f_17_ : M[1]? = some (1000, [.int 0, .int 4, .int 4, .int 1, .int 8, .int 13])) (f_18_ : M[2]? = some (1000, [.int 0, .int 4, .int 4, .int 1, .int 8, .int 20])) (f_19_ : ∀ (i j a b : Nat), κs[i]? = some a → κs[j]? = some b → i ≠ j → a + 20 ≤ b ∨ b + 20 ≤ a) (f_20_ : ∀ (i j a b : Nat), πs[i]? = some a → πs[j]? = some b → i ≠ j → a + 19 ≤ b ∨ b + 19 ≤ a) (f_21_ : ∀ a ∈ κs, ∀ b ∈ πs, a + 20 ≤ b ∨ b + 19 ≤ a) (f_22_ : ∀ κ ∈ κs, 146 ≤ κ) (f_23_ : ∀ π ∈ πs, 146 ≤ π) (f_24_ : mj_sl M ≤ 2500000 + mj_zz M + 2000 * κs.length + 500 * πs.length) (f_25_ : 512 * M.length ≤ 100000 + mj_zz M + 11000 * κs.length + 11000 * πs.length) : hz M H κs πs row := And.intro f_0_ (And.intro f_1_ (And.intro f_2_ (And.intro f_3_ (And.intro f_4_ (And.intro f_5_ (And.intro f_6_ (And.intro f_7_ (And.intro f_8_ (And.intro f_9_ (And.intro f_10_ (And.intro f_11_ (And.intro f_12_ (And.intro f_13_ (And.intro f_14_ (And.intro f_15_ (And.intro f_16_ (And.intro f_17_ (And.intro f_18_ (And.intro f_19_ (And.intro f_20_ (And.intro f_21_ (And.intro f_22_ (And.intro f_23_ (And.intro f_24_ f_25_))))))))))))))))))))))))
/-- the model's cells stand -/
def hf (M M' : mj_H) : Prop := M.length ≤ M'.length ∧ ∀ c, (c = 0 ∨ 67 ≤ c) → c < 146 → M'[c]? = M[c]?
theorem hf.rf {M : mj_H} : hf M M := ⟨Nat.le_refl _, fun _ _ _ => rfl⟩
theorem hf.tr {M M' M'' : mj_H} (h : hf M M') (h' : hf M' M'') : hf M M'' := ⟨Nat.le_trans h.1 h'.1, fun c h1 h2 => (h'.2 c h1 h2).trans (h.2 c h1 h2)⟩
/-- cells that no call but one that makes things changes -/
def cst (c : Nat) : Prop := c < 26 ∨ c = 44 ∨ c = 45 ∨ (66 ≤ c ∧ c < 146)
section HZ
variable {M M' : mj_H} {H H' : Ho} {κs πs : List Nat} {row row' : List Int32} {S : Nat → Prop}
theorem hz.lt (z : hz M H κs πs row) {c : Nat} (h : hA κs πs c) : c < M.length := z.t.lo c h
theorem hz.sm (z : hz M H κs πs row) (f : fx S M M') : ∀ c, hA κs πs c → ¬ S c → M'[c]? = M[c]? := fun c hc hs => f.same c (z.lt hc) hs
theorem hz.go (z : hz M H κs πs row) (f : fx S M M') (hc : ∀ c, cst c → ¬ S c) (t' : tx (hA κs πs) M' H'.2.1 row') (tp : bb M' 26 27 400 H'.1) (ms : ∃ m, bb M' 28 29 400 m) (it : iw M')
    (hd : ∀ (i : Nat) (h : Hd), H'.2.2.2.1[i]? = some h → hdz M' (46 + 5 * i) h) (hl : H'.2.2.2.1.length = 4) (ky : ∀ (i : Nat) (k : Ky) (κ : Nat), H'.2.2.1[i]? = some k → κs[i]? = some κ → kb M' κ k) (kl : H'.2.2.1.length = H.2.2.1.length) (py : ∀ (i : Nat) (p : Pa) (π : Nat), H'.2.2.2.2[i]? = some p → πs[i]? = some π → pz M' π p) (pl : H'.2.2.2.2.length = H.2.2.2.2.length) : hz M' H' κs πs row' ∧ hf M M' := by
  have e : ∀ c, cst c → M'[c]? = M[c]? := fun c h => z.sm f c (by unfold cst at h; unfold hA; omega) (hc c h)
  refine ⟨(hz_mk_ t' ?_ tp ms it ?_ ?_ ?_ hd ky py hl (by rw [kl]; exact z.kl) (by rw [pl]; exact z.pl) z.k3 z.p4 ?_ ?_ ?_ z.dk z.dp z.dx z.bk z.bp ?_ ?_), f.gr.len, fun c h1 h2 => e c (by unfold cst; omega)⟩
  · rw [kl, pl, e 25 (by unfold cst; omega)]; exact z.ob
  · rw [e 44 (by unfold cst; omega)]; exact z.ka
  · rw [e 45 (by unfold cst; omega)]; exact z.ha
  · rw [e 66 (by unfold cst; omega)]; exact z.pa
  · intro i hi
    exact (z.str i hi).fr (e _ (by unfold cst; omega)) (e _ (by unfold cst; omega))
  · rw [e 1 (by unfold cst; omega)]; exact z.s1
  · rw [e 2 (by unfold cst; omega)]; exact z.s2
  · have := f.room; have := z.rs; omega
  · have := f.cells; have := z.rc; omega
/-- frames of the parts -/
theorem hz.tpF (z : hz M H κs πs row) (f : fx S M M') (h : ∀ c, 26 ≤ c ∧ c ≤ 27 → ¬ S c) : bb M' 26 27 400 H.1 := z.tp.fr (z.sm f _ (by unfold hA; omega) (h _ (by omega))) (z.sm f _ (by unfold hA; omega) (h _ (by omega)))
theorem hz.msF (z : hz M H κs πs row) (f : fx S M M') (h : ∀ c, 28 ≤ c ∧ c ≤ 29 → ¬ S c) : ∃ m, bb M' 28 29 400 m := by
  obtain ⟨m, hm⟩ := z.ms
  exact ⟨m, hm.fr (z.sm f _ (by unfold hA; omega) (h _ (by omega))) (z.sm f _ (by unfold hA; omega) (h _ (by omega)))⟩
theorem hz.itF (z : hz M H κs πs row) (f : fx S M M') (h : ∀ c, 36 ≤ c ∧ c ≤ 41 → ¬ S c) : iw M' := by
  obtain ⟨src, c, p, S', V, H, E, N, hu⟩ := z.it
  exact ⟨src, c, p, S', V, H, E, N, hu.fr (fun a h1 h2 => z.sm f a (by unfold hA; omega) (h a ⟨h1, h2⟩))⟩
theorem hz.hdF (z : hz M H κs πs row) (f : fx S M M') (h : ∀ c, 46 ≤ c ∧ c ≤ 65 → ¬ S c) : ∀ (i : Nat) (h : Hd), H.2.2.2.1[i]? = some h → hdz M' (46 + 5 * i) h := by
  intro i q hq
  have := (List.getElem?_eq_some_iff.mp hq).1
  have := z.hl
  exact (z.hd i q hq).fr (fun c hc => z.sm f c (by unfold hA; omega) (h c (by omega)))
theorem hz.kyF (z : hz M H κs πs row) (f : fx S M M') (h : ∀ κ ∈ κs, ∀ c, (κ ≤ c ∧ c ≤ κ + 19) → ¬ S c) (h12 : ¬ S 1 ∧ ¬ S 2) : ∀ (i : Nat) (k : Ky) (κ : Nat), H.2.2.1[i]? = some k → κs[i]? = some κ → kb M' κ k := by
  intro i k κ h1 h2
  have hm := List.mem_of_getElem? h2
  refine (z.ky i k κ h1 h2).fr (fun c hc => ?_)
  rcases hc with hc | rfl | rfl
  · exact z.sm f c (Or.inr (Or.inr (Or.inl ⟨κ, hm, hc⟩))) (h κ hm c hc)
  · exact z.sm f 1 (by unfold hA; omega) h12.1
  · exact z.sm f 2 (by unfold hA; omega) h12.2
theorem hz.pyF (z : hz M H κs πs row) (f : fx S M M') (h : ∀ π ∈ πs, ∀ c, (π ≤ c ∧ c ≤ π + 18) → ¬ S c) : ∀ (i : Nat) (p : Pa) (π : Nat), H.2.2.2.2[i]? = some p → πs[i]? = some π → pz M' π p := by
  intro i k π h1 h2
  have hm := List.mem_of_getElem? h2
  exact (z.py i k π h1 h2).fr (fun c hc => z.sm f c (Or.inr (Or.inr (Or.inr ⟨π, hm, hc⟩))) (h π hm c hc))
/-- terms alone have changed -/
theorem hz.tb (z : hz M H κs πs row) {T' : Tm} (t' : tx (hA κs πs) M' T' row') (f : fx (na (hA κs πs)) M M') : hz M' ((H.1, (T', (H.2.2.1, (H.2.2.2.1, H.2.2.2.2)))) : Ho) κs πs row' ∧ hf M M' := by
  have n : ∀ c, hA κs πs c → ¬ na (hA κs πs) c := fun c h h2 => h2 h
  exact z.go f (fun c hc => n c (by unfold cst at hc; unfold hA; omega)) t' (z.tpF f (fun c hc => n c (by unfold hA; omega))) (z.msF f (fun c hc => n c (by unfold hA; omega))) (z.itF f (fun c hc => n c (by unfold hA; omega))) (z.hdF f (fun c hc => n c (by unfold hA; omega))) z.hl (z.kyF f (fun κ hk c hc => n c (Or.inr (Or.inr (Or.inl ⟨κ, hk, hc⟩)))) ⟨n _ (by unfold hA; omega), n _ (by unfold hA; omega)⟩) rfl (z.pyF f (fun π hk c hc => n c (Or.inr (Or.inr (Or.inr ⟨π, hk, hc⟩))))) rfl
/-- a frame of cells that stand where they were -/
theorem hz.fxx (z : hz M H κs πs row) {L : List Nat} (hg : mj_gr M M') (h : mq_fr L M M') (hL : ∀ c ∈ L, hA κs πs c) : fx (· ∈ L) M M' := fx.of hg h (fun h30 => z.t.a0 (hL 30 h30)) z.t.p30
theorem hz.tF (z : hz M H κs πs row) {L : List Nat} (h : mq_fr L M M') (hL : ∀ c ∈ L, hA κs πs c) : tx (hA κs πs) M' H.2.1 row := z.t.fr (by rw [h.1]; exact Nat.le_refl _) (fun c _ hc => h.2 c (fun hm => hc (hL c hm)))
/-- the tape -/
theorem hz.tape (z : hz M H κs πs row) {t : List Int32} (hb : bb M' 26 27 400 t) (h : mq_fr [26, 27] M M') (hg : mj_gr M M') : hz M' ((t, (H.2.1, (H.2.2.1, (H.2.2.2.1, H.2.2.2.2)))) : Ho) κs πs row ∧ hf M M' := by
  have hL : ∀ c ∈ [26, 27], hA κs πs c := by intro c hc; simp at hc; unfold hA; omega
  have hbk := z.bk
  have hbp := z.bp
  exact z.go (z.fxx hg h hL) (by intro c hc; unfold cst at hc; simp; omega) (z.tF h hL) hb (z.msF (z.fxx hg h hL) (by intro c hc; simp; omega)) (z.itF (z.fxx hg h hL) (by intro c hc; simp; omega)) (z.hdF (z.fxx hg h hL) (by intro c hc; simp; omega)) z.hl (z.kyF (z.fxx hg h hL) (by intro κ hk c hc; have := hbk κ hk; simp; omega) (by simp)) rfl (z.pyF (z.fxx hg h hL) (by intro κ hk c hc; have := hbp κ hk; simp; omega)) rfl
/-- the message -/
theorem hz.mess (z : hz M H κs πs row) {t : List Int32} (hb : bb M' 28 29 400 t) (h : mq_fr [28, 29] M M') (hg : mj_gr M M') : hz M' H κs πs row ∧ hf M M' := by
  have hL : ∀ c ∈ [28, 29], hA κs πs c := by intro c hc; simp at hc; unfold hA; omega
  have hbk := z.bk
  have hbp := z.bp
  exact z.go (z.fxx hg h hL) (by intro c hc; unfold cst at hc; simp; omega) (z.tF h hL) (z.tpF (z.fxx hg h hL) (by intro c hc; simp; omega)) ⟨t, hb⟩ (z.itF (z.fxx hg h hL) (by intro c hc; simp; omega)) (z.hdF (z.fxx hg h hL) (by intro c hc; simp; omega)) z.hl (z.kyF (z.fxx hg h hL) (by intro κ hk c hc; have := hbk κ hk; simp; omega) (by simp)) rfl (z.pyF (z.fxx hg h hL) (by intro κ hk c hc; have := hbp κ hk; simp; omega)) rfl
/-- a hand -/
theorem hz.hand (z : hz M H κs πs row) {j : Nat} {q : Hd} {L : List Nat} (hj : j < 4) (hL4 : ∀ c ∈ L, 46 + 5 * j ≤ c ∧ c ≤ 50 + 5 * j) (hb : hdz M' (46 + 5 * j) q) (h : mq_fr L M M') (hg : mj_gr M M') : hz M' ((H.1, (H.2.1, (H.2.2.1, (H.2.2.2.1.set j q, H.2.2.2.2)))) : Ho) κs πs row ∧ hf M M' := by
  have hL : ∀ c ∈ L, hA κs πs c := by intro c hc; have := hL4 c hc; unfold hA; omega
  have hbk := z.bk
  have hbp := z.bp
  have f := z.fxx hg h hL
  have n : ∀ c, ¬ (46 + 5 * j ≤ c ∧ c ≤ 50 + 5 * j) → ¬ c ∈ L := fun c h1 h2 => h1 (hL4 c h2)
  refine z.go f (by intro c hc; unfold cst at hc; exact n c (by omega)) (z.tF h hL) (z.tpF f (by intro c hc; exact n c (by omega))) (z.msF f (by intro c hc; exact n c (by omega))) (z.itF f (by intro c hc; exact n c (by omega))) ?_ (by simpa using z.hl) (z.kyF f (by intro κ hk c hc; have := hbk κ hk; exact n c (by omega)) ⟨n _ (by omega), n _ (by omega)⟩) rfl (z.pyF f (by intro κ hk c hc; have := hbp κ hk; exact n c (by omega))) rfl
  intro i q' hq
  by_cases hij : j = i
  · subst hij
    rw [List.getElem?_set_self (by rw [z.hl]; exact hj)] at hq
    cases hq
    exact hb
  · rw [List.getElem?_set_ne hij] at hq
    have := (List.getElem?_eq_some_iff.mp hq).1
    have := z.hl
    exact (z.hd i q' hq).fr (fun c hc => z.sm f c (by unfold hA; omega) (n c (by omega)))
/-- a key as it is called -/
theorem hz.kzz (z : hz M H κs πs row) {j : Nat} {k : Ky} (hk : H.2.2.1[j]? = some k) : ∃ κ, κs[j]? = some κ ∧ kz (hA κs πs) κ M k H.2.1 row := by
  have hl := (List.getElem?_eq_some_iff.mp hk).1
  have hl2 : j < κs.length := by rw [z.kl]; exact hl
  have hq : κs[j]? = some κs[j] := List.getElem?_eq_getElem hl2
  have hb := z.ky j k _ hk hq
  refine ⟨_, hq, (kz_mk_ z.t hb.ob hb.st hb.cm hb.re hb.da hb.lo ?_ z.str)⟩
  intro c hc
  rcases hc with hc | hc | hc
  · exact Or.inl hc
  · exact Or.inr (Or.inl (by omega))
  · exact Or.inr (Or.inr (Or.inl ⟨_, List.mem_of_getElem? hq, hc⟩))
/-- the key has done something -/
theorem hz.kback (z : hz M H κs πs row) {j κ : Nat} {k k' : Ky} {T' : Tm} (hk : H.2.2.1[j]? = some k) (hκ : κs[j]? = some κ) (z' : kz (hA κs πs) κ M' k' T' row') (f : fx (kR (hA κs πs) κ) M M') (hi : iw M') : hz M' ((H.1, (T', (H.2.2.1.set j k', (H.2.2.2.1, H.2.2.2.2)))) : Ho) κs πs row' ∧ hf M M' := by
  have hlo := z'.lo
  have hbk := z.bk
  have hbp := z.bp
  have n : ∀ c, hA κs πs c → ¬ (κ ≤ c ∧ c ≤ κ + 19) → ¬ (36 ≤ c ∧ c ≤ 41) → ¬ kR (hA κs πs) κ c := by
    intro c h1 h2 h3 h4
    rcases h4 with (h4 | h4) | h4
    · exact h4 h1
    · exact h2 h4
    · exact h3 h4
  have hm := List.mem_of_getElem? hκ
  have hl := (List.getElem?_eq_some_iff.mp hk).1
  refine z.go f (fun c hc => n c (by unfold cst at hc; unfold hA; omega) (by unfold cst at hc; omega) (by unfold cst at hc; omega)) z'.t (z.tpF f (fun c hc => n c (by unfold hA; omega) (by omega) (by omega))) (z.msF f (fun c hc => n c (by unfold hA; omega) (by omega) (by omega))) hi (z.hdF f (fun c hc => n c (by unfold hA; omega) (by omega) (by omega))) z.hl ?_ (by simp) (z.pyF f (fun π hp c hc => n c (Or.inr (Or.inr (Or.inr ⟨π, hp, hc⟩))) (by have := z.dx κ hm π hp; omega) (by have := hbp π hp; omega))) rfl
  intro i k1 κ1 h1 h2
  by_cases hij : j = i
  · subst hij
    rw [List.getElem?_set_self hl] at h1
    cases h1
    rw [hκ] at h2
    cases h2
    exact (kb_mk_ z'.ob z'.st z'.cm z'.re z'.da z'.lo)
  · rw [List.getElem?_set_ne hij] at h1
    have hm1 := List.mem_of_getElem? h2
    have hd := z.dk j i κ κ1 hκ h2 hij
    have hb1 := hbk κ1 hm1
    refine (z.ky i k1 κ1 h1 h2).fr (fun c hc => ?_)
    rcases hc with hc | rfl | rfl
    · exact z.sm f c (Or.inr (Or.inr (Or.inl ⟨κ1, hm1, hc⟩))) (n c (Or.inr (Or.inr (Or.inl ⟨κ1, hm1, hc⟩))) (by omega) (by omega))
    · exact z.sm f 1 (by unfold hA; omega) (n 1 (by unfold hA; omega) (by omega) (by omega))
    · exact z.sm f 2 (by unfold hA; omega) (n 2 (by unfold hA; omega) (by omega) (by omega))
end HZ
end
/- 97.h1 -/
section
set_option maxRecDepth 512
/-! Class: the house: tape and terms. -/
/- 7 PasskeyHouse.feed(JI)I -/
theorem s7_0 {d : Nat} {ls : mj_L} {st : List Value} {M : mj_H} : mj_Rn d mj_m7 0 ls st M = mq_k0 d mj_m7 1 ls M (mj_ldi (mj_lk ls 3) st) := mj_R0 (r := (.iload_n 3, 1, 0, 0, 0)) rfl rfl
theorem s7_1 {d : Nat} {ls : mj_L} {st : List Value} {M : mj_H} : mj_Rn d mj_m7 1 ls st M = mj_Rn d mj_m7 2 ls (.int 1 :: st) M := mj_R0 (r := (.iconst 1, 1, 0, 0, 0)) rfl rfl
theorem s7_2 {d : Nat} {ls : mj_L} {st : List Value} {M : mj_H} : mj_Rn d mj_m7 2 ls st M = mj_Rn d mj_m7 4 ls (.int 8 :: st) M := mj_R0 (r := (.bipush 8, 2, 0, 0, 0)) rfl rfl
theorem s7_4 {d : Nat} {ls : mj_L} {st : List Value} {M : mj_H} : mj_Rn (d + 1) mj_m7 4 ls st M = mq_k5a (d + 1) mj_m7 7 ls M 8 (mq_cb 2 3 10 st M) := mj_R5e (r := (.invokestatic 61, 3, 2, 8, 4275)) (z := mj_m8) rfl rfl (by decide) (by decide) rfl
theorem s7_7 {d : Nat} {ls : mj_L} {st : List Value} {M : mj_H} : mj_Rn d mj_m7 7 ls st M = mq_k2 d mj_m7 ls M (mj_br (.ifCond .eq 18) 7 st) := mj_R2 (r := (.ifCond .eq 18, 3, 0, 0, 0)) rfl rfl
theorem s7_10 {d : Nat} {ls : mj_L} {st : List Value} {M : mj_H} : mj_Rn d mj_m7 10 ls st M = mq_k0 d mj_m7 11 ls M (mj_lda (mj_lk ls 0) st) := mj_R0 (r := (.aload_n 0, 1, 0, 0, 0)) rfl rfl
theorem s7_11 {d : Nat} {ls : mj_L} {st : List Value} {M : mj_H} : mj_Rn d mj_m7 11 ls st M = mq_k0 d mj_m7 14 ls M (mq_gf 10 0 st M) := (mj_R3 (r := (.getfield 14, 3, 10, 0, 8486)) rfl rfl).trans (congrArg (mq_k0 d mj_m7 14 ls M) mq_gf_eq)
theorem s7_14 {d : Nat} {ls : mj_L} {st : List Value} {M : mj_H} : mj_Rn (d + 1) mj_m7 14 ls st M = mq_k5a (d + 1) mj_m7 17 ls M 9 (mq_cb 0 0 1 st M) := mj_R5e (r := (.invokevirtual 65, 3, 0, 9, 4278)) (z := mj_m9) rfl rfl (by decide) (by decide) rfl
theorem s7_17 {d : Nat} {ls : mj_L} {st : List Value} {M : mj_H} : mj_Rn d mj_m7 17 ls st M = mq_k0 d mj_m7 18 ls M (mj_ldi (mj_lk ls 3) st) := mj_R0 (r := (.iload_n 3, 1, 0, 0, 0)) rfl rfl
theorem s7_18 {d : Nat} {ls : mj_L} {st : List Value} {M : mj_H} : mj_Rn d mj_m7 18 ls st M = mq_k0 d mj_m7 19 ls M (mj_pu .iadd ls st) := mj_R0 (r := (.iadd, 1, 0, 0, 0)) rfl rfl
theorem s7_19 {d : Nat} {ls : mj_L} {st : List Value} {M : mj_H} : mj_Rn d mj_m7 19 ls st M = mj_Rn d mj_m7 22 ls (.int 400 :: st) M := mj_R0 (r := (.sipush 400, 3, 0, 0, 0)) rfl rfl
theorem s7_22 {d : Nat} {ls : mj_L} {st : List Value} {M : mj_H} : mj_Rn d mj_m7 22 ls st M = mq_k2 d mj_m7 ls M (mj_br (.if_icmp .le 5) 22 st) := mj_R2 (r := (.if_icmp .le 5, 3, 0, 0, 0)) rfl rfl
theorem s7_25 {d : Nat} {ls : mj_L} {st : List Value} {M : mj_H} : mj_Rn d mj_m7 25 ls st M = mj_Rn d mj_m7 26 ls (.int (-1) :: st) M := mj_R0 (r := (.iconst (-1), 1, 0, 0, 0)) rfl rfl
theorem s7_26 {d : Nat} {ls : mj_L} {st : List Value} {M : mj_H} : mj_Rn d mj_m7 26 ls st M = mq_k6 M (mj_re (some .int) (.ireturn) st) := mj_R6 (r := (.ireturn, 1, 0, 0, 0)) rfl rfl
theorem s7_27 {d : Nat} {ls : mj_L} {st : List Value} {M : mj_H} : mj_Rn d mj_m7 27 ls st M = mq_k0 d mj_m7 28 ls M (mj_lda (mj_lk ls 0) st) := mj_R0 (r := (.aload_n 0, 1, 0, 0, 0)) rfl rfl
theorem s7_28 {d : Nat} {ls : mj_L} {st : List Value} {M : mj_H} : mj_Rn d mj_m7 28 ls st M = mq_k0 d mj_m7 31 ls M (mq_gf 10 0 st M) := (mj_R3 (r := (.getfield 14, 3, 10, 0, 8486)) rfl rfl).trans (congrArg (mq_k0 d mj_m7 31 ls M) mq_gf_eq)
theorem s7_31 {d : Nat} {ls : mj_L} {st : List Value} {M : mj_H} : mj_Rn d mj_m7 31 ls st M = mq_k0 d mj_m7 32 ls M (mj_ldl (mj_lk ls 1) st) := mj_R0 (r := (.lload_n 1, 1, 0, 0, 0)) rfl rfl
theorem s7_32 {d : Nat} {ls : mj_L} {st : List Value} {M : mj_H} : mj_Rn d mj_m7 32 ls st M = mq_k0 d mj_m7 33 ls M (mj_ldi (mj_lk ls 3) st) := mj_R0 (r := (.iload_n 3, 1, 0, 0, 0)) rfl rfl
theorem s7_33 {d : Nat} {ls : mj_L} {st : List Value} {M : mj_H} : mj_Rn (d + 1) mj_m7 33 ls st M = mq_k5a (d + 1) mj_m7 36 ls M 10 (mq_cb 0 2 1 st M) := mj_R5e (r := (.invokevirtual 69, 3, 0, 10, 4282)) (z := mj_m10) rfl rfl (by decide) (by decide) rfl
theorem s7_36 {d : Nat} {ls : mj_L} {st : List Value} {M : mj_H} : mj_Rn d mj_m7 36 ls st M = mq_k0 d mj_m7 37 ls M (mj_lda (mj_lk ls 0) st) := mj_R0 (r := (.aload_n 0, 1, 0, 0, 0)) rfl rfl
theorem s7_37 {d : Nat} {ls : mj_L} {st : List Value} {M : mj_H} : mj_Rn d mj_m7 37 ls st M = mq_k0 d mj_m7 40 ls M (mq_gf 10 0 st M) := (mj_R3 (r := (.getfield 14, 3, 10, 0, 8486)) rfl rfl).trans (congrArg (mq_k0 d mj_m7 40 ls M) mq_gf_eq)
theorem s7_40 {d : Nat} {ls : mj_L} {st : List Value} {M : mj_H} : mj_Rn (d + 1) mj_m7 40 ls st M = mq_k5a (d + 1) mj_m7 43 ls M 9 (mq_cb 0 0 1 st M) := mj_R5e (r := (.invokevirtual 65, 3, 0, 9, 4278)) (z := mj_m9) rfl rfl (by decide) (by decide) rfl
theorem s7_43 {d : Nat} {ls : mj_L} {st : List Value} {M : mj_H} : mj_Rn d mj_m7 43 ls st M = mq_k6 M (mj_re (some .int) (.ireturn) st) := mj_R6 (r := (.ireturn, 1, 0, 0, 0)) rfl rfl
/- 8 PasskeyHouse.isWithin(III)Z -/
theorem s8_0 {d : Nat} {ls : mj_L} {st : List Value} {M : mj_H} : mj_Rn d mj_m8 0 ls st M = mq_k0 d mj_m8 1 ls M (mj_ldi (mj_lk ls 0) st) := mj_R0 (r := (.iload_n 0, 1, 0, 0, 0)) rfl rfl
theorem s8_1 {d : Nat} {ls : mj_L} {st : List Value} {M : mj_H} : mj_Rn d mj_m8 1 ls st M = mq_k0 d mj_m8 2 ls M (mj_ldi (mj_lk ls 1) st) := mj_R0 (r := (.iload_n 1, 1, 0, 0, 0)) rfl rfl
theorem s8_2 {d : Nat} {ls : mj_L} {st : List Value} {M : mj_H} : mj_Rn d mj_m8 2 ls st M = mq_k2 d mj_m8 ls M (mj_br (.if_icmp .lt 12) 2 st) := mj_R2 (r := (.if_icmp .lt 12, 3, 0, 0, 0)) rfl rfl
theorem s8_5 {d : Nat} {ls : mj_L} {st : List Value} {M : mj_H} : mj_Rn d mj_m8 5 ls st M = mq_k0 d mj_m8 6 ls M (mj_ldi (mj_lk ls 0) st) := mj_R0 (r := (.iload_n 0, 1, 0, 0, 0)) rfl rfl
theorem s8_6 {d : Nat} {ls : mj_L} {st : List Value} {M : mj_H} : mj_Rn d mj_m8 6 ls st M = mq_k0 d mj_m8 7 ls M (mj_ldi (mj_lk ls 2) st) := mj_R0 (r := (.iload_n 2, 1, 0, 0, 0)) rfl rfl
theorem s8_7 {d : Nat} {ls : mj_L} {st : List Value} {M : mj_H} : mj_Rn d mj_m8 7 ls st M = mq_k2 d mj_m8 ls M (mj_br (.if_icmp .gt 7) 7 st) := mj_R2 (r := (.if_icmp .gt 7, 3, 0, 0, 0)) rfl rfl
theorem s8_10 {d : Nat} {ls : mj_L} {st : List Value} {M : mj_H} : mj_Rn d mj_m8 10 ls st M = mj_Rn d mj_m8 11 ls (.int 1 :: st) M := mj_R0 (r := (.iconst 1, 1, 0, 0, 0)) rfl rfl
theorem s8_11 {d : Nat} {ls : mj_L} {st : List Value} {M : mj_H} : mj_Rn d mj_m8 11 ls st M = mj_Rn d mj_m8 15 ls st M := mj_R2 (r := (.goto 4, 3, 0, 0, 0)) rfl rfl
theorem s8_14 {d : Nat} {ls : mj_L} {st : List Value} {M : mj_H} : mj_Rn d mj_m8 14 ls st M = mj_Rn d mj_m8 15 ls (.int 0 :: st) M := mj_R0 (r := (.iconst 0, 1, 0, 0, 0)) rfl rfl
theorem s8_15 {d : Nat} {ls : mj_L} {st : List Value} {M : mj_H} : mj_Rn d mj_m8 15 ls st M = mq_k6 M (mj_re (some .boolean) (.ireturn) st) := mj_R6 (r := (.ireturn, 1, 0, 0, 0)) rfl rfl
/- 11 PasskeyHouse.wipe()I -/
theorem s11_0 {d : Nat} {ls : mj_L} {st : List Value} {M : mj_H} : mj_Rn d mj_m11 0 ls st M = mq_k0 d mj_m11 1 ls M (mj_lda (mj_lk ls 0) st) := mj_R0 (r := (.aload_n 0, 1, 0, 0, 0)) rfl rfl
theorem s11_1 {d : Nat} {ls : mj_L} {st : List Value} {M : mj_H} : mj_Rn d mj_m11 1 ls st M = mq_k0 d mj_m11 4 ls M (mq_gf 10 0 st M) := (mj_R3 (r := (.getfield 14, 3, 10, 0, 8486)) rfl rfl).trans (congrArg (mq_k0 d mj_m11 4 ls M) mq_gf_eq)
theorem s11_4 {d : Nat} {ls : mj_L} {st : List Value} {M : mj_H} : mj_Rn (d + 1) mj_m11 4 ls st M = mq_k5a (d + 1) mj_m11 7 ls M 9 (mq_cb 0 0 1 st M) := mj_R5e (r := (.invokevirtual 65, 3, 0, 9, 4278)) (z := mj_m9) rfl rfl (by decide) (by decide) rfl
theorem s11_7 {d : Nat} {ls : mj_L} {st : List Value} {M : mj_H} : mj_Rn d mj_m11 7 ls st M = mq_k1 d mj_m11 8 M (mj_lo 2 (.istore 1) ls st) := (mj_R1 (r := (.istore_n 1, 1, 0, 0, 0)) rfl rfl).trans (congrArg (mq_k1 d mj_m11 8 M) (mq_sti (k := 1)))
theorem s11_8 {d : Nat} {ls : mj_L} {st : List Value} {M : mj_H} : mj_Rn d mj_m11 8 ls st M = mq_k0 d mj_m11 9 ls M (mj_lda (mj_lk ls 0) st) := mj_R0 (r := (.aload_n 0, 1, 0, 0, 0)) rfl rfl
theorem s11_9 {d : Nat} {ls : mj_L} {st : List Value} {M : mj_H} : mj_Rn d mj_m11 9 ls st M = mq_k0 d mj_m11 12 ls M (mq_gf 10 0 st M) := (mj_R3 (r := (.getfield 14, 3, 10, 0, 8486)) rfl rfl).trans (congrArg (mq_k0 d mj_m11 12 ls M) mq_gf_eq)
theorem s11_12 {d : Nat} {ls : mj_L} {st : List Value} {M : mj_H} : mj_Rn (d + 1) mj_m11 12 ls st M = mq_k5a (d + 1) mj_m11 15 ls M 12 (mq_cb 0 0 1 st M) := mj_R5e (r := (.invokevirtual 73, 3, 0, 12, 4290)) (z := mj_m12) rfl rfl (by decide) (by decide) rfl
theorem s11_15 {d : Nat} {ls : mj_L} {st : List Value} {M : mj_H} : mj_Rn d mj_m11 15 ls st M = mq_k0 d mj_m11 16 ls M (mj_ldi (mj_lk ls 1) st) := mj_R0 (r := (.iload_n 1, 1, 0, 0, 0)) rfl rfl
theorem s11_16 {d : Nat} {ls : mj_L} {st : List Value} {M : mj_H} : mj_Rn d mj_m11 16 ls st M = mq_k6 M (mj_re (some .int) (.ireturn) st) := mj_R6 (r := (.ireturn, 1, 0, 0, 0)) rfl rfl
/- 13 PasskeyHouse.at(I)I -/
theorem s13_0 {d : Nat} {ls : mj_L} {st : List Value} {M : mj_H} : mj_Rn d mj_m13 0 ls st M = mq_k0 d mj_m13 1 ls M (mj_lda (mj_lk ls 0) st) := mj_R0 (r := (.aload_n 0, 1, 0, 0, 0)) rfl rfl
theorem s13_1 {d : Nat} {ls : mj_L} {st : List Value} {M : mj_H} : mj_Rn d mj_m13 1 ls st M = mq_k0 d mj_m13 4 ls M (mq_gf 10 0 st M) := (mj_R3 (r := (.getfield 14, 3, 10, 0, 8486)) rfl rfl).trans (congrArg (mq_k0 d mj_m13 4 ls M) mq_gf_eq)
theorem s13_4 {d : Nat} {ls : mj_L} {st : List Value} {M : mj_H} : mj_Rn d mj_m13 4 ls st M = mq_k0 d mj_m13 5 ls M (mj_ldi (mj_lk ls 1) st) := mj_R0 (r := (.iload_n 1, 1, 0, 0, 0)) rfl rfl
theorem s13_5 {d : Nat} {ls : mj_L} {st : List Value} {M : mj_H} : mj_Rn (d + 1) mj_m13 5 ls st M = mq_k5a (d + 1) mj_m13 8 ls M 14 (mq_cb 0 1 1 st M) := mj_R5e (r := (.invokevirtual 76, 3, 0, 14, 4298)) (z := mj_m14) rfl rfl (by decide) (by decide) rfl
theorem s13_8 {d : Nat} {ls : mj_L} {st : List Value} {M : mj_H} : mj_Rn d mj_m13 8 ls st M = mq_k6 M (mj_re (some .int) (.ireturn) st) := mj_R6 (r := (.ireturn, 1, 0, 0, 0)) rfl rfl
/- 15 PasskeyHouse.poke(II)I -/
theorem s15_0 {d : Nat} {ls : mj_L} {st : List Value} {M : mj_H} : mj_Rn d mj_m15 0 ls st M = mq_k0 d mj_m15 1 ls M (mj_lda (mj_lk ls 0) st) := mj_R0 (r := (.aload_n 0, 1, 0, 0, 0)) rfl rfl
theorem s15_1 {d : Nat} {ls : mj_L} {st : List Value} {M : mj_H} : mj_Rn d mj_m15 1 ls st M = mq_k0 d mj_m15 4 ls M (mq_gf 10 0 st M) := (mj_R3 (r := (.getfield 14, 3, 10, 0, 8486)) rfl rfl).trans (congrArg (mq_k0 d mj_m15 4 ls M) mq_gf_eq)
theorem s15_4 {d : Nat} {ls : mj_L} {st : List Value} {M : mj_H} : mj_Rn d mj_m15 4 ls st M = mq_k0 d mj_m15 5 ls M (mj_ldi (mj_lk ls 1) st) := mj_R0 (r := (.iload_n 1, 1, 0, 0, 0)) rfl rfl
theorem s15_5 {d : Nat} {ls : mj_L} {st : List Value} {M : mj_H} : mj_Rn (d + 1) mj_m15 5 ls st M = mq_k5a (d + 1) mj_m15 8 ls M 14 (mq_cb 0 1 1 st M) := mj_R5e (r := (.invokevirtual 76, 3, 0, 14, 4298)) (z := mj_m14) rfl rfl (by decide) (by decide) rfl
theorem s15_8 {d : Nat} {ls : mj_L} {st : List Value} {M : mj_H} : mj_Rn d mj_m15 8 ls st M = mq_k1 d mj_m15 9 M (mj_lo 4 (.istore 3) ls st) := (mj_R1 (r := (.istore_n 3, 1, 0, 0, 0)) rfl rfl).trans (congrArg (mq_k1 d mj_m15 9 M) (mq_sti (k := 3)))
theorem s15_9 {d : Nat} {ls : mj_L} {st : List Value} {M : mj_H} : mj_Rn d mj_m15 9 ls st M = mq_k0 d mj_m15 10 ls M (mj_ldi (mj_lk ls 3) st) := mj_R0 (r := (.iload_n 3, 1, 0, 0, 0)) rfl rfl
theorem s15_10 {d : Nat} {ls : mj_L} {st : List Value} {M : mj_H} : mj_Rn d mj_m15 10 ls st M = mj_Rn d mj_m15 11 ls (.int (-1) :: st) M := mj_R0 (r := (.iconst (-1), 1, 0, 0, 0)) rfl rfl
theorem s15_11 {d : Nat} {ls : mj_L} {st : List Value} {M : mj_H} : mj_Rn d mj_m15 11 ls st M = mq_k2 d mj_m15 ls M (mj_br (.if_icmp .eq 14) 11 st) := mj_R2 (r := (.if_icmp .eq 14, 3, 0, 0, 0)) rfl rfl
theorem s15_14 {d : Nat} {ls : mj_L} {st : List Value} {M : mj_H} : mj_Rn d mj_m15 14 ls st M = mq_k0 d mj_m15 15 ls M (mj_ldi (mj_lk ls 2) st) := mj_R0 (r := (.iload_n 2, 1, 0, 0, 0)) rfl rfl
theorem s15_15 {d : Nat} {ls : mj_L} {st : List Value} {M : mj_H} : mj_Rn d mj_m15 15 ls st M = mj_Rn d mj_m15 16 ls (.int 0 :: st) M := mj_R0 (r := (.iconst 0, 1, 0, 0, 0)) rfl rfl
theorem s15_16 {d : Nat} {ls : mj_L} {st : List Value} {M : mj_H} : mj_Rn d mj_m15 16 ls st M = mj_Rn d mj_m15 19 ls (.int 255 :: st) M := mj_R0 (r := (.sipush 255, 3, 0, 0, 0)) rfl rfl
theorem s15_19 {d : Nat} {ls : mj_L} {st : List Value} {M : mj_H} : mj_Rn (d + 1) mj_m15 19 ls st M = mq_k5a (d + 1) mj_m15 22 ls M 8 (mq_cb 2 3 10 st M) := mj_R5e (r := (.invokestatic 61, 3, 2, 8, 4275)) (z := mj_m8) rfl rfl (by decide) (by decide) rfl
theorem s15_22 {d : Nat} {ls : mj_L} {st : List Value} {M : mj_H} : mj_Rn d mj_m15 22 ls st M = mq_k2 d mj_m15 ls M (mj_br (.ifCond .ne 5) 22 st) := mj_R2 (r := (.ifCond .ne 5, 3, 0, 0, 0)) rfl rfl
theorem s15_25 {d : Nat} {ls : mj_L} {st : List Value} {M : mj_H} : mj_Rn d mj_m15 25 ls st M = mj_Rn d mj_m15 26 ls (.int (-1) :: st) M := mj_R0 (r := (.iconst (-1), 1, 0, 0, 0)) rfl rfl
theorem s15_26 {d : Nat} {ls : mj_L} {st : List Value} {M : mj_H} : mj_Rn d mj_m15 26 ls st M = mq_k6 M (mj_re (some .int) (.ireturn) st) := mj_R6 (r := (.ireturn, 1, 0, 0, 0)) rfl rfl
theorem s15_27 {d : Nat} {ls : mj_L} {st : List Value} {M : mj_H} : mj_Rn d mj_m15 27 ls st M = mq_k0 d mj_m15 28 ls M (mj_lda (mj_lk ls 0) st) := mj_R0 (r := (.aload_n 0, 1, 0, 0, 0)) rfl rfl
theorem s15_28 {d : Nat} {ls : mj_L} {st : List Value} {M : mj_H} : mj_Rn d mj_m15 28 ls st M = mq_k0 d mj_m15 31 ls M (mq_gf 10 0 st M) := (mj_R3 (r := (.getfield 14, 3, 10, 0, 8486)) rfl rfl).trans (congrArg (mq_k0 d mj_m15 31 ls M) mq_gf_eq)
theorem s15_31 {d : Nat} {ls : mj_L} {st : List Value} {M : mj_H} : mj_Rn d mj_m15 31 ls st M = mq_k0 d mj_m15 32 ls M (mj_ldi (mj_lk ls 1) st) := mj_R0 (r := (.iload_n 1, 1, 0, 0, 0)) rfl rfl
theorem s15_32 {d : Nat} {ls : mj_L} {st : List Value} {M : mj_H} : mj_Rn d mj_m15 32 ls st M = mq_k0 d mj_m15 33 ls M (mj_ldi (mj_lk ls 2) st) := mj_R0 (r := (.iload_n 2, 1, 0, 0, 0)) rfl rfl
theorem s15_33 {d : Nat} {ls : mj_L} {st : List Value} {M : mj_H} : mj_Rn (d + 1) mj_m15 33 ls st M = mq_k5a (d + 1) mj_m15 36 ls M 16 (mq_cb 0 2 1 st M) := mj_R5e (r := (.invokevirtual 80, 3, 0, 16, 4306)) (z := mj_m16) rfl rfl (by decide) (by decide) rfl
theorem s15_36 {d : Nat} {ls : mj_L} {st : List Value} {M : mj_H} : mj_Rn d mj_m15 36 ls st M = mq_k0 d mj_m15 37 ls M (mj_ldi (mj_lk ls 3) st) := mj_R0 (r := (.iload_n 3, 1, 0, 0, 0)) rfl rfl
theorem s15_37 {d : Nat} {ls : mj_L} {st : List Value} {M : mj_H} : mj_Rn d mj_m15 37 ls st M = mq_k6 M (mj_re (some .int) (.ireturn) st) := mj_R6 (r := (.ireturn, 1, 0, 0, 0)) rfl rfl
/- 17 PasskeyHouse.terms()I -/
theorem s17_0 {d : Nat} {ls : mj_L} {st : List Value} {M : mj_H} : mj_Rn d mj_m17 0 ls st M = mq_k0 d mj_m17 1 ls M (mj_lda (mj_lk ls 0) st) := mj_R0 (r := (.aload_n 0, 1, 0, 0, 0)) rfl rfl
theorem s17_1 {d : Nat} {ls : mj_L} {st : List Value} {M : mj_H} : mj_Rn d mj_m17 1 ls st M = mq_k0 d mj_m17 4 ls M (mq_gf 10 2 st M) := (mj_R3 (r := (.getfield 24, 3, 10, 2, 8490)) rfl rfl).trans (congrArg (mq_k0 d mj_m17 4 ls M) mq_gf_eq)
theorem s17_4 {d : Nat} {ls : mj_L} {st : List Value} {M : mj_H} : mj_Rn (d + 1) mj_m17 4 ls st M = mq_k5a (d + 1) mj_m17 7 ls M 18 (mq_cb 0 0 9 st M) := mj_R5e (r := (.invokevirtual 84, 3, 0, 18, 4314)) (z := mj_m18) rfl rfl (by decide) (by decide) rfl
theorem s17_7 {d : Nat} {ls : mj_L} {st : List Value} {M : mj_H} : mj_Rn d mj_m17 7 ls st M = mq_k6 M (mj_re (some .int) (.ireturn) st) := mj_R6 (r := (.ireturn, 1, 0, 0, 0)) rfl rfl
/- 19 PasskeyHouse.sort(I)I -/
theorem s19_0 {d : Nat} {ls : mj_L} {st : List Value} {M : mj_H} : mj_Rn d mj_m19 0 ls st M = mq_k0 d mj_m19 1 ls M (mj_lda (mj_lk ls 0) st) := mj_R0 (r := (.aload_n 0, 1, 0, 0, 0)) rfl rfl
theorem s19_1 {d : Nat} {ls : mj_L} {st : List Value} {M : mj_H} : mj_Rn d mj_m19 1 ls st M = mq_k0 d mj_m19 4 ls M (mq_gf 10 2 st M) := (mj_R3 (r := (.getfield 24, 3, 10, 2, 8490)) rfl rfl).trans (congrArg (mq_k0 d mj_m19 4 ls M) mq_gf_eq)
theorem s19_4 {d : Nat} {ls : mj_L} {st : List Value} {M : mj_H} : mj_Rn d mj_m19 4 ls st M = mq_k0 d mj_m19 5 ls M (mj_ldi (mj_lk ls 1) st) := mj_R0 (r := (.iload_n 1, 1, 0, 0, 0)) rfl rfl
theorem s19_5 {d : Nat} {ls : mj_L} {st : List Value} {M : mj_H} : mj_Rn d mj_m19 5 ls st M = mj_Rn d mj_m19 6 ls (.int 0 :: st) M := mj_R0 (r := (.iconst 0, 1, 0, 0, 0)) rfl rfl
theorem s19_6 {d : Nat} {ls : mj_L} {st : List Value} {M : mj_H} : mj_Rn (d + 1) mj_m19 6 ls st M = mq_k5a (d + 1) mj_m19 9 ls M 20 (mq_cb 0 2 9 st M) := mj_R5e (r := (.invokevirtual 87, 3, 0, 20, 4322)) (z := mj_m20) rfl rfl (by decide) (by decide) rfl
theorem s19_9 {d : Nat} {ls : mj_L} {st : List Value} {M : mj_H} : mj_Rn d mj_m19 9 ls st M = mq_k6 M (mj_re (some .int) (.ireturn) st) := mj_R6 (r := (.ireturn, 1, 0, 0, 0)) rfl rfl
/- 68 PasskeyHouse.keyAt(I)LPasskeyHouse$Key; -/
theorem s68_0 {d : Nat} {ls : mj_L} {st : List Value} {M : mj_H} : mj_Rn d mj_m68 0 ls st M = mq_k0 d mj_m68 1 ls M (mj_ldi (mj_lk ls 1) st) := mj_R0 (r := (.iload_n 1, 1, 0, 0, 0)) rfl rfl
theorem s68_1 {d : Nat} {ls : mj_L} {st : List Value} {M : mj_H} : mj_Rn d mj_m68 1 ls st M = mq_k2 d mj_m68 ls M (mj_br (.ifCond .lt 12) 1 st) := mj_R2 (r := (.ifCond .lt 12, 3, 0, 0, 0)) rfl rfl
theorem s68_4 {d : Nat} {ls : mj_L} {st : List Value} {M : mj_H} : mj_Rn d mj_m68 4 ls st M = mq_k0 d mj_m68 5 ls M (mj_ldi (mj_lk ls 1) st) := mj_R0 (r := (.iload_n 1, 1, 0, 0, 0)) rfl rfl
theorem s68_5 {d : Nat} {ls : mj_L} {st : List Value} {M : mj_H} : mj_Rn d mj_m68 5 ls st M = mq_k0 d mj_m68 6 ls M (mj_lda (mj_lk ls 0) st) := mj_R0 (r := (.aload_n 0, 1, 0, 0, 0)) rfl rfl
theorem s68_6 {d : Nat} {ls : mj_L} {st : List Value} {M : mj_H} : mj_Rn d mj_m68 6 ls st M = mq_k0 d mj_m68 9 ls M (mq_gf 10 4 st M) := (mj_R3 (r := (.getfield 37, 3, 10, 4, 8494)) rfl rfl).trans (congrArg (mq_k0 d mj_m68 9 ls M) mq_gf_eq)
theorem s68_9 {d : Nat} {ls : mj_L} {st : List Value} {M : mj_H} : mj_Rn d mj_m68 9 ls st M = mq_k0 d mj_m68 10 ls M (mq_len st M) := (mj_R3 (r := (.arraylength, 1, 0, 0, 0)) rfl rfl).trans (congrArg (mq_k0 d mj_m68 10 ls M) mq_len_eq)
theorem s68_10 {d : Nat} {ls : mj_L} {st : List Value} {M : mj_H} : mj_Rn d mj_m68 10 ls st M = mq_k2 d mj_m68 ls M (mj_br (.if_icmp .lt 7) 10 st) := mj_R2 (r := (.if_icmp .lt 7, 3, 0, 0, 0)) rfl rfl
theorem s68_13 {d : Nat} {ls : mj_L} {st : List Value} {M : mj_H} : mj_Rn d mj_m68 13 ls st M = mj_Rn d mj_m68 14 ls (.null :: st) M := mj_R0 (r := (.aconst_null, 1, 0, 0, 0)) rfl rfl
theorem s68_14 {d : Nat} {ls : mj_L} {st : List Value} {M : mj_H} : mj_Rn d mj_m68 14 ls st M = mj_Rn d mj_m68 23 ls st M := mj_R2 (r := (.goto 9, 3, 0, 0, 0)) rfl rfl
theorem s68_17 {d : Nat} {ls : mj_L} {st : List Value} {M : mj_H} : mj_Rn d mj_m68 17 ls st M = mq_k0 d mj_m68 18 ls M (mj_lda (mj_lk ls 0) st) := mj_R0 (r := (.aload_n 0, 1, 0, 0, 0)) rfl rfl
theorem s68_18 {d : Nat} {ls : mj_L} {st : List Value} {M : mj_H} : mj_Rn d mj_m68 18 ls st M = mq_k0 d mj_m68 21 ls M (mq_gf 10 4 st M) := (mj_R3 (r := (.getfield 37, 3, 10, 4, 8494)) rfl rfl).trans (congrArg (mq_k0 d mj_m68 21 ls M) mq_gf_eq)
theorem s68_21 {d : Nat} {ls : mj_L} {st : List Value} {M : mj_H} : mj_Rn d mj_m68 21 ls st M = mq_k0 d mj_m68 22 ls M (mj_ldi (mj_lk ls 1) st) := mj_R0 (r := (.iload_n 1, 1, 0, 0, 0)) rfl rfl
theorem s68_22 {d : Nat} {ls : mj_L} {st : List Value} {M : mj_H} : mj_Rn d mj_m68 22 ls st M = mq_k0 d mj_m68 23 ls M (mq_al [1004, 1005, 1006, 1007, 1008, 1009] st M) := (mj_R3 (r := (.aaload, 1, 0, 0, 0)) rfl rfl).trans (congrArg (mq_k0 d mj_m68 23 ls M) mq_ala_eq)
theorem s68_23 {d : Nat} {ls : mj_L} {st : List Value} {M : mj_H} : mj_Rn d mj_m68 23 ls st M = mq_k6 M (mj_re (some (.object "PasskeyHouse$Key")) (.areturn) st) := mj_R6 (r := (.areturn, 1, 0, 0, 0)) rfl rfl
/- 168 PasskeyHouse.handAt(I)LPasskeyHouse$Hand; -/
theorem s168_0 {d : Nat} {ls : mj_L} {st : List Value} {M : mj_H} : mj_Rn d mj_m168 0 ls st M = mq_k0 d mj_m168 1 ls M (mj_ldi (mj_lk ls 1) st) := mj_R0 (r := (.iload_n 1, 1, 0, 0, 0)) rfl rfl
theorem s168_1 {d : Nat} {ls : mj_L} {st : List Value} {M : mj_H} : mj_Rn d mj_m168 1 ls st M = mq_k2 d mj_m168 ls M (mj_br (.ifCond .lt 12) 1 st) := mj_R2 (r := (.ifCond .lt 12, 3, 0, 0, 0)) rfl rfl
theorem s168_4 {d : Nat} {ls : mj_L} {st : List Value} {M : mj_H} : mj_Rn d mj_m168 4 ls st M = mq_k0 d mj_m168 5 ls M (mj_ldi (mj_lk ls 1) st) := mj_R0 (r := (.iload_n 1, 1, 0, 0, 0)) rfl rfl
theorem s168_5 {d : Nat} {ls : mj_L} {st : List Value} {M : mj_H} : mj_Rn d mj_m168 5 ls st M = mq_k0 d mj_m168 6 ls M (mj_lda (mj_lk ls 0) st) := mj_R0 (r := (.aload_n 0, 1, 0, 0, 0)) rfl rfl
theorem s168_6 {d : Nat} {ls : mj_L} {st : List Value} {M : mj_H} : mj_Rn d mj_m168 6 ls st M = mq_k0 d mj_m168 9 ls M (mq_gf 10 5 st M) := (mj_R3 (r := (.getfield 43, 3, 10, 5, 8496)) rfl rfl).trans (congrArg (mq_k0 d mj_m168 9 ls M) mq_gf_eq)
theorem s168_9 {d : Nat} {ls : mj_L} {st : List Value} {M : mj_H} : mj_Rn d mj_m168 9 ls st M = mq_k0 d mj_m168 10 ls M (mq_len st M) := (mj_R3 (r := (.arraylength, 1, 0, 0, 0)) rfl rfl).trans (congrArg (mq_k0 d mj_m168 10 ls M) mq_len_eq)
theorem s168_10 {d : Nat} {ls : mj_L} {st : List Value} {M : mj_H} : mj_Rn d mj_m168 10 ls st M = mq_k2 d mj_m168 ls M (mj_br (.if_icmp .lt 7) 10 st) := mj_R2 (r := (.if_icmp .lt 7, 3, 0, 0, 0)) rfl rfl
theorem s168_13 {d : Nat} {ls : mj_L} {st : List Value} {M : mj_H} : mj_Rn d mj_m168 13 ls st M = mj_Rn d mj_m168 14 ls (.null :: st) M := mj_R0 (r := (.aconst_null, 1, 0, 0, 0)) rfl rfl
theorem s168_14 {d : Nat} {ls : mj_L} {st : List Value} {M : mj_H} : mj_Rn d mj_m168 14 ls st M = mj_Rn d mj_m168 23 ls st M := mj_R2 (r := (.goto 9, 3, 0, 0, 0)) rfl rfl
theorem s168_17 {d : Nat} {ls : mj_L} {st : List Value} {M : mj_H} : mj_Rn d mj_m168 17 ls st M = mq_k0 d mj_m168 18 ls M (mj_lda (mj_lk ls 0) st) := mj_R0 (r := (.aload_n 0, 1, 0, 0, 0)) rfl rfl
theorem s168_18 {d : Nat} {ls : mj_L} {st : List Value} {M : mj_H} : mj_Rn d mj_m168 18 ls st M = mq_k0 d mj_m168 21 ls M (mq_gf 10 5 st M) := (mj_R3 (r := (.getfield 43, 3, 10, 5, 8496)) rfl rfl).trans (congrArg (mq_k0 d mj_m168 21 ls M) mq_gf_eq)
theorem s168_21 {d : Nat} {ls : mj_L} {st : List Value} {M : mj_H} : mj_Rn d mj_m168 21 ls st M = mq_k0 d mj_m168 22 ls M (mj_ldi (mj_lk ls 1) st) := mj_R0 (r := (.iload_n 1, 1, 0, 0, 0)) rfl rfl
theorem s168_22 {d : Nat} {ls : mj_L} {st : List Value} {M : mj_H} : mj_Rn d mj_m168 22 ls st M = mq_k0 d mj_m168 23 ls M (mq_al [1004, 1005, 1006, 1007, 1008, 1009] st M) := (mj_R3 (r := (.aaload, 1, 0, 0, 0)) rfl rfl).trans (congrArg (mq_k0 d mj_m168 23 ls M) mq_ala_eq)
theorem s168_23 {d : Nat} {ls : mj_L} {st : List Value} {M : mj_H} : mj_Rn d mj_m168 23 ls st M = mq_k6 M (mj_re (some (.object "PasskeyHouse$Hand")) (.areturn) st) := mj_R6 (r := (.areturn, 1, 0, 0, 0)) rfl rfl
/- 191 PasskeyHouse.partyAt(I)LPasskeyHouse$Party; -/
theorem s191_0 {d : Nat} {ls : mj_L} {st : List Value} {M : mj_H} : mj_Rn d mj_m191 0 ls st M = mq_k0 d mj_m191 1 ls M (mj_ldi (mj_lk ls 1) st) := mj_R0 (r := (.iload_n 1, 1, 0, 0, 0)) rfl rfl
theorem s191_1 {d : Nat} {ls : mj_L} {st : List Value} {M : mj_H} : mj_Rn d mj_m191 1 ls st M = mq_k2 d mj_m191 ls M (mj_br (.ifCond .lt 12) 1 st) := mj_R2 (r := (.ifCond .lt 12, 3, 0, 0, 0)) rfl rfl
theorem s191_4 {d : Nat} {ls : mj_L} {st : List Value} {M : mj_H} : mj_Rn d mj_m191 4 ls st M = mq_k0 d mj_m191 5 ls M (mj_ldi (mj_lk ls 1) st) := mj_R0 (r := (.iload_n 1, 1, 0, 0, 0)) rfl rfl
theorem s191_5 {d : Nat} {ls : mj_L} {st : List Value} {M : mj_H} : mj_Rn d mj_m191 5 ls st M = mq_k0 d mj_m191 6 ls M (mj_lda (mj_lk ls 0) st) := mj_R0 (r := (.aload_n 0, 1, 0, 0, 0)) rfl rfl
theorem s191_6 {d : Nat} {ls : mj_L} {st : List Value} {M : mj_H} : mj_Rn d mj_m191 6 ls st M = mq_k0 d mj_m191 9 ls M (mq_gf 10 6 st M) := (mj_R3 (r := (.getfield 50, 3, 10, 6, 8498)) rfl rfl).trans (congrArg (mq_k0 d mj_m191 9 ls M) mq_gf_eq)
theorem s191_9 {d : Nat} {ls : mj_L} {st : List Value} {M : mj_H} : mj_Rn d mj_m191 9 ls st M = mq_k0 d mj_m191 10 ls M (mq_len st M) := (mj_R3 (r := (.arraylength, 1, 0, 0, 0)) rfl rfl).trans (congrArg (mq_k0 d mj_m191 10 ls M) mq_len_eq)
theorem s191_10 {d : Nat} {ls : mj_L} {st : List Value} {M : mj_H} : mj_Rn d mj_m191 10 ls st M = mq_k2 d mj_m191 ls M (mj_br (.if_icmp .lt 7) 10 st) := mj_R2 (r := (.if_icmp .lt 7, 3, 0, 0, 0)) rfl rfl
theorem s191_13 {d : Nat} {ls : mj_L} {st : List Value} {M : mj_H} : mj_Rn d mj_m191 13 ls st M = mj_Rn d mj_m191 14 ls (.null :: st) M := mj_R0 (r := (.aconst_null, 1, 0, 0, 0)) rfl rfl
theorem s191_14 {d : Nat} {ls : mj_L} {st : List Value} {M : mj_H} : mj_Rn d mj_m191 14 ls st M = mj_Rn d mj_m191 23 ls st M := mj_R2 (r := (.goto 9, 3, 0, 0, 0)) rfl rfl
theorem s191_17 {d : Nat} {ls : mj_L} {st : List Value} {M : mj_H} : mj_Rn d mj_m191 17 ls st M = mq_k0 d mj_m191 18 ls M (mj_lda (mj_lk ls 0) st) := mj_R0 (r := (.aload_n 0, 1, 0, 0, 0)) rfl rfl
theorem s191_18 {d : Nat} {ls : mj_L} {st : List Value} {M : mj_H} : mj_Rn d mj_m191 18 ls st M = mq_k0 d mj_m191 21 ls M (mq_gf 10 6 st M) := (mj_R3 (r := (.getfield 50, 3, 10, 6, 8498)) rfl rfl).trans (congrArg (mq_k0 d mj_m191 21 ls M) mq_gf_eq)
theorem s191_21 {d : Nat} {ls : mj_L} {st : List Value} {M : mj_H} : mj_Rn d mj_m191 21 ls st M = mq_k0 d mj_m191 22 ls M (mj_ldi (mj_lk ls 1) st) := mj_R0 (r := (.iload_n 1, 1, 0, 0, 0)) rfl rfl
theorem s191_22 {d : Nat} {ls : mj_L} {st : List Value} {M : mj_H} : mj_Rn d mj_m191 22 ls st M = mq_k0 d mj_m191 23 ls M (mq_al [1004, 1005, 1006, 1007, 1008, 1009] st M) := (mj_R3 (r := (.aaload, 1, 0, 0, 0)) rfl rfl).trans (congrArg (mq_k0 d mj_m191 23 ls M) mq_ala_eq)
theorem s191_23 {d : Nat} {ls : mj_L} {st : List Value} {M : mj_H} : mj_Rn d mj_m191 23 ls st M = mq_k6 M (mj_re (some (.object "PasskeyHouse$Party")) (.areturn) st) := mj_R6 (r := (.areturn, 1, 0, 0, 0)) rfl rfl
/- 76 PasskeyHouse.tapePart(I)I -/
theorem s76_0 {d : Nat} {ls : mj_L} {st : List Value} {M : mj_H} : mj_Rn d mj_m76 0 ls st M = mq_k0 d mj_m76 1 ls M (mj_ldi (mj_lk ls 1) st) := mj_R0 (r := (.iload_n 1, 1, 0, 0, 0)) rfl rfl
theorem s76_1 {d : Nat} {ls : mj_L} {st : List Value} {M : mj_H} : mj_Rn d mj_m76 1 ls st M = mj_Rn d mj_m76 2 ls (.int (-1) :: st) M := mj_R0 (r := (.iconst (-1), 1, 0, 0, 0)) rfl rfl
theorem s76_2 {d : Nat} {ls : mj_L} {st : List Value} {M : mj_H} : mj_Rn d mj_m76 2 ls st M = mq_k2 d mj_m76 ls M (mj_br (.if_icmp .ne 11) 2 st) := mj_R2 (r := (.if_icmp .ne 11, 3, 0, 0, 0)) rfl rfl
theorem s76_5 {d : Nat} {ls : mj_L} {st : List Value} {M : mj_H} : mj_Rn d mj_m76 5 ls st M = mq_k0 d mj_m76 6 ls M (mj_lda (mj_lk ls 0) st) := mj_R0 (r := (.aload_n 0, 1, 0, 0, 0)) rfl rfl
theorem s76_6 {d : Nat} {ls : mj_L} {st : List Value} {M : mj_H} : mj_Rn d mj_m76 6 ls st M = mq_k0 d mj_m76 9 ls M (mq_gf 10 0 st M) := (mj_R3 (r := (.getfield 14, 3, 10, 0, 8486)) rfl rfl).trans (congrArg (mq_k0 d mj_m76 9 ls M) mq_gf_eq)
theorem s76_9 {d : Nat} {ls : mj_L} {st : List Value} {M : mj_H} : mj_Rn (d + 1) mj_m76 9 ls st M = mq_k5a (d + 1) mj_m76 12 ls M 9 (mq_cb 0 0 1 st M) := mj_R5e (r := (.invokevirtual 65, 3, 0, 9, 4278)) (z := mj_m9) rfl rfl (by decide) (by decide) rfl
theorem s76_12 {d : Nat} {ls : mj_L} {st : List Value} {M : mj_H} : mj_Rn d mj_m76 12 ls st M = mq_k6 M (mj_re (some .int) (.ireturn) st) := mj_R6 (r := (.ireturn, 1, 0, 0, 0)) rfl rfl
theorem s76_13 {d : Nat} {ls : mj_L} {st : List Value} {M : mj_H} : mj_Rn d mj_m76 13 ls st M = mq_k0 d mj_m76 14 ls M (mj_ldi (mj_lk ls 1) st) := mj_R0 (r := (.iload_n 1, 1, 0, 0, 0)) rfl rfl
theorem s76_14 {d : Nat} {ls : mj_L} {st : List Value} {M : mj_H} : mj_Rn d mj_m76 14 ls st M = mq_k2 d mj_m76 ls M (mj_br (.ifCond .lt 14) 14 st) := mj_R2 (r := (.ifCond .lt 14, 3, 0, 0, 0)) rfl rfl
theorem s76_17 {d : Nat} {ls : mj_L} {st : List Value} {M : mj_H} : mj_Rn d mj_m76 17 ls st M = mq_k0 d mj_m76 18 ls M (mj_ldi (mj_lk ls 1) st) := mj_R0 (r := (.iload_n 1, 1, 0, 0, 0)) rfl rfl
theorem s76_18 {d : Nat} {ls : mj_L} {st : List Value} {M : mj_H} : mj_Rn d mj_m76 18 ls st M = mq_k0 d mj_m76 19 ls M (mj_lda (mj_lk ls 0) st) := mj_R0 (r := (.aload_n 0, 1, 0, 0, 0)) rfl rfl
theorem s76_19 {d : Nat} {ls : mj_L} {st : List Value} {M : mj_H} : mj_Rn d mj_m76 19 ls st M = mq_k0 d mj_m76 22 ls M (mq_gf 10 0 st M) := (mj_R3 (r := (.getfield 14, 3, 10, 0, 8486)) rfl rfl).trans (congrArg (mq_k0 d mj_m76 22 ls M) mq_gf_eq)
theorem s76_22 {d : Nat} {ls : mj_L} {st : List Value} {M : mj_H} : mj_Rn (d + 1) mj_m76 22 ls st M = mq_k5a (d + 1) mj_m76 25 ls M 9 (mq_cb 0 0 1 st M) := mj_R5e (r := (.invokevirtual 65, 3, 0, 9, 4278)) (z := mj_m9) rfl rfl (by decide) (by decide) rfl
theorem s76_25 {d : Nat} {ls : mj_L} {st : List Value} {M : mj_H} : mj_Rn d mj_m76 25 ls st M = mq_k2 d mj_m76 ls M (mj_br (.if_icmp .le 7) 25 st) := mj_R2 (r := (.if_icmp .le 7, 3, 0, 0, 0)) rfl rfl
theorem s76_28 {d : Nat} {ls : mj_L} {st : List Value} {M : mj_H} : mj_Rn d mj_m76 28 ls st M = mj_Rn d mj_m76 29 ls (.int (-1) :: st) M := mj_R0 (r := (.iconst (-1), 1, 0, 0, 0)) rfl rfl
theorem s76_29 {d : Nat} {ls : mj_L} {st : List Value} {M : mj_H} : mj_Rn d mj_m76 29 ls st M = mj_Rn d mj_m76 33 ls st M := mj_R2 (r := (.goto 4, 3, 0, 0, 0)) rfl rfl
theorem s76_32 {d : Nat} {ls : mj_L} {st : List Value} {M : mj_H} : mj_Rn d mj_m76 32 ls st M = mq_k0 d mj_m76 33 ls M (mj_ldi (mj_lk ls 1) st) := mj_R0 (r := (.iload_n 1, 1, 0, 0, 0)) rfl rfl
theorem s76_33 {d : Nat} {ls : mj_L} {st : List Value} {M : mj_H} : mj_Rn d mj_m76 33 ls st M = mq_k6 M (mj_re (some .int) (.ireturn) st) := mj_R6 (r := (.ireturn, 1, 0, 0, 0)) rfl rfl
theorem c7 {d : Nat} {a0 : Nat} {x1 : Int64} {x2 : Int32} {M : mj_H} : mj_V (d + 1) 7 [.ref a0, .long x1, .int x2] M = mj_Rn d mj_m7 0 [(0, .ref a0), (1, .long x1), (3, .int x2)] [] M := mj_V_go rfl (Nat.le_of_ble_eq_true rfl)
theorem c8 {d : Nat} {x0 : Int32} {x1 : Int32} {x2 : Int32} {M : mj_H} : mj_V (d + 1) 8 [.int x0, .int x1, .int x2] M = mj_Rn d mj_m8 0 [(0, .int x0), (1, .int x1), (2, .int x2)] [] M := mj_V_go rfl (Nat.le_of_ble_eq_true rfl)
theorem c11 {d : Nat} {a0 : Nat} {M : mj_H} : mj_V (d + 1) 11 [.ref a0] M = mj_Rn d mj_m11 0 [(0, .ref a0)] [] M := mj_V_go rfl (Nat.le_of_ble_eq_true rfl)
theorem c13 {d : Nat} {a0 : Nat} {x1 : Int32} {M : mj_H} : mj_V (d + 1) 13 [.ref a0, .int x1] M = mj_Rn d mj_m13 0 [(0, .ref a0), (1, .int x1)] [] M := mj_V_go rfl (Nat.le_of_ble_eq_true rfl)
theorem c15 {d : Nat} {a0 : Nat} {x1 : Int32} {x2 : Int32} {M : mj_H} : mj_V (d + 1) 15 [.ref a0, .int x1, .int x2] M = mj_Rn d mj_m15 0 [(0, .ref a0), (1, .int x1), (2, .int x2)] [] M := mj_V_go rfl (Nat.le_of_ble_eq_true rfl)
theorem c17 {d : Nat} {a0 : Nat} {M : mj_H} : mj_V (d + 1) 17 [.ref a0] M = mj_Rn d mj_m17 0 [(0, .ref a0)] [] M := mj_V_go rfl (Nat.le_of_ble_eq_true rfl)
theorem c19 {d : Nat} {a0 : Nat} {x1 : Int32} {M : mj_H} : mj_V (d + 1) 19 [.ref a0, .int x1] M = mj_Rn d mj_m19 0 [(0, .ref a0), (1, .int x1)] [] M := mj_V_go rfl (Nat.le_of_ble_eq_true rfl)
theorem c68 {d : Nat} {a0 : Nat} {x1 : Int32} {M : mj_H} : mj_V (d + 1) 68 [.ref a0, .int x1] M = mj_Rn d mj_m68 0 [(0, .ref a0), (1, .int x1)] [] M := mj_V_go rfl (Nat.le_of_ble_eq_true rfl)
theorem c168 {d : Nat} {a0 : Nat} {x1 : Int32} {M : mj_H} : mj_V (d + 1) 168 [.ref a0, .int x1] M = mj_Rn d mj_m168 0 [(0, .ref a0), (1, .int x1)] [] M := mj_V_go rfl (Nat.le_of_ble_eq_true rfl)
theorem c191 {d : Nat} {a0 : Nat} {x1 : Int32} {M : mj_H} : mj_V (d + 1) 191 [.ref a0, .int x1] M = mj_Rn d mj_m191 0 [(0, .ref a0), (1, .int x1)] [] M := mj_V_go rfl (Nat.le_of_ble_eq_true rfl)
theorem c76 {d : Nat} {a0 : Nat} {x1 : Int32} {M : mj_H} : mj_V (d + 1) 76 [.ref a0, .int x1] M = mj_Rn d mj_m76 0 [(0, .ref a0), (1, .int x1)] [] M := mj_V_go rfl (Nat.le_of_ble_eq_true rfl)
theorem j_in {d : Nat} {v a b : Int32} {M : mj_H} : mj_V (d + 1) 8 [.int v, .int a, .int b] M = some (some (.int (on1 (inR v a b))), M) := by
  unfold inR
  by_cases h1 : a ≤ v
  · have n1 : ¬ v < a := by rw [Int32.lt_iff_toInt_lt]; rw [Int32.le_iff_toInt_le] at h1; omega
    by_cases h2 : v ≤ b
    · have n2 : ¬ b < v := by rw [Int32.lt_iff_toInt_lt]; rw [Int32.le_iff_toInt_le] at h2; omega
      simp (disch := (first | omega | decide)) [c8, s8_0, s8_1, s8_2, s8_5, s8_6, s8_7, s8_10, s8_11, s8_14, s8_15, mq_k0s, mq_k1s, mq_k2s, mq_k4s, mq_k5s, mq_k5n, mq_k5as, mq_k6s, mj_pu, mj_lo, mj_br, mj_hr, mj_hw, mq_gf, mq_len, mq_al, mq_pf, mq_ok, mj_re, mq_lkm, mq_lkn, mj_ldi, mj_ldl, mj_lda, mj_ii, mj_ll, mj_li, mj_i1, ms_1, ms_2, f1_n, f1_i, f1_r, f1_u, f1_l, f2_n, f2_i, f2_r, f2_u, f2_l, mj_tg, mj_c1, mj_c2, mj_ar, mj_aw, mq_cb, mq_oi, mj_rm, Value.category, -getElem?_pos, List.getElem?_cons_zero, decide_eq_true, decide_eq_false, nl_lt, nl_le, ln_lt, ln_le, nl_eq, ln_eq, nl_add, ln_add, nl_sub, ln_mul, nI_sub, nI_mul, nI_add, nI_lt_iff, nI_le_iff, nI_inj, nI_num, mq_ix, nI_1, nl_mul, nl_div, h1, h2, n1, n2, on1, narrow_b1]
    · have n2 : b < v := by rw [Int32.lt_iff_toInt_lt]; rw [Int32.le_iff_toInt_le] at h2; omega
      simp (disch := (first | omega | decide)) [c8, s8_0, s8_1, s8_2, s8_5, s8_6, s8_7, s8_10, s8_11, s8_14, s8_15, mq_k0s, mq_k1s, mq_k2s, mq_k4s, mq_k5s, mq_k5n, mq_k5as, mq_k6s, mj_pu, mj_lo, mj_br, mj_hr, mj_hw, mq_gf, mq_len, mq_al, mq_pf, mq_ok, mj_re, mq_lkm, mq_lkn, mj_ldi, mj_ldl, mj_lda, mj_ii, mj_ll, mj_li, mj_i1, ms_1, ms_2, f1_n, f1_i, f1_r, f1_u, f1_l, f2_n, f2_i, f2_r, f2_u, f2_l, mj_tg, mj_c1, mj_c2, mj_ar, mj_aw, mq_cb, mq_oi, mj_rm, Value.category, -getElem?_pos, List.getElem?_cons_zero, decide_eq_true, decide_eq_false, nl_lt, nl_le, ln_lt, ln_le, nl_eq, ln_eq, nl_add, ln_add, nl_sub, ln_mul, nI_sub, nI_mul, nI_add, nI_lt_iff, nI_le_iff, nI_inj, nI_num, mq_ix, nI_1, nl_mul, nl_div, h1, h2, n1, n2, on1, narrow_b0]
  · have n1 : v < a := by rw [Int32.lt_iff_toInt_lt]; rw [Int32.le_iff_toInt_le] at h1; omega
    simp (disch := (first | omega | decide)) [c8, s8_0, s8_1, s8_2, s8_5, s8_6, s8_7, s8_10, s8_11, s8_14, s8_15, mq_k0s, mq_k1s, mq_k2s, mq_k4s, mq_k5s, mq_k5n, mq_k5as, mq_k6s, mj_pu, mj_lo, mj_br, mj_hr, mj_hw, mq_gf, mq_len, mq_al, mq_pf, mq_ok, mj_re, mq_lkm, mq_lkn, mj_ldi, mj_ldl, mj_lda, mj_ii, mj_ll, mj_li, mj_i1, ms_1, ms_2, f1_n, f1_i, f1_r, f1_u, f1_l, f2_n, f2_i, f2_r, f2_u, f2_l, mj_tg, mj_c1, mj_c2, mj_ar, mj_aw, mq_cb, mq_oi, mj_rm, Value.category, -getElem?_pos, List.getElem?_cons_zero, decide_eq_true, decide_eq_false, nl_lt, nl_le, ln_lt, ln_le, nl_eq, ln_eq, nl_add, ln_add, nl_sub, ln_mul, nI_sub, nI_mul, nI_add, nI_lt_iff, nI_le_iff, nI_inj, nI_num, mq_ix, nI_1, nl_mul, nl_div, h1, n1, on1, narrow_b0]
/-- a number within bounds that are small numbers -/
theorem inR_nI {v : Int32} {a b : Nat} (h : inR v (nI a) (nI b) = true) (ha : a < 2 ^ 31) (hb : b < 2 ^ 31) : ∃ n : Nat, v = nI n ∧ a ≤ n ∧ n ≤ b ∧ v.toNatClampNeg = n := by
  unfold inR at h
  simp only [Bool.and_eq_true, decide_eq_true_eq] at h
  have h0 : ¬ v < 0 := by
    have := h.1
    rw [Int32.le_iff_toInt_le, nI_toInt ha] at this
    rw [Int32.lt_iff_toInt_lt]
    simp; omega
  obtain ⟨n, hn, rfl⟩ := nI_of h0
  refine ⟨n, rfl, (nI_le_iff ha hn).mp h.1, (nI_le_iff hn hb).mp h.2, nI_clamp hn⟩
theorem ix_nI {i n : Nat} (hi : i < 2 ^ 31) : ix (nI i) n = if i < n then some i else none := by
  unfold ix
  rw [if_neg (nI_pos hi), nI_clamp hi]
theorem ix_some {i : Int32} {n j : Nat} (h : ix i n = some j) : i = nI j ∧ j < n ∧ j < 2 ^ 31 := by
  unfold ix at h
  split at h
  · cases h
  · next h0 =>
    obtain ⟨k, hk, rfl⟩ := nI_of h0
    rw [nI_clamp hk] at h
    split at h
    · next h1 => cases h; exact ⟨rfl, h1, hk⟩
    · cases h
theorem ix_none {i : Int32} {n : Nat} (h : ix i n = none) : i < 0 ∨ ∃ k : Nat, i = nI k ∧ k < 2 ^ 31 ∧ n ≤ k := by
  unfold ix at h
  split at h
  · next h0 => exact Or.inl h0
  · next h0 =>
    obtain ⟨k, hk, rfl⟩ := nI_of h0
    rw [nI_clamp hk] at h
    split at h
    · cases h
    · exact Or.inr ⟨k, rfl, hk, by omega⟩
section HZ
variable {M M' : mj_H} {H H' : Ho} {κs πs : List Nat} {row row' : List Int32} {d : Nat}
theorem hz.o30 (z : hz M H κs πs row) : ∃ u, M[30]? = some (9, u) := by
  obtain ⟨p, e, o, h⟩ := z.t.ob
  exact ⟨_, h⟩
theorem h_feed (z : hz M H κs πs row) (w : Int64) (n : Int32) : ∃ M', mj_V (d + 2) 7 [.ref 25, .long w, .int n] M = some (some (.int (ho_feed H w n).1), M') ∧ hz M' (ho_feed H w n).2 κs πs row ∧ hf M M' := by
  have x0 := z.ob
  have x1 := z.tp.2.2.2.2.2.1
  have hl := z.tp.len
  have v0 := j_in (d := d) (v := n) (a := 1) (b := 8) (M := M)
  have v1 := v_size (d := d) z.tp
  unfold ho_feed
  cases hin : inR n 1 8 with
  | false =>
    rw [hin] at v0
    refine ⟨M, ?_, by simpa using z, hf.rf⟩
    simp (disch := (first | omega | decide)) [c7, s7_0, s7_1, s7_2, s7_4, s7_7, s7_10, s7_11, s7_14, s7_17, s7_18, s7_19, s7_22, s7_25, s7_26, s7_27, s7_28, s7_31, s7_32, s7_33, s7_36, s7_37, s7_40, s7_43, mq_k0s, mq_k1s, mq_k2s, mq_k4s, mq_k5s, mq_k5n, mq_k5as, mq_k6s, mj_pu, mj_lo, mj_br, mj_hr, mj_hw, mq_gf, mq_len, mq_al, mq_pf, mq_ok, mj_re, mq_lkm, mq_lkn, mj_ldi, mj_ldl, mj_lda, mj_ii, mj_ll, mj_li, mj_i1, ms_1, ms_2, f1_n, f1_i, f1_r, f1_u, f1_l, f2_n, f2_i, f2_r, f2_u, f2_l, mj_tg, mj_c1, mj_c2, mj_ar, mj_aw, mq_cb, mq_oi, mj_rm, Value.category, -getElem?_pos, List.getElem?_cons_zero, decide_eq_true, decide_eq_false, nl_lt, nl_le, ln_lt, ln_le, nl_eq, ln_eq, nl_add, ln_add, nl_sub, ln_mul, nI_sub, nI_mul, nI_add, nI_lt_iff, nI_le_iff, nI_inj, nI_num, mq_ix, nI_1, nl_mul, nl_div, v0, on1, narrow]
  | true =>
    rw [hin] at v0
    obtain ⟨m, rfl, h1, h2, hc⟩ := inR_nI (a := 1) (b := 8) hin (by decide) (by decide)
    rw [hc]
    by_cases hb : H.1.length + m ≤ 400
    · rw [if_pos ⟨rfl, hb⟩]
      obtain ⟨M1, p1, b1, f1⟩ := v_pushLow (d := d) (w := w) (m := m) (by omega) z.tp
      rw [bt_app_in (by rw [bt_low_len]; omega)] at b1
      obtain ⟨z1, g1⟩ := z.tape b1 f1 (mj_V_gr p1)
      refine ⟨M1, ?_, z1, g1⟩
      have x2 := z1.ob
      have x3 := b1.2.2.2.2.2.1
      have v2 := v_size (d := d) b1
      simp only [List.length_append, bt_low_len] at v2
      simp (disch := (first | omega | decide)) [c7, s7_0, s7_1, s7_2, s7_4, s7_7, s7_10, s7_11, s7_14, s7_17, s7_18, s7_19, s7_22, s7_25, s7_26, s7_27, s7_28, s7_31, s7_32, s7_33, s7_36, s7_37, s7_40, s7_43, mq_k0s, mq_k1s, mq_k2s, mq_k4s, mq_k5s, mq_k5n, mq_k5as, mq_k6s, mj_pu, mj_lo, mj_br, mj_hr, mj_hw, mq_gf, mq_len, mq_al, mq_pf, mq_ok, mj_re, mq_lkm, mq_lkn, mj_ldi, mj_ldl, mj_lda, mj_ii, mj_ll, mj_li, mj_i1, ms_1, ms_2, f1_n, f1_i, f1_r, f1_u, f1_l, f2_n, f2_i, f2_r, f2_u, f2_l, mj_tg, mj_c1, mj_c2, mj_ar, mj_aw, mq_cb, mq_oi, mj_rm, Value.category, -getElem?_pos, List.getElem?_cons_zero, decide_eq_true, decide_eq_false, nl_lt, nl_le, ln_lt, ln_le, nl_eq, ln_eq, nl_add, ln_add, nl_sub, ln_mul, nI_sub, nI_mul, nI_add, nI_lt_iff, nI_le_iff, nI_inj, nI_num, mq_ix, nI_1, nl_mul, nl_div, v0, on1, x0, x1, v1, hb, p1, x2, x3, v2, narrow]
    · rw [if_neg (fun q => hb q.2)]
      refine ⟨M, ?_, z, hf.rf⟩
      simp (disch := (first | omega | decide)) [c7, s7_0, s7_1, s7_2, s7_4, s7_7, s7_10, s7_11, s7_14, s7_17, s7_18, s7_19, s7_22, s7_25, s7_26, s7_27, s7_28, s7_31, s7_32, s7_33, s7_36, s7_37, s7_40, s7_43, mq_k0s, mq_k1s, mq_k2s, mq_k4s, mq_k5s, mq_k5n, mq_k5as, mq_k6s, mj_pu, mj_lo, mj_br, mj_hr, mj_hw, mq_gf, mq_len, mq_al, mq_pf, mq_ok, mj_re, mq_lkm, mq_lkn, mj_ldi, mj_ldl, mj_lda, mj_ii, mj_ll, mj_li, mj_i1, ms_1, ms_2, f1_n, f1_i, f1_r, f1_u, f1_l, f2_n, f2_i, f2_r, f2_u, f2_l, mj_tg, mj_c1, mj_c2, mj_ar, mj_aw, mq_cb, mq_oi, mj_rm, Value.category, -getElem?_pos, List.getElem?_cons_zero, decide_eq_true, decide_eq_false, nl_lt, nl_le, ln_lt, ln_le, nl_eq, ln_eq, nl_add, ln_add, nl_sub, ln_mul, nI_sub, nI_mul, nI_add, nI_lt_iff, nI_le_iff, nI_inj, nI_num, mq_ix, nI_1, nl_mul, nl_div, v0, on1, x0, x1, v1, hb, narrow]
theorem h_wipe (z : hz M H κs πs row) : ∃ M', mj_V (d + 2) 11 [.ref 25] M = some (some (.int (ho_wipe H).1), M') ∧ hz M' (ho_wipe H).2 κs πs row ∧ hf M M' := by
  have x0 := z.ob
  have x1 := z.tp.2.2.2.2.2.1
  have v1 := v_size (d := d) z.tp
  obtain ⟨M1, p1, b1, f1⟩ := v_clear (d := d) z.tp
  obtain ⟨z1, g1⟩ := z.tape b1 (f1.mono (by simp)) (mj_V_gr p1)
  refine ⟨M1, ?_, z1, g1⟩
  simp (disch := (first | omega | decide)) [c11, s11_0, s11_1, s11_4, s11_7, s11_8, s11_9, s11_12, s11_15, s11_16, mq_k0s, mq_k1s, mq_k2s, mq_k4s, mq_k5s, mq_k5n, mq_k5as, mq_k6s, mj_pu, mj_lo, mj_br, mj_hr, mj_hw, mq_gf, mq_len, mq_al, mq_pf, mq_ok, mj_re, mq_lkm, mq_lkn, mj_ldi, mj_ldl, mj_lda, mj_ii, mj_ll, mj_li, mj_i1, ms_1, ms_2, f1_n, f1_i, f1_r, f1_u, f1_l, f2_n, f2_i, f2_r, f2_u, f2_l, mj_tg, mj_c1, mj_c2, mj_ar, mj_aw, mq_cb, mq_oi, mj_rm, Value.category, -getElem?_pos, List.getElem?_cons_zero, decide_eq_true, decide_eq_false, nl_lt, nl_le, ln_lt, ln_le, nl_eq, ln_eq, nl_add, ln_add, nl_sub, ln_mul, nI_sub, nI_mul, nI_add, nI_lt_iff, nI_le_iff, nI_inj, nI_num, mq_ix, nI_1, nl_mul, nl_div, x0, x1, v1, p1, narrow, ho_wipe]
theorem h_at (z : hz M H κs πs row) (i : Int32) : mj_V (d + 2) 13 [.ref 25, .int i] M = some (some (.int (ho_at H i).1), M) := by
  have x0 := z.ob
  have x1 := z.tp.2.2.2.2.2.1
  have v1 := v_item (d := d) z.tp i
  simp (disch := (first | omega | decide)) [c13, s13_0, s13_1, s13_4, s13_5, s13_8, mq_k0s, mq_k1s, mq_k2s, mq_k4s, mq_k5s, mq_k5n, mq_k5as, mq_k6s, mj_pu, mj_lo, mj_br, mj_hr, mj_hw, mq_gf, mq_len, mq_al, mq_pf, mq_ok, mj_re, mq_lkm, mq_lkn, mj_ldi, mj_ldl, mj_lda, mj_ii, mj_ll, mj_li, mj_i1, ms_1, ms_2, f1_n, f1_i, f1_r, f1_u, f1_l, f2_n, f2_i, f2_r, f2_u, f2_l, mj_tg, mj_c1, mj_c2, mj_ar, mj_aw, mq_cb, mq_oi, mj_rm, Value.category, -getElem?_pos, List.getElem?_cons_zero, decide_eq_true, decide_eq_false, nl_lt, nl_le, ln_lt, ln_le, nl_eq, ln_eq, nl_add, ln_add, nl_sub, ln_mul, nI_sub, nI_mul, nI_add, nI_lt_iff, nI_le_iff, nI_inj, nI_num, mq_ix, nI_1, nl_mul, nl_div, x0, x1, v1, narrow, ho_at]
theorem bt_at_ix {xs : List Int32} (i : Int32) : bt_at xs i = match ix i xs.length with
    | none => -1
    | some j => xs.getD j (-1) := by
  unfold bt_at ix
  by_cases h0 : i < 0
  · rw [if_pos h0, if_pos h0]
  · rw [if_neg h0, if_neg h0]
    by_cases h1 : i.toNatClampNeg < xs.length
    · rw [if_pos h1]
    · rw [if_neg h1]
      simp [List.getD, Nat.not_lt.mp h1]
theorem h_poke (z : hz M H κs πs row) (i v : Int32) : ∃ M', mj_V (d + 2) 15 [.ref 25, .int i, .int v] M = some (some (.int (ho_poke H i v).1), M') ∧ hz M' (ho_poke H i v).2 κs πs row ∧ hf M M' := by
  have x0 := z.ob
  have x1 := z.tp.2.2.2.2.2.1
  have h8 := z.tp.2.2.2.2.1
  have v1 := v_item (d := d) z.tp i
  have v0 := j_in (d := d) (v := v) (a := 0) (b := 255) (M := M)
  rw [bt_at_ix] at v1
  unfold ho_poke
  cases hix : ix i H.1.length with
  | none =>
    rw [hix] at v1
    refine ⟨M, ?_, z, hf.rf⟩
    simp (disch := (first | omega | decide)) [c15, s15_0, s15_1, s15_4, s15_5, s15_8, s15_9, s15_10, s15_11, s15_14, s15_15, s15_16, s15_19, s15_22, s15_25, s15_26, s15_27, s15_28, s15_31, s15_32, s15_33, s15_36, s15_37, mq_k0s, mq_k1s, mq_k2s, mq_k4s, mq_k5s, mq_k5n, mq_k5as, mq_k6s, mj_pu, mj_lo, mj_br, mj_hr, mj_hw, mq_gf, mq_len, mq_al, mq_pf, mq_ok, mj_re, mq_lkm, mq_lkn, mj_ldi, mj_ldl, mj_lda, mj_ii, mj_ll, mj_li, mj_i1, ms_1, ms_2, f1_n, f1_i, f1_r, f1_u, f1_l, f2_n, f2_i, f2_r, f2_u, f2_l, mj_tg, mj_c1, mj_c2, mj_ar, mj_aw, mq_cb, mq_oi, mj_rm, Value.category, -getElem?_pos, List.getElem?_cons_zero, decide_eq_true, decide_eq_false, nl_lt, nl_le, ln_lt, ln_le, nl_eq, ln_eq, nl_add, ln_add, nl_sub, ln_mul, nI_sub, nI_mul, nI_add, nI_lt_iff, nI_le_iff, nI_inj, nI_num, mq_ix, nI_1, nl_mul, nl_div, x0, x1, v1, narrow]
  | some j =>
    rw [hix] at v1
    obtain ⟨rfl, hj, hj2⟩ := ix_some hix
    obtain ⟨b, hb, he⟩ := by_in h8 hj (-1)
    dsimp only at v1 ⊢
    rw [he] at v1 ⊢
    cases hin : inR v 0 255 with
    | false =>
      rw [hin] at v0
      refine ⟨M, ?_, z, hf.rf⟩
      simp (disch := (first | omega | decide)) [c15, s15_0, s15_1, s15_4, s15_5, s15_8, s15_9, s15_10, s15_11, s15_14, s15_15, s15_16, s15_19, s15_22, s15_25, s15_26, s15_27, s15_28, s15_31, s15_32, s15_33, s15_36, s15_37, mq_k0s, mq_k1s, mq_k2s, mq_k4s, mq_k5s, mq_k5n, mq_k5as, mq_k6s, mj_pu, mj_lo, mj_br, mj_hr, mj_hw, mq_gf, mq_len, mq_al, mq_pf, mq_ok, mj_re, mq_lkm, mq_lkn, mj_ldi, mj_ldl, mj_lda, mj_ii, mj_ll, mj_li, mj_i1, ms_1, ms_2, f1_n, f1_i, f1_r, f1_u, f1_l, f2_n, f2_i, f2_r, f2_u, f2_l, mj_tg, mj_c1, mj_c2, mj_ar, mj_aw, mq_cb, mq_oi, mj_rm, Value.category, -getElem?_pos, List.getElem?_cons_zero, decide_eq_true, decide_eq_false, nl_lt, nl_le, ln_lt, ln_le, nl_eq, ln_eq, nl_add, ln_add, nl_sub, ln_mul, nI_sub, nI_mul, nI_add, nI_lt_iff, nI_le_iff, nI_inj, nI_num, mq_ix, nI_1, nl_mul, nl_div, x0, x1, v1, nI_m1, v0, on1, narrow]
    | true =>
      rw [hin] at v0
      obtain ⟨m, rfl, -, hm, -⟩ := inR_nI (a := 0) (b := 255) hin (by decide) (by decide)
      obtain ⟨M1, p1, b1, f1⟩ := v_put (d := d) z.tp hj (nI m)
      rw [by_nat m (by omega)] at b1
      obtain ⟨z1, g1⟩ := z.tape b1 (f1.mono (by simp)) (mj_V_gr p1)
      refine ⟨M1, ?_, z1, g1⟩
      simp (disch := (first | omega | decide)) [c15, s15_0, s15_1, s15_4, s15_5, s15_8, s15_9, s15_10, s15_11, s15_14, s15_15, s15_16, s15_19, s15_22, s15_25, s15_26, s15_27, s15_28, s15_31, s15_32, s15_33, s15_36, s15_37, mq_k0s, mq_k1s, mq_k2s, mq_k4s, mq_k5s, mq_k5n, mq_k5as, mq_k6s, mj_pu, mj_lo, mj_br, mj_hr, mj_hw, mq_gf, mq_len, mq_al, mq_pf, mq_ok, mj_re, mq_lkm, mq_lkn, mj_ldi, mj_ldl, mj_lda, mj_ii, mj_ll, mj_li, mj_i1, ms_1, ms_2, f1_n, f1_i, f1_r, f1_u, f1_l, f2_n, f2_i, f2_r, f2_u, f2_l, mj_tg, mj_c1, mj_c2, mj_ar, mj_aw, mq_cb, mq_oi, mj_rm, Value.category, -getElem?_pos, List.getElem?_cons_zero, decide_eq_true, decide_eq_false, nl_lt, nl_le, ln_lt, ln_le, nl_eq, ln_eq, nl_add, ln_add, nl_sub, ln_mul, nI_sub, nI_mul, nI_add, nI_lt_iff, nI_le_iff, nI_inj, nI_num, mq_ix, nI_1, nl_mul, nl_div, x0, x1, v1, nI_m1, v0, on1, p1, narrow]
theorem h_terms (z : hz M H κs πs row) : mj_V (d + 2) 17 [.ref 25] M = some (some (.int (ho_terms H).1), M) := by
  have x0 := z.ob
  obtain ⟨u, x1⟩ := z.o30
  have v1 := tx_count (d := d) z.t
  simp (disch := (first | omega | decide)) [c17, s17_0, s17_1, s17_4, s17_7, mq_k0s, mq_k1s, mq_k2s, mq_k4s, mq_k5s, mq_k5n, mq_k5as, mq_k6s, mj_pu, mj_lo, mj_br, mj_hr, mj_hw, mq_gf, mq_len, mq_al, mq_pf, mq_ok, mj_re, mq_lkm, mq_lkn, mj_ldi, mj_ldl, mj_lda, mj_ii, mj_ll, mj_li, mj_i1, ms_1, ms_2, f1_n, f1_i, f1_r, f1_u, f1_l, f2_n, f2_i, f2_r, f2_u, f2_l, mj_tg, mj_c1, mj_c2, mj_ar, mj_aw, mq_cb, mq_oi, mj_rm, Value.category, -getElem?_pos, List.getElem?_cons_zero, decide_eq_true, decide_eq_false, nl_lt, nl_le, ln_lt, ln_le, nl_eq, ln_eq, nl_add, ln_add, nl_sub, ln_mul, nI_sub, nI_mul, nI_add, nI_lt_iff, nI_le_iff, nI_inj, nI_num, mq_ix, nI_1, nl_mul, nl_div, x0, x1, v1, narrow, ho_terms]
theorem h_sort (z : hz M H κs πs row) (t : Int32) : mj_V (d + 3) 19 [.ref 25, .int t] M = some (some (.int (ho_sort H t).1), M) := by
  have x0 := z.ob
  obtain ⟨u, x1⟩ := z.o30
  have v1 := tx_part (d := d) z.t t 0
  simp (disch := (first | omega | decide)) [c19, s19_0, s19_1, s19_4, s19_5, s19_6, s19_9, mq_k0s, mq_k1s, mq_k2s, mq_k4s, mq_k5s, mq_k5n, mq_k5as, mq_k6s, mj_pu, mj_lo, mj_br, mj_hr, mj_hw, mq_gf, mq_len, mq_al, mq_pf, mq_ok, mj_re, mq_lkm, mq_lkn, mj_ldi, mj_ldl, mj_lda, mj_ii, mj_ll, mj_li, mj_i1, ms_1, ms_2, f1_n, f1_i, f1_r, f1_u, f1_l, f2_n, f2_i, f2_r, f2_u, f2_l, mj_tg, mj_c1, mj_c2, mj_ar, mj_aw, mq_cb, mq_oi, mj_rm, Value.category, -getElem?_pos, List.getElem?_cons_zero, decide_eq_true, decide_eq_false, nl_lt, nl_le, ln_lt, ln_le, nl_eq, ln_eq, nl_add, ln_add, nl_sub, ln_mul, nI_sub, nI_mul, nI_add, nI_lt_iff, nI_le_iff, nI_inj, nI_num, mq_ix, nI_1, nl_mul, nl_div, x0, x1, v1, narrow, ho_sort]
/-- which key, hand, party -/
theorem h_keyN (z : hz M H κs πs row) {i : Int32} (h : ix i H.2.2.1.length = none) : mj_V (d + 1) 68 [.ref 25, .int i] M = some (some .null, M) := by
  have x0 := z.ob
  have x1 := z.ka
  have k3 := z.k3
  have kl := z.kl
  rcases ix_none h with h0 | ⟨k, rfl, hk, h0⟩
  · simp (disch := (first | omega | decide)) [c68, s68_0, s68_1, s68_4, s68_5, s68_6, s68_9, s68_10, s68_13, s68_14, s68_17, s68_18, s68_21, s68_22, s68_23, mq_k0s, mq_k1s, mq_k2s, mq_k4s, mq_k5s, mq_k5n, mq_k5as, mq_k6s, mj_pu, mj_lo, mj_br, mj_hr, mj_hw, mq_gf, mq_len, mq_al, mq_pf, mq_ok, mj_re, mq_lkm, mq_lkn, mj_ldi, mj_ldl, mj_lda, mj_ii, mj_ll, mj_li, mj_i1, ms_1, ms_2, f1_n, f1_i, f1_r, f1_u, f1_l, f2_n, f2_i, f2_r, f2_u, f2_l, mj_tg, mj_c1, mj_c2, mj_ar, mj_aw, mq_cb, mq_oi, mj_rm, Value.category, -getElem?_pos, List.getElem?_cons_zero, decide_eq_true, decide_eq_false, nl_lt, nl_le, ln_lt, ln_le, nl_eq, ln_eq, nl_add, ln_add, nl_sub, ln_mul, nI_sub, nI_mul, nI_add, nI_lt_iff, nI_le_iff, nI_inj, nI_num, mq_ix, nI_1, nl_mul, nl_div, x0, h0, narrow]
  · by_cases hk3 : k < 3
    · have e1 : (κs.map Value.ref ++ nulls (3 - κs.length)).length = 3 := by simp [nulls]; omega
      have e2 : (κs.map Value.ref ++ nulls (3 - κs.length))[k]? = some .null := by
        rw [List.getElem?_append_right (by simp; omega)]
        simp [nulls, List.getElem?_replicate]; omega
      generalize κs.map Value.ref ++ nulls (3 - κs.length) = zs at *
      simp (disch := (first | omega | decide)) [c68, s68_0, s68_1, s68_4, s68_5, s68_6, s68_9, s68_10, s68_13, s68_14, s68_17, s68_18, s68_21, s68_22, s68_23, mq_k0s, mq_k1s, mq_k2s, mq_k4s, mq_k5s, mq_k5n, mq_k5as, mq_k6s, mj_pu, mj_lo, mj_br, mj_hr, mj_hw, mq_gf, mq_len, mq_al, mq_pf, mq_ok, mj_re, mq_lkm, mq_lkn, mj_ldi, mj_ldl, mj_lda, mj_ii, mj_ll, mj_li, mj_i1, ms_1, ms_2, f1_n, f1_i, f1_r, f1_u, f1_l, f2_n, f2_i, f2_r, f2_u, f2_l, mj_tg, mj_c1, mj_c2, mj_ar, mj_aw, mq_cb, mq_oi, mj_rm, Value.category, -getElem?_pos, List.getElem?_cons_zero, decide_eq_true, decide_eq_false, nl_lt, nl_le, ln_lt, ln_le, nl_eq, ln_eq, nl_add, ln_add, nl_sub, ln_mul, nI_sub, nI_mul, nI_add, nI_lt_iff, nI_le_iff, nI_inj, nI_num, mq_ix, nI_1, nl_mul, nl_div, x0, x1, e1, e2, hk3, narrow]
    · have e1 : (κs.map Value.ref ++ nulls (3 - κs.length)).length = 3 := by simp [nulls]; omega
      generalize κs.map Value.ref ++ nulls (3 - κs.length) = zs at *
      simp (disch := (first | omega | decide)) [c68, s68_0, s68_1, s68_4, s68_5, s68_6, s68_9, s68_10, s68_13, s68_14, s68_17, s68_18, s68_21, s68_22, s68_23, mq_k0s, mq_k1s, mq_k2s, mq_k4s, mq_k5s, mq_k5n, mq_k5as, mq_k6s, mj_pu, mj_lo, mj_br, mj_hr, mj_hw, mq_gf, mq_len, mq_al, mq_pf, mq_ok, mj_re, mq_lkm, mq_lkn, mj_ldi, mj_ldl, mj_lda, mj_ii, mj_ll, mj_li, mj_i1, ms_1, ms_2, f1_n, f1_i, f1_r, f1_u, f1_l, f2_n, f2_i, f2_r, f2_u, f2_l, mj_tg, mj_c1, mj_c2, mj_ar, mj_aw, mq_cb, mq_oi, mj_rm, Value.category, -getElem?_pos, List.getElem?_cons_zero, decide_eq_true, decide_eq_false, nl_lt, nl_le, ln_lt, ln_le, nl_eq, ln_eq, nl_add, ln_add, nl_sub, ln_mul, nI_sub, nI_mul, nI_add, nI_lt_iff, nI_le_iff, nI_inj, nI_num, mq_ix, nI_1, nl_mul, nl_div, x0, x1, e1, hk3, narrow]
theorem h_keyS (z : hz M H κs πs row) {j κ : Nat} (h : κs[j]? = some κ) : mj_V (d + 1) 68 [.ref 25, .int (nI j)] M = some (some (.ref κ), M) := by
  have x0 := z.ob
  have x1 := z.ka
  have k3 := z.k3
  have hj := (List.getElem?_eq_some_iff.mp h).1
  have e1 : (κs.map Value.ref ++ nulls (3 - κs.length)).length = 3 := by simp [nulls]; omega
  have e2 : (κs.map Value.ref ++ nulls (3 - κs.length))[j]? = some (.ref κ) := by
    rw [List.getElem?_append_left (by simpa using hj), List.getElem?_map, h]; rfl
  generalize κs.map Value.ref ++ nulls (3 - κs.length) = zs at *
  simp (disch := (first | omega | decide)) [c68, s68_0, s68_1, s68_4, s68_5, s68_6, s68_9, s68_10, s68_13, s68_14, s68_17, s68_18, s68_21, s68_22, s68_23, mq_k0s, mq_k1s, mq_k2s, mq_k4s, mq_k5s, mq_k5n, mq_k5as, mq_k6s, mj_pu, mj_lo, mj_br, mj_hr, mj_hw, mq_gf, mq_len, mq_al, mq_pf, mq_ok, mj_re, mq_lkm, mq_lkn, mj_ldi, mj_ldl, mj_lda, mj_ii, mj_ll, mj_li, mj_i1, ms_1, ms_2, f1_n, f1_i, f1_r, f1_u, f1_l, f2_n, f2_i, f2_r, f2_u, f2_l, mj_tg, mj_c1, mj_c2, mj_ar, mj_aw, mq_cb, mq_oi, mj_rm, Value.category, -getElem?_pos, List.getElem?_cons_zero, decide_eq_true, decide_eq_false, nl_lt, nl_le, ln_lt, ln_le, nl_eq, ln_eq, nl_add, ln_add, nl_sub, ln_mul, nI_sub, nI_mul, nI_add, nI_lt_iff, nI_le_iff, nI_inj, nI_num, mq_ix, nI_1, nl_mul, nl_div, x0, x1, e1, e2, narrow]
theorem h_parN (z : hz M H κs πs row) {i : Int32} (h : ix i H.2.2.2.2.length = none) : mj_V (d + 1) 191 [.ref 25, .int i] M = some (some .null, M) := by
  have x0 := z.ob
  have x1 := z.pa
  have k3 := z.p4
  have kl := z.pl
  rcases ix_none h with h0 | ⟨k, rfl, hk, h0⟩
  · simp (disch := (first | omega | decide)) [c191, s191_0, s191_1, s191_4, s191_5, s191_6, s191_9, s191_10, s191_13, s191_14, s191_17, s191_18, s191_21, s191_22, s191_23, mq_k0s, mq_k1s, mq_k2s, mq_k4s, mq_k5s, mq_k5n, mq_k5as, mq_k6s, mj_pu, mj_lo, mj_br, mj_hr, mj_hw, mq_gf, mq_len, mq_al, mq_pf, mq_ok, mj_re, mq_lkm, mq_lkn, mj_ldi, mj_ldl, mj_lda, mj_ii, mj_ll, mj_li, mj_i1, ms_1, ms_2, f1_n, f1_i, f1_r, f1_u, f1_l, f2_n, f2_i, f2_r, f2_u, f2_l, mj_tg, mj_c1, mj_c2, mj_ar, mj_aw, mq_cb, mq_oi, mj_rm, Value.category, -getElem?_pos, List.getElem?_cons_zero, decide_eq_true, decide_eq_false, nl_lt, nl_le, ln_lt, ln_le, nl_eq, ln_eq, nl_add, ln_add, nl_sub, ln_mul, nI_sub, nI_mul, nI_add, nI_lt_iff, nI_le_iff, nI_inj, nI_num, mq_ix, nI_1, nl_mul, nl_div, x0, h0, narrow]
  · by_cases hk3 : k < 4
    · have e1 : (πs.map Value.ref ++ nulls (4 - πs.length)).length = 4 := by simp [nulls]; omega
      have e2 : (πs.map Value.ref ++ nulls (4 - πs.length))[k]? = some .null := by
        rw [List.getElem?_append_right (by simp; omega)]
        simp [nulls, List.getElem?_replicate]; omega
      generalize πs.map Value.ref ++ nulls (4 - πs.length) = zs at *
      simp (disch := (first | omega | decide)) [c191, s191_0, s191_1, s191_4, s191_5, s191_6, s191_9, s191_10, s191_13, s191_14, s191_17, s191_18, s191_21, s191_22, s191_23, mq_k0s, mq_k1s, mq_k2s, mq_k4s, mq_k5s, mq_k5n, mq_k5as, mq_k6s, mj_pu, mj_lo, mj_br, mj_hr, mj_hw, mq_gf, mq_len, mq_al, mq_pf, mq_ok, mj_re, mq_lkm, mq_lkn, mj_ldi, mj_ldl, mj_lda, mj_ii, mj_ll, mj_li, mj_i1, ms_1, ms_2, f1_n, f1_i, f1_r, f1_u, f1_l, f2_n, f2_i, f2_r, f2_u, f2_l, mj_tg, mj_c1, mj_c2, mj_ar, mj_aw, mq_cb, mq_oi, mj_rm, Value.category, -getElem?_pos, List.getElem?_cons_zero, decide_eq_true, decide_eq_false, nl_lt, nl_le, ln_lt, ln_le, nl_eq, ln_eq, nl_add, ln_add, nl_sub, ln_mul, nI_sub, nI_mul, nI_add, nI_lt_iff, nI_le_iff, nI_inj, nI_num, mq_ix, nI_1, nl_mul, nl_div, x0, x1, e1, e2, hk3, narrow]
    · have e1 : (πs.map Value.ref ++ nulls (4 - πs.length)).length = 4 := by simp [nulls]; omega
      generalize πs.map Value.ref ++ nulls (4 - πs.length) = zs at *
      simp (disch := (first | omega | decide)) [c191, s191_0, s191_1, s191_4, s191_5, s191_6, s191_9, s191_10, s191_13, s191_14, s191_17, s191_18, s191_21, s191_22, s191_23, mq_k0s, mq_k1s, mq_k2s, mq_k4s, mq_k5s, mq_k5n, mq_k5as, mq_k6s, mj_pu, mj_lo, mj_br, mj_hr, mj_hw, mq_gf, mq_len, mq_al, mq_pf, mq_ok, mj_re, mq_lkm, mq_lkn, mj_ldi, mj_ldl, mj_lda, mj_ii, mj_ll, mj_li, mj_i1, ms_1, ms_2, f1_n, f1_i, f1_r, f1_u, f1_l, f2_n, f2_i, f2_r, f2_u, f2_l, mj_tg, mj_c1, mj_c2, mj_ar, mj_aw, mq_cb, mq_oi, mj_rm, Value.category, -getElem?_pos, List.getElem?_cons_zero, decide_eq_true, decide_eq_false, nl_lt, nl_le, ln_lt, ln_le, nl_eq, ln_eq, nl_add, ln_add, nl_sub, ln_mul, nI_sub, nI_mul, nI_add, nI_lt_iff, nI_le_iff, nI_inj, nI_num, mq_ix, nI_1, nl_mul, nl_div, x0, x1, e1, hk3, narrow]
theorem h_parS (z : hz M H κs πs row) {j π : Nat} (h : πs[j]? = some π) : mj_V (d + 1) 191 [.ref 25, .int (nI j)] M = some (some (.ref π), M) := by
  have x0 := z.ob
  have x1 := z.pa
  have k3 := z.p4
  have hj := (List.getElem?_eq_some_iff.mp h).1
  have e1 : (πs.map Value.ref ++ nulls (4 - πs.length)).length = 4 := by simp [nulls]; omega
  have e2 : (πs.map Value.ref ++ nulls (4 - πs.length))[j]? = some (.ref π) := by
    rw [List.getElem?_append_left (by simpa using hj), List.getElem?_map, h]; rfl
  generalize πs.map Value.ref ++ nulls (4 - πs.length) = zs at *
  simp (disch := (first | omega | decide)) [c191, s191_0, s191_1, s191_4, s191_5, s191_6, s191_9, s191_10, s191_13, s191_14, s191_17, s191_18, s191_21, s191_22, s191_23, mq_k0s, mq_k1s, mq_k2s, mq_k4s, mq_k5s, mq_k5n, mq_k5as, mq_k6s, mj_pu, mj_lo, mj_br, mj_hr, mj_hw, mq_gf, mq_len, mq_al, mq_pf, mq_ok, mj_re, mq_lkm, mq_lkn, mj_ldi, mj_ldl, mj_lda, mj_ii, mj_ll, mj_li, mj_i1, ms_1, ms_2, f1_n, f1_i, f1_r, f1_u, f1_l, f2_n, f2_i, f2_r, f2_u, f2_l, mj_tg, mj_c1, mj_c2, mj_ar, mj_aw, mq_cb, mq_oi, mj_rm, Value.category, -getElem?_pos, List.getElem?_cons_zero, decide_eq_true, decide_eq_false, nl_lt, nl_le, ln_lt, ln_le, nl_eq, ln_eq, nl_add, ln_add, nl_sub, ln_mul, nI_sub, nI_mul, nI_add, nI_lt_iff, nI_le_iff, nI_inj, nI_num, mq_ix, nI_1, nl_mul, nl_div, x0, x1, e1, e2, narrow]
theorem h_hanN (z : hz M H κs πs row) {i : Int32} (h : ix i 4 = none) : mj_V (d + 1) 168 [.ref 25, .int i] M = some (some .null, M) := by
  have x0 := z.ob
  have x1 := z.ha
  rcases ix_none h with h0 | ⟨k, rfl, hk, h0⟩
  · simp (disch := (first | omega | decide)) [c168, s168_0, s168_1, s168_4, s168_5, s168_6, s168_9, s168_10, s168_13, s168_14, s168_17, s168_18, s168_21, s168_22, s168_23, mq_k0s, mq_k1s, mq_k2s, mq_k4s, mq_k5s, mq_k5n, mq_k5as, mq_k6s, mj_pu, mj_lo, mj_br, mj_hr, mj_hw, mq_gf, mq_len, mq_al, mq_pf, mq_ok, mj_re, mq_lkm, mq_lkn, mj_ldi, mj_ldl, mj_lda, mj_ii, mj_ll, mj_li, mj_i1, ms_1, ms_2, f1_n, f1_i, f1_r, f1_u, f1_l, f2_n, f2_i, f2_r, f2_u, f2_l, mj_tg, mj_c1, mj_c2, mj_ar, mj_aw, mq_cb, mq_oi, mj_rm, Value.category, -getElem?_pos, List.getElem?_cons_zero, decide_eq_true, decide_eq_false, nl_lt, nl_le, ln_lt, ln_le, nl_eq, ln_eq, nl_add, ln_add, nl_sub, ln_mul, nI_sub, nI_mul, nI_add, nI_lt_iff, nI_le_iff, nI_inj, nI_num, mq_ix, nI_1, nl_mul, nl_div, x0, h0, narrow]
  · simp (disch := (first | omega | decide)) [c168, s168_0, s168_1, s168_4, s168_5, s168_6, s168_9, s168_10, s168_13, s168_14, s168_17, s168_18, s168_21, s168_22, s168_23, mq_k0s, mq_k1s, mq_k2s, mq_k4s, mq_k5s, mq_k5n, mq_k5as, mq_k6s, mj_pu, mj_lo, mj_br, mj_hr, mj_hw, mq_gf, mq_len, mq_al, mq_pf, mq_ok, mj_re, mq_lkm, mq_lkn, mj_ldi, mj_ldl, mj_lda, mj_ii, mj_ll, mj_li, mj_i1, ms_1, ms_2, f1_n, f1_i, f1_r, f1_u, f1_l, f2_n, f2_i, f2_r, f2_u, f2_l, mj_tg, mj_c1, mj_c2, mj_ar, mj_aw, mq_cb, mq_oi, mj_rm, Value.category, -getElem?_pos, List.getElem?_cons_zero, decide_eq_true, decide_eq_false, nl_lt, nl_le, ln_lt, ln_le, nl_eq, ln_eq, nl_add, ln_add, nl_sub, ln_mul, nI_sub, nI_mul, nI_add, nI_lt_iff, nI_le_iff, nI_inj, nI_num, mq_ix, nI_1, nl_mul, nl_div, x0, x1, h0, narrow]
theorem h_hanS (z : hz M H κs πs row) {j : Nat} (h : j < 4) : mj_V (d + 1) 168 [.ref 25, .int (nI j)] M = some (some (.ref (46 + 5 * j)), M) := by
  have x0 := z.ob
  have x1 := z.ha
  rcases (show j = 0 ∨ j = 1 ∨ j = 2 ∨ j = 3 by omega) with rfl | rfl | rfl | rfl <;> simp (disch := (first | omega | decide)) [c168, s168_0, s168_1, s168_4, s168_5, s168_6, s168_9, s168_10, s168_13, s168_14, s168_17, s168_18, s168_21, s168_22, s168_23, mq_k0s, mq_k1s, mq_k2s, mq_k4s, mq_k5s, mq_k5n, mq_k5as, mq_k6s, mj_pu, mj_lo, mj_br, mj_hr, mj_hw, mq_gf, mq_len, mq_al, mq_pf, mq_ok, mj_re, mq_lkm, mq_lkn, mj_ldi, mj_ldl, mj_lda, mj_ii, mj_ll, mj_li, mj_i1, ms_1, ms_2, f1_n, f1_i, f1_r, f1_u, f1_l, f2_n, f2_i, f2_r, f2_u, f2_l, mj_tg, mj_c1, mj_c2, mj_ar, mj_aw, mq_cb, mq_oi, mj_rm, Value.category, -getElem?_pos, List.getElem?_cons_zero, decide_eq_true, decide_eq_false, nl_lt, nl_le, ln_lt, ln_le, nl_eq, ln_eq, nl_add, ln_add, nl_sub, ln_mul, nI_sub, nI_mul, nI_add, nI_lt_iff, nI_le_iff, nI_inj, nI_num, mq_ix, nI_1, nl_mul, nl_div, x0, x1, narrow]
theorem h_tp (z : hz M H κs πs row) (n : Int32) : mj_V (d + 2) 76 [.ref 25, .int n] M = some (some (.int (match tp H n with
    | none => -1
    | some m => nI m)), M) ∧ ∀ m, tp H n = some m → m ≤ H.1.length := by
  have x0 := z.ob
  have x1 := z.tp.2.2.2.2.2.1
  have hl := z.tp.len
  have v1 := v_size (d := d) z.tp
  unfold tp
  by_cases h1 : n = -1
  · subst h1
    refine ⟨?_, by intro m hm; simp at hm; omega⟩
    simp (disch := (first | omega | decide)) [c76, s76_0, s76_1, s76_2, s76_5, s76_6, s76_9, s76_12, s76_13, s76_14, s76_17, s76_18, s76_19, s76_22, s76_25, s76_28, s76_29, s76_32, s76_33, mq_k0s, mq_k1s, mq_k2s, mq_k4s, mq_k5s, mq_k5n, mq_k5as, mq_k6s, mj_pu, mj_lo, mj_br, mj_hr, mj_hw, mq_gf, mq_len, mq_al, mq_pf, mq_ok, mj_re, mq_lkm, mq_lkn, mj_ldi, mj_ldl, mj_lda, mj_ii, mj_ll, mj_li, mj_i1, ms_1, ms_2, f1_n, f1_i, f1_r, f1_u, f1_l, f2_n, f2_i, f2_r, f2_u, f2_l, mj_tg, mj_c1, mj_c2, mj_ar, mj_aw, mq_cb, mq_oi, mj_rm, Value.category, -getElem?_pos, List.getElem?_cons_zero, decide_eq_true, decide_eq_false, nl_lt, nl_le, ln_lt, ln_le, nl_eq, ln_eq, nl_add, ln_add, nl_sub, ln_mul, nI_sub, nI_mul, nI_add, nI_lt_iff, nI_le_iff, nI_inj, nI_num, mq_ix, nI_1, nl_mul, nl_div, x0, x1, v1, narrow]
  · by_cases h0 : n < 0
    · refine ⟨?_, by intro m hm; simp [h1, h0] at hm⟩
      simp (disch := (first | omega | decide)) [c76, s76_0, s76_1, s76_2, s76_5, s76_6, s76_9, s76_12, s76_13, s76_14, s76_17, s76_18, s76_19, s76_22, s76_25, s76_28, s76_29, s76_32, s76_33, mq_k0s, mq_k1s, mq_k2s, mq_k4s, mq_k5s, mq_k5n, mq_k5as, mq_k6s, mj_pu, mj_lo, mj_br, mj_hr, mj_hw, mq_gf, mq_len, mq_al, mq_pf, mq_ok, mj_re, mq_lkm, mq_lkn, mj_ldi, mj_ldl, mj_lda, mj_ii, mj_ll, mj_li, mj_i1, ms_1, ms_2, f1_n, f1_i, f1_r, f1_u, f1_l, f2_n, f2_i, f2_r, f2_u, f2_l, mj_tg, mj_c1, mj_c2, mj_ar, mj_aw, mq_cb, mq_oi, mj_rm, Value.category, -getElem?_pos, List.getElem?_cons_zero, decide_eq_true, decide_eq_false, nl_lt, nl_le, ln_lt, ln_le, nl_eq, ln_eq, nl_add, ln_add, nl_sub, ln_mul, nI_sub, nI_mul, nI_add, nI_lt_iff, nI_le_iff, nI_inj, nI_num, mq_ix, nI_1, nl_mul, nl_div, x0, x1, v1, h1, h0, narrow]
    · obtain ⟨k, hk, rfl⟩ := nI_of h0
      rw [if_neg h1, if_neg h0, nI_clamp hk]
      by_cases h2 : k ≤ H.1.length
      · refine ⟨?_, by intro m hm; rw [if_pos h2] at hm; cases hm; exact h2⟩
        simp (disch := (first | omega | decide)) [c76, s76_0, s76_1, s76_2, s76_5, s76_6, s76_9, s76_12, s76_13, s76_14, s76_17, s76_18, s76_19, s76_22, s76_25, s76_28, s76_29, s76_32, s76_33, mq_k0s, mq_k1s, mq_k2s, mq_k4s, mq_k5s, mq_k5n, mq_k5as, mq_k6s, mj_pu, mj_lo, mj_br, mj_hr, mj_hw, mq_gf, mq_len, mq_al, mq_pf, mq_ok, mj_re, mq_lkm, mq_lkn, mj_ldi, mj_ldl, mj_lda, mj_ii, mj_ll, mj_li, mj_i1, ms_1, ms_2, f1_n, f1_i, f1_r, f1_u, f1_l, f2_n, f2_i, f2_r, f2_u, f2_l, mj_tg, mj_c1, mj_c2, mj_ar, mj_aw, mq_cb, mq_oi, mj_rm, Value.category, -getElem?_pos, List.getElem?_cons_zero, decide_eq_true, decide_eq_false, nl_lt, nl_le, ln_lt, ln_le, nl_eq, ln_eq, nl_add, ln_add, nl_sub, ln_mul, nI_sub, nI_mul, nI_add, nI_lt_iff, nI_le_iff, nI_inj, nI_num, mq_ix, nI_1, nl_mul, nl_div, x0, x1, v1, h1, h0, h2, narrow]
      · refine ⟨?_, by intro m hm; rw [if_neg h2] at hm; cases hm⟩
        simp (disch := (first | omega | decide)) [c76, s76_0, s76_1, s76_2, s76_5, s76_6, s76_9, s76_12, s76_13, s76_14, s76_17, s76_18, s76_19, s76_22, s76_25, s76_28, s76_29, s76_32, s76_33, mq_k0s, mq_k1s, mq_k2s, mq_k4s, mq_k5s, mq_k5n, mq_k5as, mq_k6s, mj_pu, mj_lo, mj_br, mj_hr, mj_hw, mq_gf, mq_len, mq_al, mq_pf, mq_ok, mj_re, mq_lkm, mq_lkn, mj_ldi, mj_ldl, mj_lda, mj_ii, mj_ll, mj_li, mj_i1, ms_1, ms_2, f1_n, f1_i, f1_r, f1_u, f1_l, f2_n, f2_i, f2_r, f2_u, f2_l, mj_tg, mj_c1, mj_c2, mj_ar, mj_aw, mq_cb, mq_oi, mj_rm, Value.category, -getElem?_pos, List.getElem?_cons_zero, decide_eq_true, decide_eq_false, nl_lt, nl_le, ln_lt, ln_le, nl_eq, ln_eq, nl_add, ln_add, nl_sub, ln_mul, nI_sub, nI_mul, nI_add, nI_lt_iff, nI_le_iff, nI_inj, nI_num, mq_ix, nI_1, nl_mul, nl_div, x0, x1, v1, h1, h0, h2, narrow]
end HZ
end
/- 98.h2 -/
section
set_option maxRecDepth 512
/-! Class: the house: keys. -/
/- 67 PasskeyHouse.power(IZ)Z -/
theorem s67_0 {d : Nat} {ls : mj_L} {st : List Value} {M : mj_H} : mj_Rn d mj_m67 0 ls st M = mq_k0 d mj_m67 1 ls M (mj_lda (mj_lk ls 0) st) := mj_R0 (r := (.aload_n 0, 1, 0, 0, 0)) rfl rfl
theorem s67_1 {d : Nat} {ls : mj_L} {st : List Value} {M : mj_H} : mj_Rn d mj_m67 1 ls st M = mq_k0 d mj_m67 2 ls M (mj_ldi (mj_lk ls 1) st) := mj_R0 (r := (.iload_n 1, 1, 0, 0, 0)) rfl rfl
theorem s67_2 {d : Nat} {ls : mj_L} {st : List Value} {M : mj_H} : mj_Rn (d + 1) mj_m67 2 ls st M = mq_k5a (d + 1) mj_m67 5 ls M 68 (mq_cb 0 1 10 st M) := mj_R5e (r := (.invokevirtual 97, 3, 0, 68, 12393)) (z := mj_m68) rfl rfl (by decide) (by decide) rfl
theorem s67_5 {d : Nat} {ls : mj_L} {st : List Value} {M : mj_H} : mj_Rn d mj_m67 5 ls st M = mq_k1 d mj_m67 6 M (mj_lo 4 (.astore 3) ls st) := (mj_R1 (r := (.astore_n 3, 1, 0, 0, 0)) rfl rfl).trans (congrArg (mq_k1 d mj_m67 6 M) (mq_sta (k := 3)))
theorem s67_6 {d : Nat} {ls : mj_L} {st : List Value} {M : mj_H} : mj_Rn d mj_m67 6 ls st M = mq_k0 d mj_m67 7 ls M (mj_lda (mj_lk ls 3) st) := mj_R0 (r := (.aload_n 3, 1, 0, 0, 0)) rfl rfl
theorem s67_7 {d : Nat} {ls : mj_L} {st : List Value} {M : mj_H} : mj_Rn d mj_m67 7 ls st M = mq_k2 d mj_m67 ls M (mj_br (.ifnonnull 5) 7 st) := mj_R2 (r := (.ifnonnull 5, 3, 0, 0, 0)) rfl rfl
theorem s67_10 {d : Nat} {ls : mj_L} {st : List Value} {M : mj_H} : mj_Rn d mj_m67 10 ls st M = mj_Rn d mj_m67 11 ls (.int 0 :: st) M := mj_R0 (r := (.iconst 0, 1, 0, 0, 0)) rfl rfl
theorem s67_11 {d : Nat} {ls : mj_L} {st : List Value} {M : mj_H} : mj_Rn d mj_m67 11 ls st M = mq_k6 M (mj_re (some .boolean) (.ireturn) st) := mj_R6 (r := (.ireturn, 1, 0, 0, 0)) rfl rfl
theorem s67_12 {d : Nat} {ls : mj_L} {st : List Value} {M : mj_H} : mj_Rn d mj_m67 12 ls st M = mq_k0 d mj_m67 13 ls M (mj_lda (mj_lk ls 3) st) := mj_R0 (r := (.aload_n 3, 1, 0, 0, 0)) rfl rfl
theorem s67_13 {d : Nat} {ls : mj_L} {st : List Value} {M : mj_H} : mj_Rn d mj_m67 13 ls st M = mq_k0 d mj_m67 14 ls M (mj_ldi (mj_lk ls 2) st) := mj_R0 (r := (.iload_n 2, 1, 0, 0, 0)) rfl rfl
theorem s67_14 {d : Nat} {ls : mj_L} {st : List Value} {M : mj_H} : mj_Rn (d + 1) mj_m67 14 ls st M = mq_k5a (d + 1) mj_m67 17 ls M 69 (mq_cb 0 1 5 st M) := mj_R5e (r := (.invokevirtual 101, 3, 0, 69, 12397)) (z := mj_m69) rfl rfl (by decide) (by decide) rfl
theorem s67_17 {d : Nat} {ls : mj_L} {st : List Value} {M : mj_H} : mj_Rn d mj_m67 17 ls st M = mq_k0 d mj_m67 18 ls M (mj_lda (mj_lk ls 3) st) := mj_R0 (r := (.aload_n 3, 1, 0, 0, 0)) rfl rfl
theorem s67_18 {d : Nat} {ls : mj_L} {st : List Value} {M : mj_H} : mj_Rn (d + 1) mj_m67 18 ls st M = mq_k5a (d + 1) mj_m67 21 ls M 70 (mq_cb 0 0 5 st M) := mj_R5e (r := (.invokevirtual 105, 3, 0, 70, 12401)) (z := mj_m70) rfl rfl (by decide) (by decide) rfl
theorem s67_21 {d : Nat} {ls : mj_L} {st : List Value} {M : mj_H} : mj_Rn d mj_m67 21 ls st M = mq_k6 M (mj_re (some .boolean) (.ireturn) st) := mj_R6 (r := (.ireturn, 1, 0, 0, 0)) rfl rfl
/- 71 PasskeyHouse.press(I)I -/
theorem s71_0 {d : Nat} {ls : mj_L} {st : List Value} {M : mj_H} : mj_Rn d mj_m71 0 ls st M = mq_k0 d mj_m71 1 ls M (mj_lda (mj_lk ls 0) st) := mj_R0 (r := (.aload_n 0, 1, 0, 0, 0)) rfl rfl
theorem s71_1 {d : Nat} {ls : mj_L} {st : List Value} {M : mj_H} : mj_Rn d mj_m71 1 ls st M = mq_k0 d mj_m71 2 ls M (mj_ldi (mj_lk ls 1) st) := mj_R0 (r := (.iload_n 1, 1, 0, 0, 0)) rfl rfl
theorem s71_2 {d : Nat} {ls : mj_L} {st : List Value} {M : mj_H} : mj_Rn (d + 1) mj_m71 2 ls st M = mq_k5a (d + 1) mj_m71 5 ls M 68 (mq_cb 0 1 10 st M) := mj_R5e (r := (.invokevirtual 97, 3, 0, 68, 12393)) (z := mj_m68) rfl rfl (by decide) (by decide) rfl
theorem s71_5 {d : Nat} {ls : mj_L} {st : List Value} {M : mj_H} : mj_Rn d mj_m71 5 ls st M = mq_k1 d mj_m71 6 M (mj_lo 3 (.astore 2) ls st) := (mj_R1 (r := (.astore_n 2, 1, 0, 0, 0)) rfl rfl).trans (congrArg (mq_k1 d mj_m71 6 M) (mq_sta (k := 2)))
theorem s71_6 {d : Nat} {ls : mj_L} {st : List Value} {M : mj_H} : mj_Rn d mj_m71 6 ls st M = mq_k0 d mj_m71 7 ls M (mj_lda (mj_lk ls 2) st) := mj_R0 (r := (.aload_n 2, 1, 0, 0, 0)) rfl rfl
theorem s71_7 {d : Nat} {ls : mj_L} {st : List Value} {M : mj_H} : mj_Rn d mj_m71 7 ls st M = mq_k2 d mj_m71 ls M (mj_br (.ifnonnull 7) 7 st) := mj_R2 (r := (.ifnonnull 7, 3, 0, 0, 0)) rfl rfl
theorem s71_10 {d : Nat} {ls : mj_L} {st : List Value} {M : mj_H} : mj_Rn d mj_m71 10 ls st M = mj_Rn d mj_m71 11 ls (.int (-1) :: st) M := mj_R0 (r := (.iconst (-1), 1, 0, 0, 0)) rfl rfl
theorem s71_11 {d : Nat} {ls : mj_L} {st : List Value} {M : mj_H} : mj_Rn d mj_m71 11 ls st M = mj_Rn d mj_m71 18 ls st M := mj_R2 (r := (.goto 7, 3, 0, 0, 0)) rfl rfl
theorem s71_14 {d : Nat} {ls : mj_L} {st : List Value} {M : mj_H} : mj_Rn d mj_m71 14 ls st M = mq_k0 d mj_m71 15 ls M (mj_lda (mj_lk ls 2) st) := mj_R0 (r := (.aload_n 2, 1, 0, 0, 0)) rfl rfl
theorem s71_15 {d : Nat} {ls : mj_L} {st : List Value} {M : mj_H} : mj_Rn (d + 1) mj_m71 15 ls st M = mq_k5a (d + 1) mj_m71 18 ls M 72 (mq_cb 0 0 5 st M) := mj_R5e (r := (.invokevirtual 109, 3, 0, 72, 12409)) (z := mj_m72) rfl rfl (by decide) (by decide) rfl
theorem s71_18 {d : Nat} {ls : mj_L} {st : List Value} {M : mj_H} : mj_Rn d mj_m71 18 ls st M = mq_k6 M (mj_re (some .int) (.ireturn) st) := mj_R6 (r := (.ireturn, 1, 0, 0, 0)) rfl rfl
/- 73 PasskeyHouse.cut(II)Z -/
theorem s73_0 {d : Nat} {ls : mj_L} {st : List Value} {M : mj_H} : mj_Rn d mj_m73 0 ls st M = mq_k0 d mj_m73 1 ls M (mj_lda (mj_lk ls 0) st) := mj_R0 (r := (.aload_n 0, 1, 0, 0, 0)) rfl rfl
theorem s73_1 {d : Nat} {ls : mj_L} {st : List Value} {M : mj_H} : mj_Rn d mj_m73 1 ls st M = mq_k0 d mj_m73 2 ls M (mj_ldi (mj_lk ls 1) st) := mj_R0 (r := (.iload_n 1, 1, 0, 0, 0)) rfl rfl
theorem s73_2 {d : Nat} {ls : mj_L} {st : List Value} {M : mj_H} : mj_Rn (d + 1) mj_m73 2 ls st M = mq_k5a (d + 1) mj_m73 5 ls M 68 (mq_cb 0 1 10 st M) := mj_R5e (r := (.invokevirtual 97, 3, 0, 68, 12393)) (z := mj_m68) rfl rfl (by decide) (by decide) rfl
theorem s73_5 {d : Nat} {ls : mj_L} {st : List Value} {M : mj_H} : mj_Rn d mj_m73 5 ls st M = mq_k1 d mj_m73 6 M (mj_lo 4 (.astore 3) ls st) := (mj_R1 (r := (.astore_n 3, 1, 0, 0, 0)) rfl rfl).trans (congrArg (mq_k1 d mj_m73 6 M) (mq_sta (k := 3)))
theorem s73_6 {d : Nat} {ls : mj_L} {st : List Value} {M : mj_H} : mj_Rn d mj_m73 6 ls st M = mq_k0 d mj_m73 7 ls M (mj_lda (mj_lk ls 3) st) := mj_R0 (r := (.aload_n 3, 1, 0, 0, 0)) rfl rfl
theorem s73_7 {d : Nat} {ls : mj_L} {st : List Value} {M : mj_H} : mj_Rn d mj_m73 7 ls st M = mq_k2 d mj_m73 ls M (mj_br (.ifnull 14) 7 st) := mj_R2 (r := (.ifnull 14, 3, 0, 0, 0)) rfl rfl
theorem s73_10 {d : Nat} {ls : mj_L} {st : List Value} {M : mj_H} : mj_Rn d mj_m73 10 ls st M = mq_k0 d mj_m73 11 ls M (mj_ldi (mj_lk ls 2) st) := mj_R0 (r := (.iload_n 2, 1, 0, 0, 0)) rfl rfl
theorem s73_11 {d : Nat} {ls : mj_L} {st : List Value} {M : mj_H} : mj_Rn d mj_m73 11 ls st M = mj_Rn d mj_m73 12 ls (.int (-1) :: st) M := mj_R0 (r := (.iconst (-1), 1, 0, 0, 0)) rfl rfl
theorem s73_12 {d : Nat} {ls : mj_L} {st : List Value} {M : mj_H} : mj_Rn d mj_m73 12 ls st M = mj_Rn d mj_m73 15 ls (.int 2000 :: st) M := mj_R0 (r := (.sipush 2000, 3, 0, 0, 0)) rfl rfl
theorem s73_15 {d : Nat} {ls : mj_L} {st : List Value} {M : mj_H} : mj_Rn (d + 1) mj_m73 15 ls st M = mq_k5a (d + 1) mj_m73 18 ls M 8 (mq_cb 2 3 10 st M) := mj_R5e (r := (.invokestatic 61, 3, 2, 8, 4275)) (z := mj_m8) rfl rfl (by decide) (by decide) rfl
theorem s73_18 {d : Nat} {ls : mj_L} {st : List Value} {M : mj_H} : mj_Rn d mj_m73 18 ls st M = mq_k2 d mj_m73 ls M (mj_br (.ifCond .ne 5) 18 st) := mj_R2 (r := (.ifCond .ne 5, 3, 0, 0, 0)) rfl rfl
theorem s73_21 {d : Nat} {ls : mj_L} {st : List Value} {M : mj_H} : mj_Rn d mj_m73 21 ls st M = mj_Rn d mj_m73 22 ls (.int 0 :: st) M := mj_R0 (r := (.iconst 0, 1, 0, 0, 0)) rfl rfl
theorem s73_22 {d : Nat} {ls : mj_L} {st : List Value} {M : mj_H} : mj_Rn d mj_m73 22 ls st M = mq_k6 M (mj_re (some .boolean) (.ireturn) st) := mj_R6 (r := (.ireturn, 1, 0, 0, 0)) rfl rfl
theorem s73_23 {d : Nat} {ls : mj_L} {st : List Value} {M : mj_H} : mj_Rn d mj_m73 23 ls st M = mq_k0 d mj_m73 24 ls M (mj_lda (mj_lk ls 3) st) := mj_R0 (r := (.aload_n 3, 1, 0, 0, 0)) rfl rfl
theorem s73_24 {d : Nat} {ls : mj_L} {st : List Value} {M : mj_H} : mj_Rn d mj_m73 24 ls st M = mq_k0 d mj_m73 25 ls M (mj_ldi (mj_lk ls 2) st) := mj_R0 (r := (.iload_n 2, 1, 0, 0, 0)) rfl rfl
theorem s73_25 {d : Nat} {ls : mj_L} {st : List Value} {M : mj_H} : mj_Rn (d + 1) mj_m73 25 ls st M = mq_k5a (d + 1) mj_m73 28 ls M 74 (mq_cb 0 1 5 st M) := mj_R5e (r := (.invokevirtual 112, 3, 0, 74, 12417)) (z := mj_m74) rfl rfl (by decide) (by decide) rfl
theorem s73_28 {d : Nat} {ls : mj_L} {st : List Value} {M : mj_H} : mj_Rn d mj_m73 28 ls st M = mj_Rn d mj_m73 29 ls (.int 1 :: st) M := mj_R0 (r := (.iconst 1, 1, 0, 0, 0)) rfl rfl
theorem s73_29 {d : Nat} {ls : mj_L} {st : List Value} {M : mj_H} : mj_Rn d mj_m73 29 ls st M = mq_k6 M (mj_re (some .boolean) (.ireturn) st) := mj_R6 (r := (.ireturn, 1, 0, 0, 0)) rfl rfl
/- 75 PasskeyHouse.command(II)I -/
theorem s75_0 {d : Nat} {ls : mj_L} {st : List Value} {M : mj_H} : mj_Rn d mj_m75 0 ls st M = mq_k0 d mj_m75 1 ls M (mj_lda (mj_lk ls 0) st) := mj_R0 (r := (.aload_n 0, 1, 0, 0, 0)) rfl rfl
theorem s75_1 {d : Nat} {ls : mj_L} {st : List Value} {M : mj_H} : mj_Rn d mj_m75 1 ls st M = mq_k0 d mj_m75 2 ls M (mj_ldi (mj_lk ls 1) st) := mj_R0 (r := (.iload_n 1, 1, 0, 0, 0)) rfl rfl
theorem s75_2 {d : Nat} {ls : mj_L} {st : List Value} {M : mj_H} : mj_Rn (d + 1) mj_m75 2 ls st M = mq_k5a (d + 1) mj_m75 5 ls M 68 (mq_cb 0 1 10 st M) := mj_R5e (r := (.invokevirtual 97, 3, 0, 68, 12393)) (z := mj_m68) rfl rfl (by decide) (by decide) rfl
theorem s75_5 {d : Nat} {ls : mj_L} {st : List Value} {M : mj_H} : mj_Rn d mj_m75 5 ls st M = mq_k1 d mj_m75 6 M (mj_lo 6 (.astore 3) ls st) := (mj_R1 (r := (.astore_n 3, 1, 0, 0, 0)) rfl rfl).trans (congrArg (mq_k1 d mj_m75 6 M) (mq_sta (k := 3)))
theorem s75_6 {d : Nat} {ls : mj_L} {st : List Value} {M : mj_H} : mj_Rn d mj_m75 6 ls st M = mq_k0 d mj_m75 7 ls M (mj_lda (mj_lk ls 0) st) := mj_R0 (r := (.aload_n 0, 1, 0, 0, 0)) rfl rfl
theorem s75_7 {d : Nat} {ls : mj_L} {st : List Value} {M : mj_H} : mj_Rn d mj_m75 7 ls st M = mq_k0 d mj_m75 8 ls M (mj_ldi (mj_lk ls 2) st) := mj_R0 (r := (.iload_n 2, 1, 0, 0, 0)) rfl rfl
theorem s75_8 {d : Nat} {ls : mj_L} {st : List Value} {M : mj_H} : mj_Rn (d + 1) mj_m75 8 ls st M = mq_k5a (d + 1) mj_m75 11 ls M 76 (mq_cb 0 1 10 st M) := mj_R5e (r := (.invokevirtual 115, 3, 0, 76, 12425)) (z := mj_m76) rfl rfl (by decide) (by decide) rfl
theorem s75_11 {d : Nat} {ls : mj_L} {st : List Value} {M : mj_H} : mj_Rn d mj_m75 11 ls st M = mq_k1 d mj_m75 13 M (mj_lo 6 (.istore 4) ls st) := mj_R1 (r := (.istore 4, 2, 0, 0, 0)) rfl rfl
theorem s75_13 {d : Nat} {ls : mj_L} {st : List Value} {M : mj_H} : mj_Rn d mj_m75 13 ls st M = mq_k0 d mj_m75 14 ls M (mj_lda (mj_lk ls 3) st) := mj_R0 (r := (.aload_n 3, 1, 0, 0, 0)) rfl rfl
theorem s75_14 {d : Nat} {ls : mj_L} {st : List Value} {M : mj_H} : mj_Rn d mj_m75 14 ls st M = mq_k2 d mj_m75 ls M (mj_br (.ifnull 9) 14 st) := mj_R2 (r := (.ifnull 9, 3, 0, 0, 0)) rfl rfl
theorem s75_17 {d : Nat} {ls : mj_L} {st : List Value} {M : mj_H} : mj_Rn d mj_m75 17 ls st M = mq_k0 d mj_m75 19 ls M (mj_ldi (mj_lk ls 4) st) := mj_R0 (r := (.iload 4, 2, 0, 0, 0)) rfl rfl
theorem s75_19 {d : Nat} {ls : mj_L} {st : List Value} {M : mj_H} : mj_Rn d mj_m75 19 ls st M = mj_Rn d mj_m75 20 ls (.int (-1) :: st) M := mj_R0 (r := (.iconst (-1), 1, 0, 0, 0)) rfl rfl
theorem s75_20 {d : Nat} {ls : mj_L} {st : List Value} {M : mj_H} : mj_Rn d mj_m75 20 ls st M = mq_k2 d mj_m75 ls M (mj_br (.if_icmp .ne 5) 20 st) := mj_R2 (r := (.if_icmp .ne 5, 3, 0, 0, 0)) rfl rfl
theorem s75_23 {d : Nat} {ls : mj_L} {st : List Value} {M : mj_H} : mj_Rn d mj_m75 23 ls st M = mj_Rn d mj_m75 24 ls (.int (-1) :: st) M := mj_R0 (r := (.iconst (-1), 1, 0, 0, 0)) rfl rfl
theorem s75_24 {d : Nat} {ls : mj_L} {st : List Value} {M : mj_H} : mj_Rn d mj_m75 24 ls st M = mq_k6 M (mj_re (some .int) (.ireturn) st) := mj_R6 (r := (.ireturn, 1, 0, 0, 0)) rfl rfl
theorem s75_25 {d : Nat} {ls : mj_L} {st : List Value} {M : mj_H} : mj_Rn d mj_m75 25 ls st M = mq_k0 d mj_m75 26 ls M (mj_lda (mj_lk ls 0) st) := mj_R0 (r := (.aload_n 0, 1, 0, 0, 0)) rfl rfl
theorem s75_26 {d : Nat} {ls : mj_L} {st : List Value} {M : mj_H} : mj_Rn d mj_m75 26 ls st M = mq_k0 d mj_m75 29 ls M (mq_gf 10 1 st M) := (mj_R3 (r := (.getfield 18, 3, 10, 1, 8488)) rfl rfl).trans (congrArg (mq_k0 d mj_m75 29 ls M) mq_gf_eq)
theorem s75_29 {d : Nat} {ls : mj_L} {st : List Value} {M : mj_H} : mj_Rn (d + 1) mj_m75 29 ls st M = mq_k5a (d + 1) mj_m75 32 ls M 12 (mq_cb 0 0 1 st M) := mj_R5e (r := (.invokevirtual 73, 3, 0, 12, 4290)) (z := mj_m12) rfl rfl (by decide) (by decide) rfl
theorem s75_32 {d : Nat} {ls : mj_L} {st : List Value} {M : mj_H} : mj_Rn d mj_m75 32 ls st M = mq_k0 d mj_m75 33 ls M (mj_lda (mj_lk ls 0) st) := mj_R0 (r := (.aload_n 0, 1, 0, 0, 0)) rfl rfl
theorem s75_33 {d : Nat} {ls : mj_L} {st : List Value} {M : mj_H} : mj_Rn d mj_m75 33 ls st M = mq_k0 d mj_m75 36 ls M (mq_gf 10 1 st M) := (mj_R3 (r := (.getfield 18, 3, 10, 1, 8488)) rfl rfl).trans (congrArg (mq_k0 d mj_m75 36 ls M) mq_gf_eq)
theorem s75_36 {d : Nat} {ls : mj_L} {st : List Value} {M : mj_H} : mj_Rn d mj_m75 36 ls st M = mq_k0 d mj_m75 37 ls M (mj_lda (mj_lk ls 0) st) := mj_R0 (r := (.aload_n 0, 1, 0, 0, 0)) rfl rfl
theorem s75_37 {d : Nat} {ls : mj_L} {st : List Value} {M : mj_H} : mj_Rn d mj_m75 37 ls st M = mq_k0 d mj_m75 40 ls M (mq_gf 10 0 st M) := (mj_R3 (r := (.getfield 14, 3, 10, 0, 8486)) rfl rfl).trans (congrArg (mq_k0 d mj_m75 40 ls M) mq_gf_eq)
theorem s75_40 {d : Nat} {ls : mj_L} {st : List Value} {M : mj_H} : mj_Rn d mj_m75 40 ls st M = mj_Rn d mj_m75 41 ls (.int 0 :: st) M := mj_R0 (r := (.iconst 0, 1, 0, 0, 0)) rfl rfl
theorem s75_41 {d : Nat} {ls : mj_L} {st : List Value} {M : mj_H} : mj_Rn d mj_m75 41 ls st M = mq_k0 d mj_m75 43 ls M (mj_ldi (mj_lk ls 4) st) := mj_R0 (r := (.iload 4, 2, 0, 0, 0)) rfl rfl
theorem s75_43 {d : Nat} {ls : mj_L} {st : List Value} {M : mj_H} : mj_Rn (d + 1) mj_m75 43 ls st M = mq_k5a (d + 1) mj_m75 46 ls M 77 (mq_cb 0 3 1 st M) := mj_R5e (r := (.invokevirtual 118, 3, 0, 77, 12429)) (z := mj_m77) rfl rfl (by decide) (by decide) rfl
theorem s75_46 {d : Nat} {ls : mj_L} {st : List Value} {M : mj_H} : mj_Rn d mj_m75 46 ls st M = mq_k0 d mj_m75 47 ls M (mj_lda (mj_lk ls 3) st) := mj_R0 (r := (.aload_n 3, 1, 0, 0, 0)) rfl rfl
theorem s75_47 {d : Nat} {ls : mj_L} {st : List Value} {M : mj_H} : mj_Rn d mj_m75 47 ls st M = mq_k0 d mj_m75 48 ls M (mj_lda (mj_lk ls 0) st) := mj_R0 (r := (.aload_n 0, 1, 0, 0, 0)) rfl rfl
theorem s75_48 {d : Nat} {ls : mj_L} {st : List Value} {M : mj_H} : mj_Rn d mj_m75 48 ls st M = mq_k0 d mj_m75 51 ls M (mq_gf 10 1 st M) := (mj_R3 (r := (.getfield 18, 3, 10, 1, 8488)) rfl rfl).trans (congrArg (mq_k0 d mj_m75 51 ls M) mq_gf_eq)
theorem s75_51 {d : Nat} {ls : mj_L} {st : List Value} {M : mj_H} : mj_Rn (d + 1) mj_m75 51 ls st M = mq_k5a (d + 1) mj_m75 54 ls M 78 (mq_cb 0 1 5 st M) := mj_R5e (r := (.invokevirtual 122, 3, 0, 78, 12435)) (z := mj_m78) rfl rfl (by decide) (by decide) rfl
theorem s75_54 {d : Nat} {ls : mj_L} {st : List Value} {M : mj_H} : mj_Rn d mj_m75 54 ls st M = mq_k1 d mj_m75 56 M (mj_lo 6 (.istore 5) ls st) := mj_R1 (r := (.istore 5, 2, 0, 0, 0)) rfl rfl
theorem s75_56 {d : Nat} {ls : mj_L} {st : List Value} {M : mj_H} : mj_Rn d mj_m75 56 ls st M = mq_k0 d mj_m75 58 ls M (mj_ldi (mj_lk ls 5) st) := mj_R0 (r := (.iload 5, 2, 0, 0, 0)) rfl rfl
theorem s75_58 {d : Nat} {ls : mj_L} {st : List Value} {M : mj_H} : mj_Rn d mj_m75 58 ls st M = mj_Rn d mj_m75 60 ls (.int (-3) :: st) M := mj_R0 (r := (.bipush (-3), 2, 0, 0, 0)) rfl rfl
theorem s75_60 {d : Nat} {ls : mj_L} {st : List Value} {M : mj_H} : mj_Rn d mj_m75 60 ls st M = mq_k2 d mj_m75 ls M (mj_br (.if_icmp .ne 8) 60 st) := mj_R2 (r := (.if_icmp .ne 8, 3, 0, 0, 0)) rfl rfl
theorem s75_63 {d : Nat} {ls : mj_L} {st : List Value} {M : mj_H} : mj_Rn d mj_m75 63 ls st M = mj_Rn d mj_m75 65 ls (.int (-3) :: st) M := mj_R0 (r := (.bipush (-3), 2, 0, 0, 0)) rfl rfl
theorem s75_65 {d : Nat} {ls : mj_L} {st : List Value} {M : mj_H} : mj_Rn d mj_m75 65 ls st M = mj_Rn d mj_m75 75 ls st M := mj_R2 (r := (.goto 10, 3, 0, 0, 0)) rfl rfl
theorem s75_68 {d : Nat} {ls : mj_L} {st : List Value} {M : mj_H} : mj_Rn d mj_m75 68 ls st M = mq_k0 d mj_m75 69 ls M (mj_lda (mj_lk ls 3) st) := mj_R0 (r := (.aload_n 3, 1, 0, 0, 0)) rfl rfl
theorem s75_69 {d : Nat} {ls : mj_L} {st : List Value} {M : mj_H} : mj_Rn d mj_m75 69 ls st M = mq_k0 d mj_m75 72 ls M (mq_gf 5 3 st M) := (mj_R3 (r := (.getfield 126, 3, 5, 3, 16607)) rfl rfl).trans (congrArg (mq_k0 d mj_m75 72 ls M) mq_gf_eq)
theorem s75_72 {d : Nat} {ls : mj_L} {st : List Value} {M : mj_H} : mj_Rn (d + 1) mj_m75 72 ls st M = mq_k5a (d + 1) mj_m75 75 ls M 9 (mq_cb 0 0 1 st M) := mj_R5e (r := (.invokevirtual 65, 3, 0, 9, 4278)) (z := mj_m9) rfl rfl (by decide) (by decide) rfl
theorem s75_75 {d : Nat} {ls : mj_L} {st : List Value} {M : mj_H} : mj_Rn d mj_m75 75 ls st M = mq_k6 M (mj_re (some .int) (.ireturn) st) := mj_R6 (r := (.ireturn, 1, 0, 0, 0)) rfl rfl
/- 158 PasskeyHouse.answer(II)I -/
theorem s158_0 {d : Nat} {ls : mj_L} {st : List Value} {M : mj_H} : mj_Rn d mj_m158 0 ls st M = mq_k0 d mj_m158 1 ls M (mj_lda (mj_lk ls 0) st) := mj_R0 (r := (.aload_n 0, 1, 0, 0, 0)) rfl rfl
theorem s158_1 {d : Nat} {ls : mj_L} {st : List Value} {M : mj_H} : mj_Rn d mj_m158 1 ls st M = mq_k0 d mj_m158 2 ls M (mj_ldi (mj_lk ls 1) st) := mj_R0 (r := (.iload_n 1, 1, 0, 0, 0)) rfl rfl
theorem s158_2 {d : Nat} {ls : mj_L} {st : List Value} {M : mj_H} : mj_Rn (d + 1) mj_m158 2 ls st M = mq_k5a (d + 1) mj_m158 5 ls M 68 (mq_cb 0 1 10 st M) := mj_R5e (r := (.invokevirtual 97, 3, 0, 68, 12393)) (z := mj_m68) rfl rfl (by decide) (by decide) rfl
theorem s158_5 {d : Nat} {ls : mj_L} {st : List Value} {M : mj_H} : mj_Rn d mj_m158 5 ls st M = mq_k1 d mj_m158 6 M (mj_lo 4 (.astore 3) ls st) := (mj_R1 (r := (.astore_n 3, 1, 0, 0, 0)) rfl rfl).trans (congrArg (mq_k1 d mj_m158 6 M) (mq_sta (k := 3)))
theorem s158_6 {d : Nat} {ls : mj_L} {st : List Value} {M : mj_H} : mj_Rn d mj_m158 6 ls st M = mq_k0 d mj_m158 7 ls M (mj_lda (mj_lk ls 3) st) := mj_R0 (r := (.aload_n 3, 1, 0, 0, 0)) rfl rfl
theorem s158_7 {d : Nat} {ls : mj_L} {st : List Value} {M : mj_H} : mj_Rn d mj_m158 7 ls st M = mq_k2 d mj_m158 ls M (mj_br (.ifnonnull 7) 7 st) := mj_R2 (r := (.ifnonnull 7, 3, 0, 0, 0)) rfl rfl
theorem s158_10 {d : Nat} {ls : mj_L} {st : List Value} {M : mj_H} : mj_Rn d mj_m158 10 ls st M = mj_Rn d mj_m158 11 ls (.int (-1) :: st) M := mj_R0 (r := (.iconst (-1), 1, 0, 0, 0)) rfl rfl
theorem s158_11 {d : Nat} {ls : mj_L} {st : List Value} {M : mj_H} : mj_Rn d mj_m158 11 ls st M = mj_Rn d mj_m158 22 ls st M := mj_R2 (r := (.goto 11, 3, 0, 0, 0)) rfl rfl
theorem s158_14 {d : Nat} {ls : mj_L} {st : List Value} {M : mj_H} : mj_Rn d mj_m158 14 ls st M = mq_k0 d mj_m158 15 ls M (mj_lda (mj_lk ls 3) st) := mj_R0 (r := (.aload_n 3, 1, 0, 0, 0)) rfl rfl
theorem s158_15 {d : Nat} {ls : mj_L} {st : List Value} {M : mj_H} : mj_Rn d mj_m158 15 ls st M = mq_k0 d mj_m158 18 ls M (mq_gf 5 3 st M) := (mj_R3 (r := (.getfield 126, 3, 5, 3, 16607)) rfl rfl).trans (congrArg (mq_k0 d mj_m158 18 ls M) mq_gf_eq)
theorem s158_18 {d : Nat} {ls : mj_L} {st : List Value} {M : mj_H} : mj_Rn d mj_m158 18 ls st M = mq_k0 d mj_m158 19 ls M (mj_ldi (mj_lk ls 2) st) := mj_R0 (r := (.iload_n 2, 1, 0, 0, 0)) rfl rfl
theorem s158_19 {d : Nat} {ls : mj_L} {st : List Value} {M : mj_H} : mj_Rn (d + 1) mj_m158 19 ls st M = mq_k5a (d + 1) mj_m158 22 ls M 14 (mq_cb 0 1 1 st M) := mj_R5e (r := (.invokevirtual 76, 3, 0, 14, 4298)) (z := mj_m14) rfl rfl (by decide) (by decide) rfl
theorem s158_22 {d : Nat} {ls : mj_L} {st : List Value} {M : mj_H} : mj_Rn d mj_m158 22 ls st M = mq_k6 M (mj_re (some .int) (.ireturn) st) := mj_R6 (r := (.ireturn, 1, 0, 0, 0)) rfl rfl
/- 159 PasskeyHouse.take(I)I -/
theorem s159_0 {d : Nat} {ls : mj_L} {st : List Value} {M : mj_H} : mj_Rn d mj_m159 0 ls st M = mq_k0 d mj_m159 1 ls M (mj_lda (mj_lk ls 0) st) := mj_R0 (r := (.aload_n 0, 1, 0, 0, 0)) rfl rfl
theorem s159_1 {d : Nat} {ls : mj_L} {st : List Value} {M : mj_H} : mj_Rn d mj_m159 1 ls st M = mq_k0 d mj_m159 2 ls M (mj_ldi (mj_lk ls 1) st) := mj_R0 (r := (.iload_n 1, 1, 0, 0, 0)) rfl rfl
theorem s159_2 {d : Nat} {ls : mj_L} {st : List Value} {M : mj_H} : mj_Rn (d + 1) mj_m159 2 ls st M = mq_k5a (d + 1) mj_m159 5 ls M 68 (mq_cb 0 1 10 st M) := mj_R5e (r := (.invokevirtual 97, 3, 0, 68, 12393)) (z := mj_m68) rfl rfl (by decide) (by decide) rfl
theorem s159_5 {d : Nat} {ls : mj_L} {st : List Value} {M : mj_H} : mj_Rn d mj_m159 5 ls st M = mq_k1 d mj_m159 6 M (mj_lo 3 (.astore 2) ls st) := (mj_R1 (r := (.astore_n 2, 1, 0, 0, 0)) rfl rfl).trans (congrArg (mq_k1 d mj_m159 6 M) (mq_sta (k := 2)))
theorem s159_6 {d : Nat} {ls : mj_L} {st : List Value} {M : mj_H} : mj_Rn d mj_m159 6 ls st M = mq_k0 d mj_m159 7 ls M (mj_lda (mj_lk ls 2) st) := mj_R0 (r := (.aload_n 2, 1, 0, 0, 0)) rfl rfl
theorem s159_7 {d : Nat} {ls : mj_L} {st : List Value} {M : mj_H} : mj_Rn d mj_m159 7 ls st M = mq_k2 d mj_m159 ls M (mj_br (.ifnull 13) 7 st) := mj_R2 (r := (.ifnull 13, 3, 0, 0, 0)) rfl rfl
theorem s159_10 {d : Nat} {ls : mj_L} {st : List Value} {M : mj_H} : mj_Rn d mj_m159 10 ls st M = mq_k0 d mj_m159 11 ls M (mj_lda (mj_lk ls 2) st) := mj_R0 (r := (.aload_n 2, 1, 0, 0, 0)) rfl rfl
theorem s159_11 {d : Nat} {ls : mj_L} {st : List Value} {M : mj_H} : mj_Rn d mj_m159 11 ls st M = mq_k0 d mj_m159 14 ls M (mq_gf 5 3 st M) := (mj_R3 (r := (.getfield 126, 3, 5, 3, 16607)) rfl rfl).trans (congrArg (mq_k0 d mj_m159 14 ls M) mq_gf_eq)
theorem s159_14 {d : Nat} {ls : mj_L} {st : List Value} {M : mj_H} : mj_Rn (d + 1) mj_m159 14 ls st M = mq_k5a (d + 1) mj_m159 17 ls M 9 (mq_cb 0 0 1 st M) := mj_R5e (r := (.invokevirtual 65, 3, 0, 9, 4278)) (z := mj_m9) rfl rfl (by decide) (by decide) rfl
theorem s159_17 {d : Nat} {ls : mj_L} {st : List Value} {M : mj_H} : mj_Rn d mj_m159 17 ls st M = mq_k2 d mj_m159 ls M (mj_br (.ifCond .ne 5) 17 st) := mj_R2 (r := (.ifCond .ne 5, 3, 0, 0, 0)) rfl rfl
theorem s159_20 {d : Nat} {ls : mj_L} {st : List Value} {M : mj_H} : mj_Rn d mj_m159 20 ls st M = mj_Rn d mj_m159 21 ls (.int (-1) :: st) M := mj_R0 (r := (.iconst (-1), 1, 0, 0, 0)) rfl rfl
theorem s159_21 {d : Nat} {ls : mj_L} {st : List Value} {M : mj_H} : mj_Rn d mj_m159 21 ls st M = mq_k6 M (mj_re (some .int) (.ireturn) st) := mj_R6 (r := (.ireturn, 1, 0, 0, 0)) rfl rfl
theorem s159_22 {d : Nat} {ls : mj_L} {st : List Value} {M : mj_H} : mj_Rn d mj_m159 22 ls st M = mq_k0 d mj_m159 23 ls M (mj_lda (mj_lk ls 0) st) := mj_R0 (r := (.aload_n 0, 1, 0, 0, 0)) rfl rfl
theorem s159_23 {d : Nat} {ls : mj_L} {st : List Value} {M : mj_H} : mj_Rn d mj_m159 23 ls st M = mq_k0 d mj_m159 26 ls M (mq_gf 10 0 st M) := (mj_R3 (r := (.getfield 14, 3, 10, 0, 8486)) rfl rfl).trans (congrArg (mq_k0 d mj_m159 26 ls M) mq_gf_eq)
theorem s159_26 {d : Nat} {ls : mj_L} {st : List Value} {M : mj_H} : mj_Rn (d + 1) mj_m159 26 ls st M = mq_k5a (d + 1) mj_m159 29 ls M 12 (mq_cb 0 0 1 st M) := mj_R5e (r := (.invokevirtual 73, 3, 0, 12, 4290)) (z := mj_m12) rfl rfl (by decide) (by decide) rfl
theorem s159_29 {d : Nat} {ls : mj_L} {st : List Value} {M : mj_H} : mj_Rn d mj_m159 29 ls st M = mq_k0 d mj_m159 30 ls M (mj_lda (mj_lk ls 0) st) := mj_R0 (r := (.aload_n 0, 1, 0, 0, 0)) rfl rfl
theorem s159_30 {d : Nat} {ls : mj_L} {st : List Value} {M : mj_H} : mj_Rn d mj_m159 30 ls st M = mq_k0 d mj_m159 33 ls M (mq_gf 10 0 st M) := (mj_R3 (r := (.getfield 14, 3, 10, 0, 8486)) rfl rfl).trans (congrArg (mq_k0 d mj_m159 33 ls M) mq_gf_eq)
theorem s159_33 {d : Nat} {ls : mj_L} {st : List Value} {M : mj_H} : mj_Rn d mj_m159 33 ls st M = mq_k0 d mj_m159 34 ls M (mj_lda (mj_lk ls 2) st) := mj_R0 (r := (.aload_n 2, 1, 0, 0, 0)) rfl rfl
theorem s159_34 {d : Nat} {ls : mj_L} {st : List Value} {M : mj_H} : mj_Rn d mj_m159 34 ls st M = mq_k0 d mj_m159 37 ls M (mq_gf 5 3 st M) := (mj_R3 (r := (.getfield 126, 3, 5, 3, 16607)) rfl rfl).trans (congrArg (mq_k0 d mj_m159 37 ls M) mq_gf_eq)
theorem s159_37 {d : Nat} {ls : mj_L} {st : List Value} {M : mj_H} : mj_Rn d mj_m159 37 ls st M = mj_Rn d mj_m159 38 ls (.int 0 :: st) M := mj_R0 (r := (.iconst 0, 1, 0, 0, 0)) rfl rfl
theorem s159_38 {d : Nat} {ls : mj_L} {st : List Value} {M : mj_H} : mj_Rn d mj_m159 38 ls st M = mq_k0 d mj_m159 39 ls M (mj_lda (mj_lk ls 2) st) := mj_R0 (r := (.aload_n 2, 1, 0, 0, 0)) rfl rfl
theorem s159_39 {d : Nat} {ls : mj_L} {st : List Value} {M : mj_H} : mj_Rn d mj_m159 39 ls st M = mq_k0 d mj_m159 42 ls M (mq_gf 5 3 st M) := (mj_R3 (r := (.getfield 126, 3, 5, 3, 16607)) rfl rfl).trans (congrArg (mq_k0 d mj_m159 42 ls M) mq_gf_eq)
theorem s159_42 {d : Nat} {ls : mj_L} {st : List Value} {M : mj_H} : mj_Rn (d + 1) mj_m159 42 ls st M = mq_k5a (d + 1) mj_m159 45 ls M 9 (mq_cb 0 0 1 st M) := mj_R5e (r := (.invokevirtual 65, 3, 0, 9, 4278)) (z := mj_m9) rfl rfl (by decide) (by decide) rfl
theorem s159_45 {d : Nat} {ls : mj_L} {st : List Value} {M : mj_H} : mj_Rn (d + 1) mj_m159 45 ls st M = mq_k5a (d + 1) mj_m159 48 ls M 77 (mq_cb 0 3 1 st M) := mj_R5e (r := (.invokevirtual 118, 3, 0, 77, 12429)) (z := mj_m77) rfl rfl (by decide) (by decide) rfl
theorem s159_48 {d : Nat} {ls : mj_L} {st : List Value} {M : mj_H} : mj_Rn d mj_m159 48 ls st M = mq_k0 d mj_m159 49 ls M (mj_lda (mj_lk ls 0) st) := mj_R0 (r := (.aload_n 0, 1, 0, 0, 0)) rfl rfl
theorem s159_49 {d : Nat} {ls : mj_L} {st : List Value} {M : mj_H} : mj_Rn d mj_m159 49 ls st M = mq_k0 d mj_m159 52 ls M (mq_gf 10 0 st M) := (mj_R3 (r := (.getfield 14, 3, 10, 0, 8486)) rfl rfl).trans (congrArg (mq_k0 d mj_m159 52 ls M) mq_gf_eq)
theorem s159_52 {d : Nat} {ls : mj_L} {st : List Value} {M : mj_H} : mj_Rn (d + 1) mj_m159 52 ls st M = mq_k5a (d + 1) mj_m159 55 ls M 9 (mq_cb 0 0 1 st M) := mj_R5e (r := (.invokevirtual 65, 3, 0, 9, 4278)) (z := mj_m9) rfl rfl (by decide) (by decide) rfl
theorem s159_55 {d : Nat} {ls : mj_L} {st : List Value} {M : mj_H} : mj_Rn d mj_m159 55 ls st M = mq_k6 M (mj_re (some .int) (.ireturn) st) := mj_R6 (r := (.ireturn, 1, 0, 0, 0)) rfl rfl
/- 160 PasskeyHouse.flash(II)I -/
theorem s160_0 {d : Nat} {ls : mj_L} {st : List Value} {M : mj_H} : mj_Rn d mj_m160 0 ls st M = mq_k0 d mj_m160 1 ls M (mj_lda (mj_lk ls 0) st) := mj_R0 (r := (.aload_n 0, 1, 0, 0, 0)) rfl rfl
theorem s160_1 {d : Nat} {ls : mj_L} {st : List Value} {M : mj_H} : mj_Rn d mj_m160 1 ls st M = mq_k0 d mj_m160 2 ls M (mj_ldi (mj_lk ls 1) st) := mj_R0 (r := (.iload_n 1, 1, 0, 0, 0)) rfl rfl
theorem s160_2 {d : Nat} {ls : mj_L} {st : List Value} {M : mj_H} : mj_Rn (d + 1) mj_m160 2 ls st M = mq_k5a (d + 1) mj_m160 5 ls M 68 (mq_cb 0 1 10 st M) := mj_R5e (r := (.invokevirtual 97, 3, 0, 68, 12393)) (z := mj_m68) rfl rfl (by decide) (by decide) rfl
theorem s160_5 {d : Nat} {ls : mj_L} {st : List Value} {M : mj_H} : mj_Rn d mj_m160 5 ls st M = mq_k1 d mj_m160 6 M (mj_lo 4 (.astore 3) ls st) := (mj_R1 (r := (.astore_n 3, 1, 0, 0, 0)) rfl rfl).trans (congrArg (mq_k1 d mj_m160 6 M) (mq_sta (k := 3)))
theorem s160_6 {d : Nat} {ls : mj_L} {st : List Value} {M : mj_H} : mj_Rn d mj_m160 6 ls st M = mq_k0 d mj_m160 7 ls M (mj_lda (mj_lk ls 3) st) := mj_R0 (r := (.aload_n 3, 1, 0, 0, 0)) rfl rfl
theorem s160_7 {d : Nat} {ls : mj_L} {st : List Value} {M : mj_H} : mj_Rn d mj_m160 7 ls st M = mq_k2 d mj_m160 ls M (mj_br (.ifnonnull 7) 7 st) := mj_R2 (r := (.ifnonnull 7, 3, 0, 0, 0)) rfl rfl
theorem s160_10 {d : Nat} {ls : mj_L} {st : List Value} {M : mj_H} : mj_Rn d mj_m160 10 ls st M = mj_Rn d mj_m160 11 ls (.int (-1) :: st) M := mj_R0 (r := (.iconst (-1), 1, 0, 0, 0)) rfl rfl
theorem s160_11 {d : Nat} {ls : mj_L} {st : List Value} {M : mj_H} : mj_Rn d mj_m160 11 ls st M = mj_Rn d mj_m160 25 ls st M := mj_R2 (r := (.goto 14, 3, 0, 0, 0)) rfl rfl
theorem s160_14 {d : Nat} {ls : mj_L} {st : List Value} {M : mj_H} : mj_Rn d mj_m160 14 ls st M = mq_k0 d mj_m160 15 ls M (mj_lda (mj_lk ls 3) st) := mj_R0 (r := (.aload_n 3, 1, 0, 0, 0)) rfl rfl
theorem s160_15 {d : Nat} {ls : mj_L} {st : List Value} {M : mj_H} : mj_Rn d mj_m160 15 ls st M = mq_k0 d mj_m160 18 ls M (mq_gf 5 2 st M) := (mj_R3 (r := (.getfield 129, 3, 5, 2, 16603)) rfl rfl).trans (congrArg (mq_k0 d mj_m160 18 ls M) mq_gf_eq)
theorem s160_18 {d : Nat} {ls : mj_L} {st : List Value} {M : mj_H} : mj_Rn d mj_m160 18 ls st M = mq_k0 d mj_m160 21 ls M (mq_gf 8 0 st M) := (mj_R3 (r := (.getfield 133, 3, 8, 0, 16483)) rfl rfl).trans (congrArg (mq_k0 d mj_m160 21 ls M) mq_gf_eq)
theorem s160_21 {d : Nat} {ls : mj_L} {st : List Value} {M : mj_H} : mj_Rn d mj_m160 21 ls st M = mq_k0 d mj_m160 22 ls M (mj_ldi (mj_lk ls 2) st) := mj_R0 (r := (.iload_n 2, 1, 0, 0, 0)) rfl rfl
theorem s160_22 {d : Nat} {ls : mj_L} {st : List Value} {M : mj_H} : mj_Rn (d + 1) mj_m160 22 ls st M = mq_k5a (d + 1) mj_m160 25 ls M 14 (mq_cb 0 1 1 st M) := mj_R5e (r := (.invokevirtual 76, 3, 0, 14, 4298)) (z := mj_m14) rfl rfl (by decide) (by decide) rfl
theorem s160_25 {d : Nat} {ls : mj_L} {st : List Value} {M : mj_H} : mj_Rn d mj_m160 25 ls st M = mq_k6 M (mj_re (some .int) (.ireturn) st) := mj_R6 (r := (.ireturn, 1, 0, 0, 0)) rfl rfl
/- 161 PasskeyHouse.told(II)I -/
theorem s161_0 {d : Nat} {ls : mj_L} {st : List Value} {M : mj_H} : mj_Rn d mj_m161 0 ls st M = mq_k0 d mj_m161 1 ls M (mj_lda (mj_lk ls 0) st) := mj_R0 (r := (.aload_n 0, 1, 0, 0, 0)) rfl rfl
theorem s161_1 {d : Nat} {ls : mj_L} {st : List Value} {M : mj_H} : mj_Rn d mj_m161 1 ls st M = mq_k0 d mj_m161 2 ls M (mj_ldi (mj_lk ls 1) st) := mj_R0 (r := (.iload_n 1, 1, 0, 0, 0)) rfl rfl
theorem s161_2 {d : Nat} {ls : mj_L} {st : List Value} {M : mj_H} : mj_Rn (d + 1) mj_m161 2 ls st M = mq_k5a (d + 1) mj_m161 5 ls M 68 (mq_cb 0 1 10 st M) := mj_R5e (r := (.invokevirtual 97, 3, 0, 68, 12393)) (z := mj_m68) rfl rfl (by decide) (by decide) rfl
theorem s161_5 {d : Nat} {ls : mj_L} {st : List Value} {M : mj_H} : mj_Rn d mj_m161 5 ls st M = mq_k1 d mj_m161 6 M (mj_lo 4 (.astore 3) ls st) := (mj_R1 (r := (.astore_n 3, 1, 0, 0, 0)) rfl rfl).trans (congrArg (mq_k1 d mj_m161 6 M) (mq_sta (k := 3)))
theorem s161_6 {d : Nat} {ls : mj_L} {st : List Value} {M : mj_H} : mj_Rn d mj_m161 6 ls st M = mq_k0 d mj_m161 7 ls M (mj_lda (mj_lk ls 3) st) := mj_R0 (r := (.aload_n 3, 1, 0, 0, 0)) rfl rfl
theorem s161_7 {d : Nat} {ls : mj_L} {st : List Value} {M : mj_H} : mj_Rn d mj_m161 7 ls st M = mq_k2 d mj_m161 ls M (mj_br (.ifnonnull 5) 7 st) := mj_R2 (r := (.ifnonnull 5, 3, 0, 0, 0)) rfl rfl
theorem s161_10 {d : Nat} {ls : mj_L} {st : List Value} {M : mj_H} : mj_Rn d mj_m161 10 ls st M = mj_Rn d mj_m161 11 ls (.int (-1) :: st) M := mj_R0 (r := (.iconst (-1), 1, 0, 0, 0)) rfl rfl
theorem s161_11 {d : Nat} {ls : mj_L} {st : List Value} {M : mj_H} : mj_Rn d mj_m161 11 ls st M = mq_k6 M (mj_re (some .int) (.ireturn) st) := mj_R6 (r := (.ireturn, 1, 0, 0, 0)) rfl rfl
theorem s161_12 {d : Nat} {ls : mj_L} {st : List Value} {M : mj_H} : mj_Rn d mj_m161 12 ls st M = mq_k0 d mj_m161 13 ls M (mj_ldi (mj_lk ls 2) st) := mj_R0 (r := (.iload_n 2, 1, 0, 0, 0)) rfl rfl
theorem s161_13 {d : Nat} {ls : mj_L} {st : List Value} {M : mj_H} : mj_Rn d mj_m161 13 ls st M = mj_Rn d mj_m161 14 ls (.int 5 :: st) M := mj_R0 (r := (.iconst 5, 1, 0, 0, 0)) rfl rfl
theorem s161_14 {d : Nat} {ls : mj_L} {st : List Value} {M : mj_H} : mj_Rn d mj_m161 14 ls st M = mq_k2 d mj_m161 ls M (mj_br (.if_icmp .ge 11) 14 st) := mj_R2 (r := (.if_icmp .ge 11, 3, 0, 0, 0)) rfl rfl
theorem s161_17 {d : Nat} {ls : mj_L} {st : List Value} {M : mj_H} : mj_Rn d mj_m161 17 ls st M = mq_k0 d mj_m161 18 ls M (mj_lda (mj_lk ls 3) st) := mj_R0 (r := (.aload_n 3, 1, 0, 0, 0)) rfl rfl
theorem s161_18 {d : Nat} {ls : mj_L} {st : List Value} {M : mj_H} : mj_Rn d mj_m161 18 ls st M = mq_k0 d mj_m161 19 ls M (mj_ldi (mj_lk ls 2) st) := mj_R0 (r := (.iload_n 2, 1, 0, 0, 0)) rfl rfl
theorem s161_19 {d : Nat} {ls : mj_L} {st : List Value} {M : mj_H} : mj_Rn (d + 1) mj_m161 19 ls st M = mq_k5a (d + 1) mj_m161 22 ls M 162 (mq_cb 0 1 5 st M) := mj_R5e (r := (.invokevirtual 138, 3, 0, 162, 20538)) (z := mj_m162) rfl rfl (by decide) (by decide) rfl
theorem s161_22 {d : Nat} {ls : mj_L} {st : List Value} {M : mj_H} : mj_Rn d mj_m161 22 ls st M = mj_Rn d mj_m161 33 ls st M := mj_R2 (r := (.goto 11, 3, 0, 0, 0)) rfl rfl
theorem s161_25 {d : Nat} {ls : mj_L} {st : List Value} {M : mj_H} : mj_Rn d mj_m161 25 ls st M = mq_k0 d mj_m161 26 ls M (mj_lda (mj_lk ls 3) st) := mj_R0 (r := (.aload_n 3, 1, 0, 0, 0)) rfl rfl
theorem s161_26 {d : Nat} {ls : mj_L} {st : List Value} {M : mj_H} : mj_Rn d mj_m161 26 ls st M = mq_k0 d mj_m161 29 ls M (mq_gf 5 2 st M) := (mj_R3 (r := (.getfield 129, 3, 5, 2, 16603)) rfl rfl).trans (congrArg (mq_k0 d mj_m161 29 ls M) mq_gf_eq)
theorem s161_29 {d : Nat} {ls : mj_L} {st : List Value} {M : mj_H} : mj_Rn d mj_m161 29 ls st M = mq_k0 d mj_m161 30 ls M (mj_ldi (mj_lk ls 2) st) := mj_R0 (r := (.iload_n 2, 1, 0, 0, 0)) rfl rfl
theorem s161_30 {d : Nat} {ls : mj_L} {st : List Value} {M : mj_H} : mj_Rn (d + 1) mj_m161 30 ls st M = mq_k5a (d + 1) mj_m161 33 ls M 163 (mq_cb 0 1 8 st M) := mj_R5e (r := (.invokevirtual 141, 3, 0, 163, 20542)) (z := mj_m163) rfl rfl (by decide) (by decide) rfl
theorem s161_33 {d : Nat} {ls : mj_L} {st : List Value} {M : mj_H} : mj_Rn d mj_m161 33 ls st M = mq_k6 M (mj_re (some .int) (.ireturn) st) := mj_R6 (r := (.ireturn, 1, 0, 0, 0)) rfl rfl
/- 162 PasskeyHouse$Key.tells(I)I -/
theorem s162_0 {d : Nat} {ls : mj_L} {st : List Value} {M : mj_H} : mj_Rn d mj_m162 0 ls st M = mq_k0 d mj_m162 1 ls M (mj_ldi (mj_lk ls 1) st) := mj_R0 (r := (.iload_n 1, 1, 0, 0, 0)) rfl rfl
theorem s162_1 {d : Nat} {ls : mj_L} {st : List Value} {M : mj_H} : mj_Rn d mj_m162 1 ls st M = mq_k2 d mj_m162 ls M (mj_br (.tableswitch 74 0 4 #[35, 51, 59, 64, 69]) 1 st) := mj_R2 (r := (.tableswitch 74 0 4 #[35, 51, 59, 64, 69], 35, 0, 0, 0)) rfl rfl
theorem s162_36 {d : Nat} {ls : mj_L} {st : List Value} {M : mj_H} : mj_Rn d mj_m162 36 ls st M = mq_k0 d mj_m162 37 ls M (mj_lda (mj_lk ls 0) st) := mj_R0 (r := (.aload_n 0, 1, 0, 0, 0)) rfl rfl
theorem s162_37 {d : Nat} {ls : mj_L} {st : List Value} {M : mj_H} : mj_Rn d mj_m162 37 ls st M = mq_k0 d mj_m162 40 ls M (mq_gf 5 2 st M) := (mj_R3 (r := (.getfield 22, 3, 5, 2, 16600)) rfl rfl).trans (congrArg (mq_k0 d mj_m162 40 ls M) mq_gf_eq)
theorem s162_40 {d : Nat} {ls : mj_L} {st : List Value} {M : mj_H} : mj_Rn d mj_m162 40 ls st M = mq_k0 d mj_m162 43 ls M (mq_gf 8 4 st M) := (mj_R3 (r := (.getfield 50, 3, 8, 4, 16495)) rfl rfl).trans (congrArg (mq_k0 d mj_m162 43 ls M) mq_gf_eq)
theorem s162_43 {d : Nat} {ls : mj_L} {st : List Value} {M : mj_H} : mj_Rn d mj_m162 43 ls st M = mq_k2 d mj_m162 ls M (mj_br (.ifCond .eq 7) 43 st) := mj_R2 (r := (.ifCond .eq 7, 3, 0, 0, 0)) rfl rfl
theorem s162_46 {d : Nat} {ls : mj_L} {st : List Value} {M : mj_H} : mj_Rn d mj_m162 46 ls st M = mj_Rn d mj_m162 47 ls (.int 1 :: st) M := mj_R0 (r := (.iconst 1, 1, 0, 0, 0)) rfl rfl
theorem s162_47 {d : Nat} {ls : mj_L} {st : List Value} {M : mj_H} : mj_Rn d mj_m162 47 ls st M = mj_Rn d mj_m162 51 ls st M := mj_R2 (r := (.goto 4, 3, 0, 0, 0)) rfl rfl
theorem s162_50 {d : Nat} {ls : mj_L} {st : List Value} {M : mj_H} : mj_Rn d mj_m162 50 ls st M = mj_Rn d mj_m162 51 ls (.int 0 :: st) M := mj_R0 (r := (.iconst 0, 1, 0, 0, 0)) rfl rfl
theorem s162_51 {d : Nat} {ls : mj_L} {st : List Value} {M : mj_H} : mj_Rn d mj_m162 51 ls st M = mq_k6 M (mj_re (some .int) (.ireturn) st) := mj_R6 (r := (.ireturn, 1, 0, 0, 0)) rfl rfl
theorem s162_52 {d : Nat} {ls : mj_L} {st : List Value} {M : mj_H} : mj_Rn d mj_m162 52 ls st M = mq_k0 d mj_m162 53 ls M (mj_lda (mj_lk ls 0) st) := mj_R0 (r := (.aload_n 0, 1, 0, 0, 0)) rfl rfl
theorem s162_53 {d : Nat} {ls : mj_L} {st : List Value} {M : mj_H} : mj_Rn d mj_m162 53 ls st M = mq_k0 d mj_m162 56 ls M (mq_gf 5 2 st M) := (mj_R3 (r := (.getfield 22, 3, 5, 2, 16600)) rfl rfl).trans (congrArg (mq_k0 d mj_m162 56 ls M) mq_gf_eq)
theorem s162_56 {d : Nat} {ls : mj_L} {st : List Value} {M : mj_H} : mj_Rn d mj_m162 56 ls st M = mq_k0 d mj_m162 59 ls M (mq_gf 8 5 st M) := (mj_R3 (r := (.getfield 83, 3, 8, 5, 16499)) rfl rfl).trans (congrArg (mq_k0 d mj_m162 59 ls M) mq_gf_eq)
theorem s162_59 {d : Nat} {ls : mj_L} {st : List Value} {M : mj_H} : mj_Rn d mj_m162 59 ls st M = mq_k6 M (mj_re (some .int) (.ireturn) st) := mj_R6 (r := (.ireturn, 1, 0, 0, 0)) rfl rfl
theorem s162_60 {d : Nat} {ls : mj_L} {st : List Value} {M : mj_H} : mj_Rn d mj_m162 60 ls st M = mq_k0 d mj_m162 61 ls M (mj_lda (mj_lk ls 0) st) := mj_R0 (r := (.aload_n 0, 1, 0, 0, 0)) rfl rfl
theorem s162_61 {d : Nat} {ls : mj_L} {st : List Value} {M : mj_H} : mj_Rn d mj_m162 61 ls st M = mq_k0 d mj_m162 64 ls M (mq_gf 5 5 st M) := (mj_R3 (r := (.getfield 77, 3, 5, 5, 16610)) rfl rfl).trans (congrArg (mq_k0 d mj_m162 64 ls M) mq_gf_eq)
theorem s162_64 {d : Nat} {ls : mj_L} {st : List Value} {M : mj_H} : mj_Rn d mj_m162 64 ls st M = mq_k6 M (mj_re (some .int) (.ireturn) st) := mj_R6 (r := (.ireturn, 1, 0, 0, 0)) rfl rfl
theorem s162_65 {d : Nat} {ls : mj_L} {st : List Value} {M : mj_H} : mj_Rn d mj_m162 65 ls st M = mq_k0 d mj_m162 66 ls M (mj_lda (mj_lk ls 0) st) := mj_R0 (r := (.aload_n 0, 1, 0, 0, 0)) rfl rfl
theorem s162_66 {d : Nat} {ls : mj_L} {st : List Value} {M : mj_H} : mj_Rn d mj_m162 66 ls st M = mq_k0 d mj_m162 69 ls M (mq_gf 5 6 st M) := (mj_R3 (r := (.getfield 86, 3, 5, 6, 16612)) rfl rfl).trans (congrArg (mq_k0 d mj_m162 69 ls M) mq_gf_eq)
theorem s162_69 {d : Nat} {ls : mj_L} {st : List Value} {M : mj_H} : mj_Rn d mj_m162 69 ls st M = mq_k6 M (mj_re (some .int) (.ireturn) st) := mj_R6 (r := (.ireturn, 1, 0, 0, 0)) rfl rfl
theorem s162_70 {d : Nat} {ls : mj_L} {st : List Value} {M : mj_H} : mj_Rn d mj_m162 70 ls st M = mq_k0 d mj_m162 71 ls M (mj_lda (mj_lk ls 0) st) := mj_R0 (r := (.aload_n 0, 1, 0, 0, 0)) rfl rfl
theorem s162_71 {d : Nat} {ls : mj_L} {st : List Value} {M : mj_H} : mj_Rn d mj_m162 71 ls st M = mq_k0 d mj_m162 74 ls M (mq_gf 5 7 st M) := (mj_R3 (r := (.getfield 89, 3, 5, 7, 16614)) rfl rfl).trans (congrArg (mq_k0 d mj_m162 74 ls M) mq_gf_eq)
theorem s162_74 {d : Nat} {ls : mj_L} {st : List Value} {M : mj_H} : mj_Rn d mj_m162 74 ls st M = mq_k6 M (mj_re (some .int) (.ireturn) st) := mj_R6 (r := (.ireturn, 1, 0, 0, 0)) rfl rfl
theorem s162_75 {d : Nat} {ls : mj_L} {st : List Value} {M : mj_H} : mj_Rn d mj_m162 75 ls st M = mj_Rn d mj_m162 76 ls (.int (-1) :: st) M := mj_R0 (r := (.iconst (-1), 1, 0, 0, 0)) rfl rfl
theorem s162_76 {d : Nat} {ls : mj_L} {st : List Value} {M : mj_H} : mj_Rn d mj_m162 76 ls st M = mq_k6 M (mj_re (some .int) (.ireturn) st) := mj_R6 (r := (.ireturn, 1, 0, 0, 0)) rfl rfl
/- 164 PasskeyHouse.credential(III)I -/
theorem s164_0 {d : Nat} {ls : mj_L} {st : List Value} {M : mj_H} : mj_Rn d mj_m164 0 ls st M = mq_k0 d mj_m164 1 ls M (mj_lda (mj_lk ls 0) st) := mj_R0 (r := (.aload_n 0, 1, 0, 0, 0)) rfl rfl
theorem s164_1 {d : Nat} {ls : mj_L} {st : List Value} {M : mj_H} : mj_Rn d mj_m164 1 ls st M = mq_k0 d mj_m164 2 ls M (mj_ldi (mj_lk ls 1) st) := mj_R0 (r := (.iload_n 1, 1, 0, 0, 0)) rfl rfl
theorem s164_2 {d : Nat} {ls : mj_L} {st : List Value} {M : mj_H} : mj_Rn (d + 1) mj_m164 2 ls st M = mq_k5a (d + 1) mj_m164 5 ls M 68 (mq_cb 0 1 10 st M) := mj_R5e (r := (.invokevirtual 97, 3, 0, 68, 12393)) (z := mj_m68) rfl rfl (by decide) (by decide) rfl
theorem s164_5 {d : Nat} {ls : mj_L} {st : List Value} {M : mj_H} : mj_Rn d mj_m164 5 ls st M = mq_k1 d mj_m164 7 M (mj_lo 6 (.astore 4) ls st) := mj_R1 (r := (.astore 4, 2, 0, 0, 0)) rfl rfl
theorem s164_7 {d : Nat} {ls : mj_L} {st : List Value} {M : mj_H} : mj_Rn d mj_m164 7 ls st M = mq_k0 d mj_m164 9 ls M (mj_lda (mj_lk ls 4) st) := mj_R0 (r := (.aload 4, 2, 0, 0, 0)) rfl rfl
theorem s164_9 {d : Nat} {ls : mj_L} {st : List Value} {M : mj_H} : mj_Rn d mj_m164 9 ls st M = mq_k2 d mj_m164 ls M (mj_br (.ifnull 11) 9 st) := mj_R2 (r := (.ifnull 11, 3, 0, 0, 0)) rfl rfl
theorem s164_12 {d : Nat} {ls : mj_L} {st : List Value} {M : mj_H} : mj_Rn d mj_m164 12 ls st M = mq_k0 d mj_m164 14 ls M (mj_lda (mj_lk ls 4) st) := mj_R0 (r := (.aload 4, 2, 0, 0, 0)) rfl rfl
theorem s164_14 {d : Nat} {ls : mj_L} {st : List Value} {M : mj_H} : mj_Rn (d + 1) mj_m164 14 ls st M = mq_k5a (d + 1) mj_m164 17 ls M 70 (mq_cb 0 0 5 st M) := mj_R5e (r := (.invokevirtual 105, 3, 0, 70, 12401)) (z := mj_m70) rfl rfl (by decide) (by decide) rfl
theorem s164_17 {d : Nat} {ls : mj_L} {st : List Value} {M : mj_H} : mj_Rn d mj_m164 17 ls st M = mq_k2 d mj_m164 ls M (mj_br (.ifCond .ne 5) 17 st) := mj_R2 (r := (.ifCond .ne 5, 3, 0, 0, 0)) rfl rfl
theorem s164_20 {d : Nat} {ls : mj_L} {st : List Value} {M : mj_H} : mj_Rn d mj_m164 20 ls st M = mj_Rn d mj_m164 21 ls (.int (-1) :: st) M := mj_R0 (r := (.iconst (-1), 1, 0, 0, 0)) rfl rfl
theorem s164_21 {d : Nat} {ls : mj_L} {st : List Value} {M : mj_H} : mj_Rn d mj_m164 21 ls st M = mq_k6 M (mj_re (some .int) (.ireturn) st) := mj_R6 (r := (.ireturn, 1, 0, 0, 0)) rfl rfl
theorem s164_22 {d : Nat} {ls : mj_L} {st : List Value} {M : mj_H} : mj_Rn d mj_m164 22 ls st M = mq_k0 d mj_m164 24 ls M (mj_lda (mj_lk ls 4) st) := mj_R0 (r := (.aload 4, 2, 0, 0, 0)) rfl rfl
theorem s164_24 {d : Nat} {ls : mj_L} {st : List Value} {M : mj_H} : mj_Rn d mj_m164 24 ls st M = mq_k0 d mj_m164 27 ls M (mq_gf 5 2 st M) := (mj_R3 (r := (.getfield 129, 3, 5, 2, 16603)) rfl rfl).trans (congrArg (mq_k0 d mj_m164 27 ls M) mq_gf_eq)
theorem s164_27 {d : Nat} {ls : mj_L} {st : List Value} {M : mj_H} : mj_Rn d mj_m164 27 ls st M = mq_k0 d mj_m164 28 ls M (mj_ldi (mj_lk ls 2) st) := mj_R0 (r := (.iload_n 2, 1, 0, 0, 0)) rfl rfl
theorem s164_28 {d : Nat} {ls : mj_L} {st : List Value} {M : mj_H} : mj_Rn (d + 1) mj_m164 28 ls st M = mq_k5a (d + 1) mj_m164 31 ls M 61 (mq_cb 0 1 8 st M) := mj_R5e (r := (.invokevirtual 142, 3, 0, 61, 20550)) (z := mj_m61) rfl rfl (by decide) (by decide) rfl
theorem s164_31 {d : Nat} {ls : mj_L} {st : List Value} {M : mj_H} : mj_Rn d mj_m164 31 ls st M = mq_k1 d mj_m164 33 M (mj_lo 6 (.astore 5) ls st) := mj_R1 (r := (.astore 5, 2, 0, 0, 0)) rfl rfl
theorem s164_33 {d : Nat} {ls : mj_L} {st : List Value} {M : mj_H} : mj_Rn d mj_m164 33 ls st M = mq_k0 d mj_m164 35 ls M (mj_lda (mj_lk ls 5) st) := mj_R0 (r := (.aload 5, 2, 0, 0, 0)) rfl rfl
theorem s164_35 {d : Nat} {ls : mj_L} {st : List Value} {M : mj_H} : mj_Rn d mj_m164 35 ls st M = mq_k2 d mj_m164 ls M (mj_br (.ifnonnull 7) 35 st) := mj_R2 (r := (.ifnonnull 7, 3, 0, 0, 0)) rfl rfl
theorem s164_38 {d : Nat} {ls : mj_L} {st : List Value} {M : mj_H} : mj_Rn d mj_m164 38 ls st M = mj_Rn d mj_m164 39 ls (.int (-1) :: st) M := mj_R0 (r := (.iconst (-1), 1, 0, 0, 0)) rfl rfl
theorem s164_39 {d : Nat} {ls : mj_L} {st : List Value} {M : mj_H} : mj_Rn d mj_m164 39 ls st M = mj_Rn d mj_m164 48 ls st M := mj_R2 (r := (.goto 9, 3, 0, 0, 0)) rfl rfl
theorem s164_42 {d : Nat} {ls : mj_L} {st : List Value} {M : mj_H} : mj_Rn d mj_m164 42 ls st M = mq_k0 d mj_m164 44 ls M (mj_lda (mj_lk ls 5) st) := mj_R0 (r := (.aload 5, 2, 0, 0, 0)) rfl rfl
theorem s164_44 {d : Nat} {ls : mj_L} {st : List Value} {M : mj_H} : mj_Rn d mj_m164 44 ls st M = mq_k0 d mj_m164 45 ls M (mj_ldi (mj_lk ls 3) st) := mj_R0 (r := (.iload_n 3, 1, 0, 0, 0)) rfl rfl
theorem s164_45 {d : Nat} {ls : mj_L} {st : List Value} {M : mj_H} : mj_Rn (d + 1) mj_m164 45 ls st M = mq_k5a (d + 1) mj_m164 48 ls M 165 (mq_cb 0 1 2 st M) := mj_R5e (r := (.invokevirtual 146, 3, 0, 165, 20551)) (z := mj_m165) rfl rfl (by decide) (by decide) rfl
theorem s164_48 {d : Nat} {ls : mj_L} {st : List Value} {M : mj_H} : mj_Rn d mj_m164 48 ls st M = mq_k6 M (mj_re (some .int) (.ireturn) st) := mj_R6 (r := (.ireturn, 1, 0, 0, 0)) rfl rfl
/- 165 PasskeyHouse$Credential.tells(I)I -/
theorem s165_0 {d : Nat} {ls : mj_L} {st : List Value} {M : mj_H} : mj_Rn d mj_m165 0 ls st M = mq_k0 d mj_m165 1 ls M (mj_ldi (mj_lk ls 1) st) := mj_R0 (r := (.iload_n 1, 1, 0, 0, 0)) rfl rfl
theorem s165_1 {d : Nat} {ls : mj_L} {st : List Value} {M : mj_H} : mj_Rn d mj_m165 1 ls st M = mq_k2 d mj_m165 ls M (mj_br (.tableswitch 51 0 3 #[31, 36, 41, 46]) 1 st) := mj_R2 (r := (.tableswitch 51 0 3 #[31, 36, 41, 46], 31, 0, 0, 0)) rfl rfl
theorem s165_32 {d : Nat} {ls : mj_L} {st : List Value} {M : mj_H} : mj_Rn d mj_m165 32 ls st M = mq_k0 d mj_m165 33 ls M (mj_lda (mj_lk ls 0) st) := mj_R0 (r := (.aload_n 0, 1, 0, 0, 0)) rfl rfl
theorem s165_33 {d : Nat} {ls : mj_L} {st : List Value} {M : mj_H} : mj_Rn d mj_m165 33 ls st M = mq_k0 d mj_m165 36 ls M (mq_gf 2 0 st M) := (mj_R3 (r := (.getfield 9, 3, 2, 0, 16420)) rfl rfl).trans (congrArg (mq_k0 d mj_m165 36 ls M) mq_gf_eq)
theorem s165_36 {d : Nat} {ls : mj_L} {st : List Value} {M : mj_H} : mj_Rn d mj_m165 36 ls st M = mq_k6 M (mj_re (some .int) (.ireturn) st) := mj_R6 (r := (.ireturn, 1, 0, 0, 0)) rfl rfl
theorem s165_37 {d : Nat} {ls : mj_L} {st : List Value} {M : mj_H} : mj_Rn d mj_m165 37 ls st M = mq_k0 d mj_m165 38 ls M (mj_lda (mj_lk ls 0) st) := mj_R0 (r := (.aload_n 0, 1, 0, 0, 0)) rfl rfl
theorem s165_38 {d : Nat} {ls : mj_L} {st : List Value} {M : mj_H} : mj_Rn d mj_m165 38 ls st M = mq_k0 d mj_m165 41 ls M (mq_gf 2 1 st M) := (mj_R3 (r := (.getfield 15, 3, 2, 1, 16426)) rfl rfl).trans (congrArg (mq_k0 d mj_m165 41 ls M) mq_gf_eq)
theorem s165_41 {d : Nat} {ls : mj_L} {st : List Value} {M : mj_H} : mj_Rn d mj_m165 41 ls st M = mq_k6 M (mj_re (some .int) (.ireturn) st) := mj_R6 (r := (.ireturn, 1, 0, 0, 0)) rfl rfl
theorem s165_42 {d : Nat} {ls : mj_L} {st : List Value} {M : mj_H} : mj_Rn d mj_m165 42 ls st M = mq_k0 d mj_m165 43 ls M (mj_lda (mj_lk ls 0) st) := mj_R0 (r := (.aload_n 0, 1, 0, 0, 0)) rfl rfl
theorem s165_43 {d : Nat} {ls : mj_L} {st : List Value} {M : mj_H} : mj_Rn d mj_m165 43 ls st M = mq_k0 d mj_m165 46 ls M (mq_gf 2 5 st M) := (mj_R3 (r := (.getfield 18, 3, 2, 5, 16448)) rfl rfl).trans (congrArg (mq_k0 d mj_m165 46 ls M) mq_gf_eq)
theorem s165_46 {d : Nat} {ls : mj_L} {st : List Value} {M : mj_H} : mj_Rn d mj_m165 46 ls st M = mq_k6 M (mj_re (some .int) (.ireturn) st) := mj_R6 (r := (.ireturn, 1, 0, 0, 0)) rfl rfl
theorem s165_47 {d : Nat} {ls : mj_L} {st : List Value} {M : mj_H} : mj_Rn d mj_m165 47 ls st M = mq_k0 d mj_m165 48 ls M (mj_lda (mj_lk ls 0) st) := mj_R0 (r := (.aload_n 0, 1, 0, 0, 0)) rfl rfl
theorem s165_48 {d : Nat} {ls : mj_L} {st : List Value} {M : mj_H} : mj_Rn d mj_m165 48 ls st M = mq_k0 d mj_m165 51 ls M (mq_gf 2 4 st M) := (mj_R3 (r := (.getfield 21, 3, 2, 4, 16442)) rfl rfl).trans (congrArg (mq_k0 d mj_m165 51 ls M) mq_gf_eq)
theorem s165_51 {d : Nat} {ls : mj_L} {st : List Value} {M : mj_H} : mj_Rn d mj_m165 51 ls st M = mq_k6 M (mj_re (some .int) (.ireturn) st) := mj_R6 (r := (.ireturn, 1, 0, 0, 0)) rfl rfl
theorem s165_52 {d : Nat} {ls : mj_L} {st : List Value} {M : mj_H} : mj_Rn d mj_m165 52 ls st M = mq_k0 d mj_m165 53 ls M (mj_ldi (mj_lk ls 1) st) := mj_R0 (r := (.iload_n 1, 1, 0, 0, 0)) rfl rfl
theorem s165_53 {d : Nat} {ls : mj_L} {st : List Value} {M : mj_H} : mj_Rn d mj_m165 53 ls st M = mj_Rn d mj_m165 54 ls (.int 4 :: st) M := mj_R0 (r := (.iconst 4, 1, 0, 0, 0)) rfl rfl
theorem s165_54 {d : Nat} {ls : mj_L} {st : List Value} {M : mj_H} : mj_Rn d mj_m165 54 ls st M = mq_k2 d mj_m165 ls M (mj_br (.if_icmp .ge 7) 54 st) := mj_R2 (r := (.if_icmp .ge 7, 3, 0, 0, 0)) rfl rfl
theorem s165_57 {d : Nat} {ls : mj_L} {st : List Value} {M : mj_H} : mj_Rn d mj_m165 57 ls st M = mj_Rn d mj_m165 58 ls (.int (-1) :: st) M := mj_R0 (r := (.iconst (-1), 1, 0, 0, 0)) rfl rfl
theorem s165_58 {d : Nat} {ls : mj_L} {st : List Value} {M : mj_H} : mj_Rn d mj_m165 58 ls st M = mj_Rn d mj_m165 75 ls st M := mj_R2 (r := (.goto 17, 3, 0, 0, 0)) rfl rfl
theorem s165_61 {d : Nat} {ls : mj_L} {st : List Value} {M : mj_H} : mj_Rn d mj_m165 61 ls st M = mq_k0 d mj_m165 62 ls M (mj_lda (mj_lk ls 0) st) := mj_R0 (r := (.aload_n 0, 1, 0, 0, 0)) rfl rfl
theorem s165_62 {d : Nat} {ls : mj_L} {st : List Value} {M : mj_H} : mj_Rn d mj_m165 62 ls st M = mq_k0 d mj_m165 65 ls M (mq_gf 2 3 st M) := (mj_R3 (r := (.getfield 24, 3, 2, 3, 16436)) rfl rfl).trans (congrArg (mq_k0 d mj_m165 65 ls M) mq_gf_eq)
theorem s165_65 {d : Nat} {ls : mj_L} {st : List Value} {M : mj_H} : mj_Rn d mj_m165 65 ls st M = mq_k0 d mj_m165 66 ls M (mj_lda (mj_lk ls 0) st) := mj_R0 (r := (.aload_n 0, 1, 0, 0, 0)) rfl rfl
theorem s165_66 {d : Nat} {ls : mj_L} {st : List Value} {M : mj_H} : mj_Rn d mj_m165 66 ls st M = mq_k0 d mj_m165 69 ls M (mq_gf 2 4 st M) := (mj_R3 (r := (.getfield 21, 3, 2, 4, 16442)) rfl rfl).trans (congrArg (mq_k0 d mj_m165 69 ls M) mq_gf_eq)
theorem s165_69 {d : Nat} {ls : mj_L} {st : List Value} {M : mj_H} : mj_Rn d mj_m165 69 ls st M = mq_k0 d mj_m165 70 ls M (mj_ldi (mj_lk ls 1) st) := mj_R0 (r := (.iload_n 1, 1, 0, 0, 0)) rfl rfl
theorem s165_70 {d : Nat} {ls : mj_L} {st : List Value} {M : mj_H} : mj_Rn d mj_m165 70 ls st M = mj_Rn d mj_m165 71 ls (.int 4 :: st) M := mj_R0 (r := (.iconst 4, 1, 0, 0, 0)) rfl rfl
theorem s165_71 {d : Nat} {ls : mj_L} {st : List Value} {M : mj_H} : mj_Rn d mj_m165 71 ls st M = mq_k0 d mj_m165 72 ls M (mj_pu .isub ls st) := mj_R0 (r := (.isub, 1, 0, 0, 0)) rfl rfl
theorem s165_72 {d : Nat} {ls : mj_L} {st : List Value} {M : mj_H} : mj_Rn (d + 1) mj_m165 72 ls st M = mq_k5a (d + 1) mj_m165 75 ls M 166 (mq_cb 3 3 10 st M) := mj_R5e (r := (.invokestatic 28, 3, 3, 166, 20555)) (z := mj_m166) rfl rfl (by decide) (by decide) rfl
theorem s165_75 {d : Nat} {ls : mj_L} {st : List Value} {M : mj_H} : mj_Rn d mj_m165 75 ls st M = mq_k6 M (mj_re (some .int) (.ireturn) st) := mj_R6 (r := (.ireturn, 1, 0, 0, 0)) rfl rfl
/- 166 PasskeyHouse.byteOf(JII)I -/
theorem s166_0 {d : Nat} {ls : mj_L} {st : List Value} {M : mj_H} : mj_Rn d mj_m166 0 ls st M = mq_k0 d mj_m166 1 ls M (mj_ldi (mj_lk ls 3) st) := mj_R0 (r := (.iload_n 3, 1, 0, 0, 0)) rfl rfl
theorem s166_1 {d : Nat} {ls : mj_L} {st : List Value} {M : mj_H} : mj_Rn d mj_m166 1 ls st M = mq_k2 d mj_m166 ls M (mj_br (.ifCond .lt 8) 1 st) := mj_R2 (r := (.ifCond .lt 8, 3, 0, 0, 0)) rfl rfl
theorem s166_4 {d : Nat} {ls : mj_L} {st : List Value} {M : mj_H} : mj_Rn d mj_m166 4 ls st M = mq_k0 d mj_m166 5 ls M (mj_ldi (mj_lk ls 3) st) := mj_R0 (r := (.iload_n 3, 1, 0, 0, 0)) rfl rfl
theorem s166_5 {d : Nat} {ls : mj_L} {st : List Value} {M : mj_H} : mj_Rn d mj_m166 5 ls st M = mq_k0 d mj_m166 6 ls M (mj_ldi (mj_lk ls 2) st) := mj_R0 (r := (.iload_n 2, 1, 0, 0, 0)) rfl rfl
theorem s166_6 {d : Nat} {ls : mj_L} {st : List Value} {M : mj_H} : mj_Rn d mj_m166 6 ls st M = mq_k2 d mj_m166 ls M (mj_br (.if_icmp .lt 7) 6 st) := mj_R2 (r := (.if_icmp .lt 7, 3, 0, 0, 0)) rfl rfl
theorem s166_9 {d : Nat} {ls : mj_L} {st : List Value} {M : mj_H} : mj_Rn d mj_m166 9 ls st M = mj_Rn d mj_m166 10 ls (.int (-1) :: st) M := mj_R0 (r := (.iconst (-1), 1, 0, 0, 0)) rfl rfl
theorem s166_10 {d : Nat} {ls : mj_L} {st : List Value} {M : mj_H} : mj_Rn d mj_m166 10 ls st M = mj_Rn d mj_m166 28 ls st M := mj_R2 (r := (.goto 18, 3, 0, 0, 0)) rfl rfl
theorem s166_13 {d : Nat} {ls : mj_L} {st : List Value} {M : mj_H} : mj_Rn d mj_m166 13 ls st M = mq_k0 d mj_m166 14 ls M (mj_ldl (mj_lk ls 0) st) := mj_R0 (r := (.lload_n 0, 1, 0, 0, 0)) rfl rfl
theorem s166_14 {d : Nat} {ls : mj_L} {st : List Value} {M : mj_H} : mj_Rn d mj_m166 14 ls st M = mj_Rn d mj_m166 16 ls (.int 8 :: st) M := mj_R0 (r := (.bipush 8, 2, 0, 0, 0)) rfl rfl
theorem s166_16 {d : Nat} {ls : mj_L} {st : List Value} {M : mj_H} : mj_Rn d mj_m166 16 ls st M = mq_k0 d mj_m166 17 ls M (mj_ldi (mj_lk ls 2) st) := mj_R0 (r := (.iload_n 2, 1, 0, 0, 0)) rfl rfl
theorem s166_17 {d : Nat} {ls : mj_L} {st : List Value} {M : mj_H} : mj_Rn d mj_m166 17 ls st M = mj_Rn d mj_m166 18 ls (.int 1 :: st) M := mj_R0 (r := (.iconst 1, 1, 0, 0, 0)) rfl rfl
theorem s166_18 {d : Nat} {ls : mj_L} {st : List Value} {M : mj_H} : mj_Rn d mj_m166 18 ls st M = mq_k0 d mj_m166 19 ls M (mj_pu .isub ls st) := mj_R0 (r := (.isub, 1, 0, 0, 0)) rfl rfl
theorem s166_19 {d : Nat} {ls : mj_L} {st : List Value} {M : mj_H} : mj_Rn d mj_m166 19 ls st M = mq_k0 d mj_m166 20 ls M (mj_ldi (mj_lk ls 3) st) := mj_R0 (r := (.iload_n 3, 1, 0, 0, 0)) rfl rfl
theorem s166_20 {d : Nat} {ls : mj_L} {st : List Value} {M : mj_H} : mj_Rn d mj_m166 20 ls st M = mq_k0 d mj_m166 21 ls M (mj_pu .isub ls st) := mj_R0 (r := (.isub, 1, 0, 0, 0)) rfl rfl
theorem s166_21 {d : Nat} {ls : mj_L} {st : List Value} {M : mj_H} : mj_Rn d mj_m166 21 ls st M = mq_k0 d mj_m166 22 ls M (mj_pu .imul ls st) := mj_R0 (r := (.imul, 1, 0, 0, 0)) rfl rfl
theorem s166_22 {d : Nat} {ls : mj_L} {st : List Value} {M : mj_H} : mj_Rn d mj_m166 22 ls st M = mq_k0 d mj_m166 23 ls M (mj_pu .lushr ls st) := mj_R0 (r := (.lushr, 1, 0, 0, 0)) rfl rfl
theorem s166_23 {d : Nat} {ls : mj_L} {st : List Value} {M : mj_H} : mj_Rn d mj_m166 23 ls st M = mq_k0 d mj_m166 24 ls M (mj_pu .l2i ls st) := mj_R0 (r := (.l2i, 1, 0, 0, 0)) rfl rfl
theorem s166_24 {d : Nat} {ls : mj_L} {st : List Value} {M : mj_H} : mj_Rn d mj_m166 24 ls st M = mj_Rn d mj_m166 27 ls (.int 255 :: st) M := mj_R0 (r := (.sipush 255, 3, 0, 0, 0)) rfl rfl
theorem s166_27 {d : Nat} {ls : mj_L} {st : List Value} {M : mj_H} : mj_Rn d mj_m166 27 ls st M = mq_k0 d mj_m166 28 ls M (mj_pu .iand ls st) := mj_R0 (r := (.iand, 1, 0, 0, 0)) rfl rfl
theorem s166_28 {d : Nat} {ls : mj_L} {st : List Value} {M : mj_H} : mj_Rn d mj_m166 28 ls st M = mq_k6 M (mj_re (some .int) (.ireturn) st) := mj_R6 (r := (.ireturn, 1, 0, 0, 0)) rfl rfl
theorem c67 {d : Nat} {a0 : Nat} {x1 : Int32} {x2 : Int32} {M : mj_H} : mj_V (d + 1) 67 [.ref a0, .int x1, .int x2] M = mj_Rn d mj_m67 0 [(0, .ref a0), (1, .int x1), (2, .int x2)] [] M := mj_V_go rfl (Nat.le_of_ble_eq_true rfl)
theorem c71 {d : Nat} {a0 : Nat} {x1 : Int32} {M : mj_H} : mj_V (d + 1) 71 [.ref a0, .int x1] M = mj_Rn d mj_m71 0 [(0, .ref a0), (1, .int x1)] [] M := mj_V_go rfl (Nat.le_of_ble_eq_true rfl)
theorem c73 {d : Nat} {a0 : Nat} {x1 : Int32} {x2 : Int32} {M : mj_H} : mj_V (d + 1) 73 [.ref a0, .int x1, .int x2] M = mj_Rn d mj_m73 0 [(0, .ref a0), (1, .int x1), (2, .int x2)] [] M := mj_V_go rfl (Nat.le_of_ble_eq_true rfl)
theorem c75 {d : Nat} {a0 : Nat} {x1 : Int32} {x2 : Int32} {M : mj_H} : mj_V (d + 1) 75 [.ref a0, .int x1, .int x2] M = mj_Rn d mj_m75 0 [(0, .ref a0), (1, .int x1), (2, .int x2)] [] M := mj_V_go rfl (Nat.le_of_ble_eq_true rfl)
theorem c158 {d : Nat} {a0 : Nat} {x1 : Int32} {x2 : Int32} {M : mj_H} : mj_V (d + 1) 158 [.ref a0, .int x1, .int x2] M = mj_Rn d mj_m158 0 [(0, .ref a0), (1, .int x1), (2, .int x2)] [] M := mj_V_go rfl (Nat.le_of_ble_eq_true rfl)
theorem c159 {d : Nat} {a0 : Nat} {x1 : Int32} {M : mj_H} : mj_V (d + 1) 159 [.ref a0, .int x1] M = mj_Rn d mj_m159 0 [(0, .ref a0), (1, .int x1)] [] M := mj_V_go rfl (Nat.le_of_ble_eq_true rfl)
theorem c160 {d : Nat} {a0 : Nat} {x1 : Int32} {x2 : Int32} {M : mj_H} : mj_V (d + 1) 160 [.ref a0, .int x1, .int x2] M = mj_Rn d mj_m160 0 [(0, .ref a0), (1, .int x1), (2, .int x2)] [] M := mj_V_go rfl (Nat.le_of_ble_eq_true rfl)
theorem c161 {d : Nat} {a0 : Nat} {x1 : Int32} {x2 : Int32} {M : mj_H} : mj_V (d + 1) 161 [.ref a0, .int x1, .int x2] M = mj_Rn d mj_m161 0 [(0, .ref a0), (1, .int x1), (2, .int x2)] [] M := mj_V_go rfl (Nat.le_of_ble_eq_true rfl)
theorem c162 {d : Nat} {a0 : Nat} {x1 : Int32} {M : mj_H} : mj_V (d + 1) 162 [.ref a0, .int x1] M = mj_Rn d mj_m162 0 [(0, .ref a0), (1, .int x1)] [] M := mj_V_go rfl (Nat.le_of_ble_eq_true rfl)
theorem c164 {d : Nat} {a0 : Nat} {x1 : Int32} {x2 : Int32} {x3 : Int32} {M : mj_H} : mj_V (d + 1) 164 [.ref a0, .int x1, .int x2, .int x3] M = mj_Rn d mj_m164 0 [(0, .ref a0), (1, .int x1), (2, .int x2), (3, .int x3)] [] M := mj_V_go rfl (Nat.le_of_ble_eq_true rfl)
theorem c165 {d : Nat} {a0 : Nat} {x1 : Int32} {M : mj_H} : mj_V (d + 1) 165 [.ref a0, .int x1] M = mj_Rn d mj_m165 0 [(0, .ref a0), (1, .int x1)] [] M := mj_V_go rfl (Nat.le_of_ble_eq_true rfl)
theorem c166 {d : Nat} {x0 : Int64} {x1 : Int32} {x2 : Int32} {M : mj_H} : mj_V (d + 1) 166 [.long x0, .int x1, .int x2] M = mj_Rn d mj_m166 0 [(0, .long x0), (2, .int x1), (3, .int x2)] [] M := mj_V_go rfl (Nat.le_of_ble_eq_true rfl)
theorem bt_low_at (w : Int64) : ∀ (n j : Nat), j < n → (bt_low w n)[j]? = some (bt_by w (n - 1 - j)) := by
  intro n
  induction n with
  | zero => intro j h; omega
  | succ n ih =>
    intro j h
    unfold bt_low
    cases j with
    | zero => simp
    | succ j =>
      rw [List.getElem?_cons_succ, ih j (by omega)]
      congr 2
      omega
theorem j_byte {d : Nat} {u : List Int32} {M : mj_H} (h8 : ∀ v ∈ u, v &&& 255 = v) (hl : u.length ≤ 8) (q : Int32) : mj_V (d + 1) 166 [.long (bt_lo u), .int (nI u.length), .int q] M = some (some (.int (bt_at u q)), M) := by
  by_cases h0 : q < 0
  · have e : bt_at u q = -1 := by unfold bt_at; rw [if_pos h0]
    rw [e]
    simp (disch := (first | omega | decide)) [c166, s166_0, s166_1, s166_4, s166_5, s166_6, s166_9, s166_10, s166_13, s166_14, s166_16, s166_17, s166_18, s166_19, s166_20, s166_21, s166_22, s166_23, s166_24, s166_27, s166_28, mq_k0s, mq_k1s, mq_k2s, mq_k4s, mq_k5s, mq_k5n, mq_k5as, mq_k6s, mj_pu, mj_lo, mj_br, mj_hr, mj_hw, mq_gf, mq_len, mq_al, mq_pf, mq_ok, mj_re, mq_lkm, mq_lkn, mj_ldi, mj_ldl, mj_lda, mj_ii, mj_ll, mj_li, mj_i1, ms_1, ms_2, f1_n, f1_i, f1_r, f1_u, f1_l, f2_n, f2_i, f2_r, f2_u, f2_l, mj_tg, mj_c1, mj_c2, mj_ar, mj_aw, mq_cb, mq_oi, mj_rm, Value.category, -getElem?_pos, List.getElem?_cons_zero, decide_eq_true, decide_eq_false, nl_lt, nl_le, ln_lt, ln_le, nl_eq, ln_eq, nl_add, ln_add, nl_sub, ln_mul, nI_sub, nI_mul, nI_add, nI_lt_iff, nI_le_iff, nI_inj, nI_num, mq_ix, nI_1, nl_mul, nl_div, h0, narrow]
  · obtain ⟨k, hk, rfl⟩ := nI_of h0
    rw [bt_at_nI hk]
    by_cases h1 : k < u.length
    · have e : u.getD k (-1) = bt_by (bt_lo u) (u.length - 1 - k) := by
        have := bt_low_at (bt_lo u) u.length k h1
        rw [bt_lo_low u h8 hl] at this
        rw [List.getD_eq_getElem?_getD, this]; rfl
      rw [e]
      have e1 : nI u.length - 1 - nI k = nI (u.length - 1 - k) := by
        rw [show (1 : Int32) = nI 1 from rfl, nI_sub (by omega), nI_sub (by omega)]
      unfold bt_by
      simp (disch := (first | omega | decide)) [c166, s166_0, s166_1, s166_4, s166_5, s166_6, s166_9, s166_10, s166_13, s166_14, s166_16, s166_17, s166_18, s166_19, s166_20, s166_21, s166_22, s166_23, s166_24, s166_27, s166_28, mq_k0s, mq_k1s, mq_k2s, mq_k4s, mq_k5s, mq_k5n, mq_k5as, mq_k6s, mj_pu, mj_lo, mj_br, mj_hr, mj_hw, mq_gf, mq_len, mq_al, mq_pf, mq_ok, mj_re, mq_lkm, mq_lkn, mj_ldi, mj_ldl, mj_lda, mj_ii, mj_ll, mj_li, mj_i1, ms_1, ms_2, f1_n, f1_i, f1_r, f1_u, f1_l, f2_n, f2_i, f2_r, f2_u, f2_l, mj_tg, mj_c1, mj_c2, mj_ar, mj_aw, mq_cb, mq_oi, mj_rm, Value.category, -getElem?_pos, List.getElem?_cons_zero, decide_eq_true, decide_eq_false, nl_lt, nl_le, ln_lt, ln_le, nl_eq, ln_eq, nl_add, ln_add, nl_sub, ln_mul, nI_sub, nI_mul, nI_add, nI_lt_iff, nI_le_iff, nI_inj, nI_num, mq_ix, nI_1, nl_mul, nl_div, h0, h1, narrow]
    · have e : u.getD k (-1) = -1 := by rw [List.getD_eq_getElem?_getD, List.getElem?_eq_none (by omega)]; rfl
      rw [e]
      simp (disch := (first | omega | decide)) [c166, s166_0, s166_1, s166_4, s166_5, s166_6, s166_9, s166_10, s166_13, s166_14, s166_16, s166_17, s166_18, s166_19, s166_20, s166_21, s166_22, s166_23, s166_24, s166_27, s166_28, mq_k0s, mq_k1s, mq_k2s, mq_k4s, mq_k5s, mq_k5n, mq_k5as, mq_k6s, mj_pu, mj_lo, mj_br, mj_hr, mj_hw, mq_gf, mq_len, mq_al, mq_pf, mq_ok, mj_re, mq_lkm, mq_lkn, mj_ldi, mj_ldl, mj_lda, mj_ii, mj_ll, mj_li, mj_i1, ms_1, ms_2, f1_n, f1_i, f1_r, f1_u, f1_l, f2_n, f2_i, f2_r, f2_u, f2_l, mj_tg, mj_c1, mj_c2, mj_ar, mj_aw, mq_cb, mq_oi, mj_rm, Value.category, -getElem?_pos, List.getElem?_cons_zero, decide_eq_true, decide_eq_false, nl_lt, nl_le, ln_lt, ln_le, nl_eq, ln_eq, nl_add, ln_add, nl_sub, ln_mul, nI_sub, nI_mul, nI_add, nI_lt_iff, nI_le_iff, nI_inj, nI_num, mq_ix, nI_1, nl_mul, nl_div, h0, h1, narrow]
theorem ne_toInt {w k : Int32} (h : w ≠ k) : w.toInt ≠ k.toInt := fun z => h (Int32.toInt_inj.mp z)
section HZ
variable {M M' : mj_H} {H H' : Ho} {κs πs : List Nat} {row row' : List Int32} {d : Nat} {i : Int32}
theorem h_power (z : hz M H κs πs row) (b : Bool) (hw : ∀ k ∈ H.2.2.1, fsW k.1.1.1.1) : ∃ M', mj_V (d + 8) 67 [.ref 25, .int i, .int (on1 b)] M = some (some (.int (ho_power H i b).1), M') ∧ hz M' (ho_power H i b).2 κs πs row ∧ hf M M' := by
  have x0 := z.ob
  unfold ho_power
  cases hix : ix i H.2.2.1.length with
  | none =>
    have v0 := h_keyN (d := d + 6) z hix
    refine ⟨M, ?_, z, hf.rf⟩
    simp (disch := (first | omega | decide)) [c67, s67_0, s67_1, s67_2, s67_5, s67_6, s67_7, s67_10, s67_11, s67_12, s67_13, s67_14, s67_17, s67_18, s67_21, mq_k0s, mq_k1s, mq_k2s, mq_k4s, mq_k5s, mq_k5n, mq_k5as, mq_k6s, mj_pu, mj_lo, mj_br, mj_hr, mj_hw, mq_gf, mq_len, mq_al, mq_pf, mq_ok, mj_re, mq_lkm, mq_lkn, mj_ldi, mj_ldl, mj_lda, mj_ii, mj_ll, mj_li, mj_i1, ms_1, ms_2, f1_n, f1_i, f1_r, f1_u, f1_l, f2_n, f2_i, f2_r, f2_u, f2_l, mj_tg, mj_c1, mj_c2, mj_ar, mj_aw, mq_cb, mq_oi, mj_rm, Value.category, -getElem?_pos, List.getElem?_cons_zero, decide_eq_true, decide_eq_false, nl_lt, nl_le, ln_lt, ln_le, nl_eq, ln_eq, nl_add, ln_add, nl_sub, ln_mul, nI_sub, nI_mul, nI_add, nI_lt_iff, nI_le_iff, nI_inj, nI_num, mq_ix, nI_1, nl_mul, nl_div, x0, v0, narrow_b0]
  | some j =>
    obtain ⟨rfl, hj, -⟩ := ix_some hix
    have hk := List.getElem?_eq_getElem hj
    obtain ⟨κ, hκ, zk⟩ := z.kzz hk
    have v0 := h_keyS (d := d + 6) z hκ
    obtain ⟨u0, y0⟩ := zk.fa
    obtain ⟨M1, p1, z1, f1⟩ := ky_swi (d := d) zk (hw _ (List.getElem_mem hj)) b
    have v1 := ky_ison (d := d + 6) z1
    obtain ⟨u1, y1⟩ := z1.fa
    obtain ⟨zz, g⟩ := z.kback hk hκ z1 f1.kr (zk.iwf f1 z.it)
    dsimp only
    rw [hk]
    refine ⟨M1, ?_, zz, g⟩
    cases hb : (ky_switch H.2.2.1[j] H.2.1 b).1.1.1.1.1.2.1 <;> (rw [hb] at v1; simp (disch := (first | omega | decide)) [c67, s67_0, s67_1, s67_2, s67_5, s67_6, s67_7, s67_10, s67_11, s67_12, s67_13, s67_14, s67_17, s67_18, s67_21, mq_k0s, mq_k1s, mq_k2s, mq_k4s, mq_k5s, mq_k5n, mq_k5as, mq_k6s, mj_pu, mj_lo, mj_br, mj_hr, mj_hw, mq_gf, mq_len, mq_al, mq_pf, mq_ok, mj_re, mq_lkm, mq_lkn, mj_ldi, mj_ldl, mj_lda, mj_ii, mj_ll, mj_li, mj_i1, ms_1, ms_2, f1_n, f1_i, f1_r, f1_u, f1_l, f2_n, f2_i, f2_r, f2_u, f2_l, mj_tg, mj_c1, mj_c2, mj_ar, mj_aw, mq_cb, mq_oi, mj_rm, Value.category, -getElem?_pos, List.getElem?_cons_zero, decide_eq_true, decide_eq_false, nl_lt, nl_le, ln_lt, ln_le, nl_eq, ln_eq, nl_add, ln_add, nl_sub, ln_mul, nI_sub, nI_mul, nI_add, nI_lt_iff, nI_le_iff, nI_inj, nI_num, mq_ix, nI_1, nl_mul, nl_div, x0, v0, y0, p1, y1, v1, narrow_b0, narrow_b1, on1_t, on1_f, hb])
theorem h_press (z : hz M H κs πs row) (hw : ∀ k ∈ H.2.2.1, k.1.2.1.1 ≤ 9) : ∃ M', mj_V (d + 2) 71 [.ref 25, .int i] M = some (some (.int (ho_press H i).1), M') ∧ hz M' (ho_press H i).2 κs πs row ∧ hf M M' := by
  have x0 := z.ob
  unfold ho_press
  cases hix : ix i H.2.2.1.length with
  | none =>
    have v0 := h_keyN (d := d) z hix
    refine ⟨M, ?_, z, hf.rf⟩
    simp (disch := (first | omega | decide)) [c71, s71_0, s71_1, s71_2, s71_5, s71_6, s71_7, s71_10, s71_11, s71_14, s71_15, s71_18, mq_k0s, mq_k1s, mq_k2s, mq_k4s, mq_k5s, mq_k5n, mq_k5as, mq_k6s, mj_pu, mj_lo, mj_br, mj_hr, mj_hw, mq_gf, mq_len, mq_al, mq_pf, mq_ok, mj_re, mq_lkm, mq_lkn, mj_ldi, mj_ldl, mj_lda, mj_ii, mj_ll, mj_li, mj_i1, ms_1, ms_2, f1_n, f1_i, f1_r, f1_u, f1_l, f2_n, f2_i, f2_r, f2_u, f2_l, mj_tg, mj_c1, mj_c2, mj_ar, mj_aw, mq_cb, mq_oi, mj_rm, Value.category, -getElem?_pos, List.getElem?_cons_zero, decide_eq_true, decide_eq_false, nl_lt, nl_le, ln_lt, ln_le, nl_eq, ln_eq, nl_add, ln_add, nl_sub, ln_mul, nI_sub, nI_mul, nI_add, nI_lt_iff, nI_le_iff, nI_inj, nI_num, mq_ix, nI_1, nl_mul, nl_div, x0, v0, narrow]
  | some j =>
    obtain ⟨rfl, hj, -⟩ := ix_some hix
    have hk := List.getElem?_eq_getElem hj
    obtain ⟨κ, hκ, zk⟩ := z.kzz hk
    have v0 := h_keyS (d := d) z hκ
    obtain ⟨u0, y0⟩ := zk.fa
    obtain ⟨M1, p1, z1, f1⟩ := ky_add (d := d) zk (hw _ (List.getElem_mem hj))
    obtain ⟨zz, g⟩ := z.kback hk hκ z1 f1.kr (zk.iwf f1 z.it)
    dsimp only
    rw [hk]
    refine ⟨M1, ?_, zz, g⟩
    simp (disch := (first | omega | decide)) [c71, s71_0, s71_1, s71_2, s71_5, s71_6, s71_7, s71_10, s71_11, s71_14, s71_15, s71_18, mq_k0s, mq_k1s, mq_k2s, mq_k4s, mq_k5s, mq_k5n, mq_k5as, mq_k6s, mj_pu, mj_lo, mj_br, mj_hr, mj_hw, mq_gf, mq_len, mq_al, mq_pf, mq_ok, mj_re, mq_lkm, mq_lkn, mj_ldi, mj_ldl, mj_lda, mj_ii, mj_ll, mj_li, mj_i1, ms_1, ms_2, f1_n, f1_i, f1_r, f1_u, f1_l, f2_n, f2_i, f2_r, f2_u, f2_l, mj_tg, mj_c1, mj_c2, mj_ar, mj_aw, mq_cb, mq_oi, mj_rm, Value.category, -getElem?_pos, List.getElem?_cons_zero, decide_eq_true, decide_eq_false, nl_lt, nl_le, ln_lt, ln_le, nl_eq, ln_eq, nl_add, ln_add, nl_sub, ln_mul, nI_sub, nI_mul, nI_add, nI_lt_iff, nI_le_iff, nI_inj, nI_num, mq_ix, nI_1, nl_mul, nl_div, x0, v0, y0, p1, narrow]
theorem h_cut (z : hz M H κs πs row) (a : Int32) : ∃ M', mj_V (d + 2) 73 [.ref 25, .int i, .int a] M = some (some (.int (ho_cut H i a).1), M') ∧ hz M' (ho_cut H i a).2 κs πs row ∧ hf M M' := by
  have x0 := z.ob
  have w0 := j_in (d := d) (v := a) (a := -1) (b := 2000) (M := M)
  unfold ho_cut
  cases hix : ix i H.2.2.1.length with
  | none =>
    have v0 := h_keyN (d := d) z hix
    refine ⟨M, ?_, z, hf.rf⟩
    simp (disch := (first | omega | decide)) [c73, s73_0, s73_1, s73_2, s73_5, s73_6, s73_7, s73_10, s73_11, s73_12, s73_15, s73_18, s73_21, s73_22, s73_23, s73_24, s73_25, s73_28, s73_29, mq_k0s, mq_k1s, mq_k2s, mq_k4s, mq_k5s, mq_k5n, mq_k5as, mq_k6s, mj_pu, mj_lo, mj_br, mj_hr, mj_hw, mq_gf, mq_len, mq_al, mq_pf, mq_ok, mj_re, mq_lkm, mq_lkn, mj_ldi, mj_ldl, mj_lda, mj_ii, mj_ll, mj_li, mj_i1, ms_1, ms_2, f1_n, f1_i, f1_r, f1_u, f1_l, f2_n, f2_i, f2_r, f2_u, f2_l, mj_tg, mj_c1, mj_c2, mj_ar, mj_aw, mq_cb, mq_oi, mj_rm, Value.category, -getElem?_pos, List.getElem?_cons_zero, decide_eq_true, decide_eq_false, nl_lt, nl_le, ln_lt, ln_le, nl_eq, ln_eq, nl_add, ln_add, nl_sub, ln_mul, nI_sub, nI_mul, nI_add, nI_lt_iff, nI_le_iff, nI_inj, nI_num, mq_ix, nI_1, nl_mul, nl_div, x0, v0, narrow_b0]
  | some j =>
    obtain ⟨rfl, hj, -⟩ := ix_some hix
    have hk := List.getElem?_eq_getElem hj
    obtain ⟨κ, hκ, zk⟩ := z.kzz hk
    have v0 := h_keyS (d := d) z hκ
    obtain ⟨u0, y0⟩ := zk.fa
    dsimp only
    rw [hk]
    dsimp only
    cases hin : inR a (-1) 2000 with
    | false =>
      rw [hin] at w0
      refine ⟨M, ?_, z, hf.rf⟩
      simp (disch := (first | omega | decide)) [c73, s73_0, s73_1, s73_2, s73_5, s73_6, s73_7, s73_10, s73_11, s73_12, s73_15, s73_18, s73_21, s73_22, s73_23, s73_24, s73_25, s73_28, s73_29, mq_k0s, mq_k1s, mq_k2s, mq_k4s, mq_k5s, mq_k5n, mq_k5as, mq_k6s, mj_pu, mj_lo, mj_br, mj_hr, mj_hw, mq_gf, mq_len, mq_al, mq_pf, mq_ok, mj_re, mq_lkm, mq_lkn, mj_ldi, mj_ldl, mj_lda, mj_ii, mj_ll, mj_li, mj_i1, ms_1, ms_2, f1_n, f1_i, f1_r, f1_u, f1_l, f2_n, f2_i, f2_r, f2_u, f2_l, mj_tg, mj_c1, mj_c2, mj_ar, mj_aw, mq_cb, mq_oi, mj_rm, Value.category, -getElem?_pos, List.getElem?_cons_zero, decide_eq_true, decide_eq_false, nl_lt, nl_le, ln_lt, ln_le, nl_eq, ln_eq, nl_add, ln_add, nl_sub, ln_mul, nI_sub, nI_mul, nI_add, nI_lt_iff, nI_le_iff, nI_inj, nI_num, mq_ix, nI_1, nl_mul, nl_div, x0, v0, w0, on1, narrow_b0]
    | true =>
      rw [hin] at w0
      obtain ⟨M1, p1, z1, f1⟩ := ky_fail (d := d) zk a
      obtain ⟨zz, g⟩ := z.kback hk hκ z1 f1.kr (zk.iwf f1 z.it)
      refine ⟨M1, ?_, zz, g⟩
      simp (disch := (first | omega | decide)) [c73, s73_0, s73_1, s73_2, s73_5, s73_6, s73_7, s73_10, s73_11, s73_12, s73_15, s73_18, s73_21, s73_22, s73_23, s73_24, s73_25, s73_28, s73_29, mq_k0s, mq_k1s, mq_k2s, mq_k4s, mq_k5s, mq_k5n, mq_k5as, mq_k6s, mj_pu, mj_lo, mj_br, mj_hr, mj_hw, mq_gf, mq_len, mq_al, mq_pf, mq_ok, mj_re, mq_lkm, mq_lkn, mj_ldi, mj_ldl, mj_lda, mj_ii, mj_ll, mj_li, mj_i1, ms_1, ms_2, f1_n, f1_i, f1_r, f1_u, f1_l, f2_n, f2_i, f2_r, f2_u, f2_l, mj_tg, mj_c1, mj_c2, mj_ar, mj_aw, mq_cb, mq_oi, mj_rm, Value.category, -getElem?_pos, List.getElem?_cons_zero, decide_eq_true, decide_eq_false, nl_lt, nl_le, ln_lt, ln_le, nl_eq, ln_eq, nl_add, ln_add, nl_sub, ln_mul, nI_sub, nI_mul, nI_add, nI_lt_iff, nI_le_iff, nI_inj, nI_num, mq_ix, nI_1, nl_mul, nl_div, x0, v0, w0, on1, y0, p1, narrow_b1]
/-- a part of the tape becomes the message -/
theorem h_msg (z : hz M H κs πs row) {m : Nat} (hm : m ≤ H.1.length) : ∃ M1 M2, mj_V (d + 2) 12 [.ref 28] M = some (none, M1) ∧ hz M1 H κs πs row ∧ hf M M1 ∧ bb M1 28 29 400 [] ∧ mj_V (d + 2) 77 [.ref 28, .ref 26, .int 0, .int (nI m)] M1 = some (none, M2) ∧ hz M2 H κs πs row ∧ hf M M2 ∧ bb M2 28 29 400 (H.1.take m) := by
  obtain ⟨ms, hms⟩ := z.ms
  have hl := z.tp.len
  obtain ⟨M1, p1, b1, f1⟩ := v_clear (d := d + 1) hms
  obtain ⟨z1, g1⟩ := z.mess b1 (f1.mono (by simp)) (mj_V_gr p1)
  obtain ⟨M2, p2, b2, f2⟩ := v_pushPart (d := d) (p := 0) (n := m) (by omega) (by omega) (by omega) (by omega) (by omega) b1 z1.tp
  rw [List.drop_zero, bt_app_in (by simp; omega), List.nil_append] at b2
  rw [nI_0] at p2
  obtain ⟨z2, g2⟩ := z1.mess b2 f2 (mj_V_gr p2)
  exact ⟨M1, M2, p1, z1, g1, b1, p2, z2, g1.tr g2, b2⟩
/-- the key takes the message -/
theorem h_rec (z : hz M H κs πs row) {j κ : Nat} {k : Ky} {ms : List Int32} (hk : H.2.2.1[j]? = some k) (hκ : κs[j]? = some κ) (hb : bb M 28 29 400 ms) (hg : kg k) (hf5 : H.2.1.1.length + 5 < 1000) : ∃ M' row', mj_V (d + 12) 78 [.ref κ, .ref 28] M = some (some (.int (ky_recv ms k H.2.1).1), M') ∧ hz M' ((H.1, ((ky_recv ms k H.2.1).2.2, (H.2.2.1.set j (ky_recv ms k H.2.1).2.1, (H.2.2.2.1, H.2.2.2.2)))) : Ho) κs πs row' ∧ hf M M' ∧ kz (hA κs πs) κ M' (ky_recv ms k H.2.1).2.1 (ky_recv ms k H.2.1).2.2 row' := by
  obtain ⟨κ', hκ', zk⟩ := z.kzz hk
  rw [hκ] at hκ'
  cases hκ'
  obtain ⟨M1, row1, p1, z1, f1, i1, b1⟩ := ky_rec (d := d) zk hb z.it hg hf5
  obtain ⟨zz, g⟩ := z.kback hk hκ z1 f1 i1
  exact ⟨M1, row1, p1, zz, g, z1⟩
theorem h_command (z : hz M H κs πs row) (n : Int32) (hg : ∀ k ∈ H.2.2.1, kg k) (hf5 : H.2.1.1.length + 5 < 1000) : ∃ M' row', mj_V (d + 13) 75 [.ref 25, .int i, .int n] M = some (some (.int (ho_command H i n).1), M') ∧ hz M' (ho_command H i n).2 κs πs row' ∧ hf M M' := by
  have x0 := z.ob
  obtain ⟨w0, hm⟩ := h_tp (d := d + 10) z n
  unfold ho_command
  cases hix : ix i H.2.2.1.length with
  | none =>
    have v0 := h_keyN (d := d + 11) z hix
    refine ⟨M, row, ?_, z, hf.rf⟩
    simp (disch := (first | omega | decide)) [c75, s75_0, s75_1, s75_2, s75_5, s75_6, s75_7, s75_8, s75_11, s75_13, s75_14, s75_17, s75_19, s75_20, s75_23, s75_24, s75_25, s75_26, s75_29, s75_32, s75_33, s75_36, s75_37, s75_40, s75_41, s75_43, s75_46, s75_47, s75_48, s75_51, s75_54, s75_56, s75_58, s75_60, s75_63, s75_65, s75_68, s75_69, s75_72, s75_75, mq_k0s, mq_k1s, mq_k2s, mq_k4s, mq_k5s, mq_k5n, mq_k5as, mq_k6s, mj_pu, mj_lo, mj_br, mj_hr, mj_hw, mq_gf, mq_len, mq_al, mq_pf, mq_ok, mj_re, mq_lkm, mq_lkn, mj_ldi, mj_ldl, mj_lda, mj_ii, mj_ll, mj_li, mj_i1, ms_1, ms_2, f1_n, f1_i, f1_r, f1_u, f1_l, f2_n, f2_i, f2_r, f2_u, f2_l, mj_tg, mj_c1, mj_c2, mj_ar, mj_aw, mq_cb, mq_oi, mj_rm, Value.category, -getElem?_pos, List.getElem?_cons_zero, decide_eq_true, decide_eq_false, nl_lt, nl_le, ln_lt, ln_le, nl_eq, ln_eq, nl_add, ln_add, nl_sub, ln_mul, nI_sub, nI_mul, nI_add, nI_lt_iff, nI_le_iff, nI_inj, nI_num, mq_ix, nI_1, nl_mul, nl_div, x0, v0, w0, narrow]
  | some j =>
    obtain ⟨rfl, hj, -⟩ := ix_some hix
    have hk := List.getElem?_eq_getElem hj
    obtain ⟨κ, hκ, zk⟩ := z.kzz hk
    have v0 := h_keyS (d := d + 11) z hκ
    cases htp : tp H n with
    | none =>
      rw [htp] at w0
      refine ⟨M, row, ?_, z, hf.rf⟩
      simp (disch := (first | omega | decide)) [c75, s75_0, s75_1, s75_2, s75_5, s75_6, s75_7, s75_8, s75_11, s75_13, s75_14, s75_17, s75_19, s75_20, s75_23, s75_24, s75_25, s75_26, s75_29, s75_32, s75_33, s75_36, s75_37, s75_40, s75_41, s75_43, s75_46, s75_47, s75_48, s75_51, s75_54, s75_56, s75_58, s75_60, s75_63, s75_65, s75_68, s75_69, s75_72, s75_75, mq_k0s, mq_k1s, mq_k2s, mq_k4s, mq_k5s, mq_k5n, mq_k5as, mq_k6s, mj_pu, mj_lo, mj_br, mj_hr, mj_hw, mq_gf, mq_len, mq_al, mq_pf, mq_ok, mj_re, mq_lkm, mq_lkn, mj_ldi, mj_ldl, mj_lda, mj_ii, mj_ll, mj_li, mj_i1, ms_1, ms_2, f1_n, f1_i, f1_r, f1_u, f1_l, f2_n, f2_i, f2_r, f2_u, f2_l, mj_tg, mj_c1, mj_c2, mj_ar, mj_aw, mq_cb, mq_oi, mj_rm, Value.category, -getElem?_pos, List.getElem?_cons_zero, decide_eq_true, decide_eq_false, nl_lt, nl_le, ln_lt, ln_le, nl_eq, ln_eq, nl_add, ln_add, nl_sub, ln_mul, nI_sub, nI_mul, nI_add, nI_lt_iff, nI_le_iff, nI_inj, nI_num, mq_ix, nI_1, nl_mul, nl_div, x0, v0, w0, narrow]
    | some m =>
      rw [htp] at w0
      have hm := hm m htp
      have hl := z.tp.len
      obtain ⟨ms, hms⟩ := z.ms
      have o0 := hms.2.2.2.2.2.1
      have o1 := z.tp.2.2.2.2.2.1
      obtain ⟨M1, M2, p1, z1, g1, b1, p2, z2, g2, b2⟩ := h_msg (d := d + 10) z hm
      obtain ⟨M3, row3, p3, z3, g3, zk3⟩ := h_rec (d := d) z2 hk hκ b2 (hg _ (List.getElem_mem hj)) hf5
      dsimp only
      rw [hk]
      dsimp only
      refine ⟨M3, row3, ?_, z3, g2.tr g3⟩
      have x1 := z1.ob
      have x2 := z2.ob
      have o2 := b1.2.2.2.2.2.1
      obtain ⟨κ', hκ', zk2⟩ := z2.kzz hk
      rw [hκ] at hκ'
      cases hκ'
      obtain ⟨u2, y2⟩ := zk2.fa
      obtain ⟨u3, y3⟩ := zk3.fa
      have v3 := v_size (d := d + 11) zk3.re
      by_cases hs : (ky_recv (H.1.take m) H.2.2.1[j] H.2.1).1 = -3
      · rw [hs] at p3
        simp (disch := (first | omega | decide)) [c75, s75_0, s75_1, s75_2, s75_5, s75_6, s75_7, s75_8, s75_11, s75_13, s75_14, s75_17, s75_19, s75_20, s75_23, s75_24, s75_25, s75_26, s75_29, s75_32, s75_33, s75_36, s75_37, s75_40, s75_41, s75_43, s75_46, s75_47, s75_48, s75_51, s75_54, s75_56, s75_58, s75_60, s75_63, s75_65, s75_68, s75_69, s75_72, s75_75, mq_k0s, mq_k1s, mq_k2s, mq_k4s, mq_k5s, mq_k5n, mq_k5as, mq_k6s, mj_pu, mj_lo, mj_br, mj_hr, mj_hw, mq_gf, mq_len, mq_al, mq_pf, mq_ok, mj_re, mq_lkm, mq_lkn, mj_ldi, mj_ldl, mj_lda, mj_ii, mj_ll, mj_li, mj_i1, ms_1, ms_2, f1_n, f1_i, f1_r, f1_u, f1_l, f2_n, f2_i, f2_r, f2_u, f2_l, mj_tg, mj_c1, mj_c2, mj_ar, mj_aw, mq_cb, mq_oi, mj_rm, Value.category, -getElem?_pos, List.getElem?_cons_zero, decide_eq_true, decide_eq_false, nl_lt, nl_le, ln_lt, ln_le, nl_eq, ln_eq, nl_add, ln_add, nl_sub, ln_mul, nI_sub, nI_mul, nI_add, nI_lt_iff, nI_le_iff, nI_inj, nI_num, mq_ix, nI_1, nl_mul, nl_div, x0, v0, w0, nI_m1, o0, o1, p1, x1, o2, p2, x2, y2, p3, hs, narrow]
      · simp (disch := (first | omega | decide)) [c75, s75_0, s75_1, s75_2, s75_5, s75_6, s75_7, s75_8, s75_11, s75_13, s75_14, s75_17, s75_19, s75_20, s75_23, s75_24, s75_25, s75_26, s75_29, s75_32, s75_33, s75_36, s75_37, s75_40, s75_41, s75_43, s75_46, s75_47, s75_48, s75_51, s75_54, s75_56, s75_58, s75_60, s75_63, s75_65, s75_68, s75_69, s75_72, s75_75, mq_k0s, mq_k1s, mq_k2s, mq_k4s, mq_k5s, mq_k5n, mq_k5as, mq_k6s, mj_pu, mj_lo, mj_br, mj_hr, mj_hw, mq_gf, mq_len, mq_al, mq_pf, mq_ok, mj_re, mq_lkm, mq_lkn, mj_ldi, mj_ldl, mj_lda, mj_ii, mj_ll, mj_li, mj_i1, ms_1, ms_2, f1_n, f1_i, f1_r, f1_u, f1_l, f2_n, f2_i, f2_r, f2_u, f2_l, mj_tg, mj_c1, mj_c2, mj_ar, mj_aw, mq_cb, mq_oi, mj_rm, Value.category, -getElem?_pos, List.getElem?_cons_zero, decide_eq_true, decide_eq_false, nl_lt, nl_le, ln_lt, ln_le, nl_eq, ln_eq, nl_add, ln_add, nl_sub, ln_mul, nI_sub, nI_mul, nI_add, nI_lt_iff, nI_le_iff, nI_inj, nI_num, mq_ix, nI_1, nl_mul, nl_div, x0, v0, w0, nI_m1, o0, o1, p1, x1, o2, p2, x2, y2, p3, hs, y3, v3, narrow]
theorem h_answer (z : hz M H κs πs row) (p : Int32) : mj_V (d + 2) 158 [.ref 25, .int i, .int p] M = some (some (.int (ho_answer H i p).1), M) := by
  have x0 := z.ob
  unfold ho_answer
  cases hix : ix i H.2.2.1.length with
  | none =>
    have v0 := h_keyN (d := d) z hix
    simp (disch := (first | omega | decide)) [c158, s158_0, s158_1, s158_2, s158_5, s158_6, s158_7, s158_10, s158_11, s158_14, s158_15, s158_18, s158_19, s158_22, mq_k0s, mq_k1s, mq_k2s, mq_k4s, mq_k5s, mq_k5n, mq_k5as, mq_k6s, mj_pu, mj_lo, mj_br, mj_hr, mj_hw, mq_gf, mq_len, mq_al, mq_pf, mq_ok, mj_re, mq_lkm, mq_lkn, mj_ldi, mj_ldl, mj_lda, mj_ii, mj_ll, mj_li, mj_i1, ms_1, ms_2, f1_n, f1_i, f1_r, f1_u, f1_l, f2_n, f2_i, f2_r, f2_u, f2_l, mj_tg, mj_c1, mj_c2, mj_ar, mj_aw, mq_cb, mq_oi, mj_rm, Value.category, -getElem?_pos, List.getElem?_cons_zero, decide_eq_true, decide_eq_false, nl_lt, nl_le, ln_lt, ln_le, nl_eq, ln_eq, nl_add, ln_add, nl_sub, ln_mul, nI_sub, nI_mul, nI_add, nI_lt_iff, nI_le_iff, nI_inj, nI_num, mq_ix, nI_1, nl_mul, nl_div, x0, v0, narrow]
  | some j =>
    obtain ⟨rfl, hj, -⟩ := ix_some hix
    have hk := List.getElem?_eq_getElem hj
    obtain ⟨κ, hκ, zk⟩ := z.kzz hk
    have v0 := h_keyS (d := d) z hκ
    obtain ⟨u0, y0⟩ := zk.fa
    have v1 := v_item (d := d) zk.re p
    dsimp only
    rw [hk]
    simp (disch := (first | omega | decide)) [c158, s158_0, s158_1, s158_2, s158_5, s158_6, s158_7, s158_10, s158_11, s158_14, s158_15, s158_18, s158_19, s158_22, mq_k0s, mq_k1s, mq_k2s, mq_k4s, mq_k5s, mq_k5n, mq_k5as, mq_k6s, mj_pu, mj_lo, mj_br, mj_hr, mj_hw, mq_gf, mq_len, mq_al, mq_pf, mq_ok, mj_re, mq_lkm, mq_lkn, mj_ldi, mj_ldl, mj_lda, mj_ii, mj_ll, mj_li, mj_i1, ms_1, ms_2, f1_n, f1_i, f1_r, f1_u, f1_l, f2_n, f2_i, f2_r, f2_u, f2_l, mj_tg, mj_c1, mj_c2, mj_ar, mj_aw, mq_cb, mq_oi, mj_rm, Value.category, -getElem?_pos, List.getElem?_cons_zero, decide_eq_true, decide_eq_false, nl_lt, nl_le, ln_lt, ln_le, nl_eq, ln_eq, nl_add, ln_add, nl_sub, ln_mul, nI_sub, nI_mul, nI_add, nI_lt_iff, nI_le_iff, nI_inj, nI_num, mq_ix, nI_1, nl_mul, nl_div, x0, v0, y0, v1, narrow]
theorem h_take (z : hz M H κs πs row) : ∃ M', mj_V (d + 3) 159 [.ref 25, .int i] M = some (some (.int (ho_take H i).1), M') ∧ hz M' (ho_take H i).2 κs πs row ∧ hf M M' := by
  have x0 := z.ob
  unfold ho_take
  cases hix : ix i H.2.2.1.length with
  | none =>
    have v0 := h_keyN (d := d + 1) z hix
    refine ⟨M, ?_, z, hf.rf⟩
    simp (disch := (first | omega | decide)) [c159, s159_0, s159_1, s159_2, s159_5, s159_6, s159_7, s159_10, s159_11, s159_14, s159_17, s159_20, s159_21, s159_22, s159_23, s159_26, s159_29, s159_30, s159_33, s159_34, s159_37, s159_38, s159_39, s159_42, s159_45, s159_48, s159_49, s159_52, s159_55, mq_k0s, mq_k1s, mq_k2s, mq_k4s, mq_k5s, mq_k5n, mq_k5as, mq_k6s, mj_pu, mj_lo, mj_br, mj_hr, mj_hw, mq_gf, mq_len, mq_al, mq_pf, mq_ok, mj_re, mq_lkm, mq_lkn, mj_ldi, mj_ldl, mj_lda, mj_ii, mj_ll, mj_li, mj_i1, ms_1, ms_2, f1_n, f1_i, f1_r, f1_u, f1_l, f2_n, f2_i, f2_r, f2_u, f2_l, mj_tg, mj_c1, mj_c2, mj_ar, mj_aw, mq_cb, mq_oi, mj_rm, Value.category, -getElem?_pos, List.getElem?_cons_zero, decide_eq_true, decide_eq_false, nl_lt, nl_le, ln_lt, ln_le, nl_eq, ln_eq, nl_add, ln_add, nl_sub, ln_mul, nI_sub, nI_mul, nI_add, nI_lt_iff, nI_le_iff, nI_inj, nI_num, mq_ix, nI_1, nl_mul, nl_div, x0, v0, narrow]
  | some j =>
    obtain ⟨rfl, hj, -⟩ := ix_some hix
    have hk := List.getElem?_eq_getElem hj
    obtain ⟨κ, hκ, zk⟩ := z.kzz hk
    have v0 := h_keyS (d := d + 1) z hκ
    obtain ⟨u0, y0⟩ := zk.fa
    have v1 := v_size (d := d + 1) zk.re
    dsimp only
    rw [hk]
    dsimp only
    by_cases hr : H.2.2.1[j].1.1.1.2 = []
    · rw [if_pos hr]
      refine ⟨M, ?_, z, hf.rf⟩
      rw [hr] at v1
      simp (disch := (first | omega | decide)) [c159, s159_0, s159_1, s159_2, s159_5, s159_6, s159_7, s159_10, s159_11, s159_14, s159_17, s159_20, s159_21, s159_22, s159_23, s159_26, s159_29, s159_30, s159_33, s159_34, s159_37, s159_38, s159_39, s159_42, s159_45, s159_48, s159_49, s159_52, s159_55, mq_k0s, mq_k1s, mq_k2s, mq_k4s, mq_k5s, mq_k5n, mq_k5as, mq_k6s, mj_pu, mj_lo, mj_br, mj_hr, mj_hw, mq_gf, mq_len, mq_al, mq_pf, mq_ok, mj_re, mq_lkm, mq_lkn, mj_ldi, mj_ldl, mj_lda, mj_ii, mj_ll, mj_li, mj_i1, ms_1, ms_2, f1_n, f1_i, f1_r, f1_u, f1_l, f2_n, f2_i, f2_r, f2_u, f2_l, mj_tg, mj_c1, mj_c2, mj_ar, mj_aw, mq_cb, mq_oi, mj_rm, Value.category, -getElem?_pos, List.getElem?_cons_zero, decide_eq_true, decide_eq_false, nl_lt, nl_le, ln_lt, ln_le, nl_eq, ln_eq, nl_add, ln_add, nl_sub, ln_mul, nI_sub, nI_mul, nI_add, nI_lt_iff, nI_le_iff, nI_inj, nI_num, mq_ix, nI_1, nl_mul, nl_div, x0, v0, y0, v1, narrow]
    · rw [if_neg hr]
      have hr0 : ¬ H.2.2.1[j].1.1.1.2.length = 0 := fun h => hr (List.length_eq_zero_iff.mp h)
      have hrl := zk.re.len
      obtain ⟨M1, p1, b1, f1⟩ := v_clear (d := d + 1) z.tp
      obtain ⟨z1, g1⟩ := z.tape b1 (f1.mono (by simp)) (mj_V_gr p1)
      obtain ⟨κ', hκ', zk1⟩ := z1.kzz hk
      rw [hκ] at hκ'
      cases hκ'
      have hlo := zk.lo
      obtain ⟨M2, p2, b2, f2⟩ := v_pushPart (d := d) (p := 0) (n := H.2.2.1[j].1.1.1.2.length) (by omega) (by omega) (by omega) (by omega) (by omega) b1 zk1.re
      rw [List.drop_zero, bt_app_in (by simp; omega), List.nil_append, List.take_of_length_le (Nat.le_refl _)] at b2
      rw [nI_0] at p2
      obtain ⟨z2, g2⟩ := z1.tape b2 f2 (mj_V_gr p2)
      refine ⟨M2, ?_, z2, g1.tr g2⟩
      have x1 := z1.ob
      have x2 := z2.ob
      obtain ⟨u1, y1⟩ := zk1.fa
      have o0 := z.tp.2.2.2.2.2.1
      have o1 := b1.2.2.2.2.2.1
      have o2 := b2.2.2.2.2.2.1
      have w1 := v_size (d := d + 1) zk1.re
      have w2 := v_size (d := d + 1) b2
      simp (disch := (first | omega | decide)) [c159, s159_0, s159_1, s159_2, s159_5, s159_6, s159_7, s159_10, s159_11, s159_14, s159_17, s159_20, s159_21, s159_22, s159_23, s159_26, s159_29, s159_30, s159_33, s159_34, s159_37, s159_38, s159_39, s159_42, s159_45, s159_48, s159_49, s159_52, s159_55, mq_k0s, mq_k1s, mq_k2s, mq_k4s, mq_k5s, mq_k5n, mq_k5as, mq_k6s, mj_pu, mj_lo, mj_br, mj_hr, mj_hw, mq_gf, mq_len, mq_al, mq_pf, mq_ok, mj_re, mq_lkm, mq_lkn, mj_ldi, mj_ldl, mj_lda, mj_ii, mj_ll, mj_li, mj_i1, ms_1, ms_2, f1_n, f1_i, f1_r, f1_u, f1_l, f2_n, f2_i, f2_r, f2_u, f2_l, mj_tg, mj_c1, mj_c2, mj_ar, mj_aw, mq_cb, mq_oi, mj_rm, Value.category, -getElem?_pos, List.getElem?_cons_zero, decide_eq_true, decide_eq_false, nl_lt, nl_le, ln_lt, ln_le, nl_eq, ln_eq, nl_add, ln_add, nl_sub, ln_mul, nI_sub, nI_mul, nI_add, nI_lt_iff, nI_le_iff, nI_inj, nI_num, mq_ix, nI_1, nl_mul, nl_div, x0, v0, y0, v1, hr0, o0, p1, x1, o1, y1, w1, p2, x2, o2, w2, narrow]
theorem h_flash (z : hz M H κs πs row) (p : Int32) : mj_V (d + 2) 160 [.ref 25, .int i, .int p] M = some (some (.int (ho_flash H i p).1), M) := by
  have x0 := z.ob
  unfold ho_flash
  cases hix : ix i H.2.2.1.length with
  | none =>
    have v0 := h_keyN (d := d) z hix
    simp (disch := (first | omega | decide)) [c160, s160_0, s160_1, s160_2, s160_5, s160_6, s160_7, s160_10, s160_11, s160_14, s160_15, s160_18, s160_21, s160_22, s160_25, mq_k0s, mq_k1s, mq_k2s, mq_k4s, mq_k5s, mq_k5n, mq_k5as, mq_k6s, mj_pu, mj_lo, mj_br, mj_hr, mj_hw, mq_gf, mq_len, mq_al, mq_pf, mq_ok, mj_re, mq_lkm, mq_lkn, mj_ldi, mj_ldl, mj_lda, mj_ii, mj_ll, mj_li, mj_i1, ms_1, ms_2, f1_n, f1_i, f1_r, f1_u, f1_l, f2_n, f2_i, f2_r, f2_u, f2_l, mj_tg, mj_c1, mj_c2, mj_ar, mj_aw, mq_cb, mq_oi, mj_rm, Value.category, -getElem?_pos, List.getElem?_cons_zero, decide_eq_true, decide_eq_false, nl_lt, nl_le, ln_lt, ln_le, nl_eq, ln_eq, nl_add, ln_add, nl_sub, ln_mul, nI_sub, nI_mul, nI_add, nI_lt_iff, nI_le_iff, nI_inj, nI_num, mq_ix, nI_1, nl_mul, nl_div, x0, v0, narrow]
  | some j =>
    obtain ⟨rfl, hj, -⟩ := ix_some hix
    have hk := List.getElem?_eq_getElem hj
    obtain ⟨κ, hκ, zk⟩ := z.kzz hk
    have v0 := h_keyS (d := d) z hκ
    obtain ⟨u0, y0⟩ := zk.fa
    obtain ⟨r, hr⟩ := zk.st
    have o0 := hr.ce.2.2.2.2.2.1
    have v1 := v_item (d := d) hr.ce p
    dsimp only
    rw [hk]
    simp (disch := (first | omega | decide)) [c160, s160_0, s160_1, s160_2, s160_5, s160_6, s160_7, s160_10, s160_11, s160_14, s160_15, s160_18, s160_21, s160_22, s160_25, mq_k0s, mq_k1s, mq_k2s, mq_k4s, mq_k5s, mq_k5n, mq_k5as, mq_k6s, mj_pu, mj_lo, mj_br, mj_hr, mj_hw, mq_gf, mq_len, mq_al, mq_pf, mq_ok, mj_re, mq_lkm, mq_lkn, mj_ldi, mj_ldl, mj_lda, mj_ii, mj_ll, mj_li, mj_i1, ms_1, ms_2, f1_n, f1_i, f1_r, f1_u, f1_l, f2_n, f2_i, f2_r, f2_u, f2_l, mj_tg, mj_c1, mj_c2, mj_ar, mj_aw, mq_cb, mq_oi, mj_rm, Value.category, -getElem?_pos, List.getElem?_cons_zero, decide_eq_true, decide_eq_false, nl_lt, nl_le, ln_lt, ln_le, nl_eq, ln_eq, nl_add, ln_add, nl_sub, ln_mul, nI_sub, nI_mul, nI_add, nI_lt_iff, nI_le_iff, nI_inj, nI_num, mq_ix, nI_1, nl_mul, nl_div, x0, v0, y0, o0, v1, narrow]
theorem ky_tel {A : Nat → Prop} {κ : Nat} {k : Ky} {T : Tm} (z : kz A κ M k T row) (w : Int32) : mj_V (d + 1) 162 [.ref κ, .int w] M = some (some (.int (ky_tell k w)), M) := by
  obtain ⟨u0, x0⟩ := z.fa
  unfold ky_tell
  by_cases h0 : w = 0
  · subst h0
    cases hon : k.1.1.1.1.2.1 <;> (rw [hon] at x0; simp (disch := (first | omega | decide)) [c162, s162_0, s162_1, s162_36, s162_37, s162_40, s162_43, s162_46, s162_47, s162_50, s162_51, s162_52, s162_53, s162_56, s162_59, s162_60, s162_61, s162_64, s162_65, s162_66, s162_69, s162_70, s162_71, s162_74, s162_75, s162_76, mq_k0s, mq_k1s, mq_k2s, mq_k4s, mq_k5s, mq_k5n, mq_k5as, mq_k6s, mj_pu, mj_lo, mj_br, mj_hr, mj_hw, mq_gf, mq_len, mq_al, mq_pf, mq_ok, mj_re, mq_lkm, mq_lkn, mj_ldi, mj_ldl, mj_lda, mj_ii, mj_ll, mj_li, mj_i1, ms_1, ms_2, f1_n, f1_i, f1_r, f1_u, f1_l, f2_n, f2_i, f2_r, f2_u, f2_l, mj_tg, mj_c1, mj_c2, mj_ar, mj_aw, mq_cb, mq_oi, mj_rm, Value.category, -getElem?_pos, List.getElem?_cons_zero, decide_eq_true, decide_eq_false, nl_lt, nl_le, ln_lt, ln_le, nl_eq, ln_eq, nl_add, ln_add, nl_sub, ln_mul, nI_sub, nI_mul, nI_add, nI_lt_iff, nI_le_iff, nI_inj, nI_num, mq_ix, nI_1, nl_mul, nl_div, x0, on1, narrow])
  by_cases h1 : w = 1
  · subst h1; simp (disch := (first | omega | decide)) [c162, s162_0, s162_1, s162_36, s162_37, s162_40, s162_43, s162_46, s162_47, s162_50, s162_51, s162_52, s162_53, s162_56, s162_59, s162_60, s162_61, s162_64, s162_65, s162_66, s162_69, s162_70, s162_71, s162_74, s162_75, s162_76, mq_k0s, mq_k1s, mq_k2s, mq_k4s, mq_k5s, mq_k5n, mq_k5as, mq_k6s, mj_pu, mj_lo, mj_br, mj_hr, mj_hw, mq_gf, mq_len, mq_al, mq_pf, mq_ok, mj_re, mq_lkm, mq_lkn, mj_ldi, mj_ldl, mj_lda, mj_ii, mj_ll, mj_li, mj_i1, ms_1, ms_2, f1_n, f1_i, f1_r, f1_u, f1_l, f2_n, f2_i, f2_r, f2_u, f2_l, mj_tg, mj_c1, mj_c2, mj_ar, mj_aw, mq_cb, mq_oi, mj_rm, Value.category, -getElem?_pos, List.getElem?_cons_zero, decide_eq_true, decide_eq_false, nl_lt, nl_le, ln_lt, ln_le, nl_eq, ln_eq, nl_add, ln_add, nl_sub, ln_mul, nI_sub, nI_mul, nI_add, nI_lt_iff, nI_le_iff, nI_inj, nI_num, mq_ix, nI_1, nl_mul, nl_div, x0, narrow]
  by_cases h2 : w = 2
  · subst h2; simp (disch := (first | omega | decide)) [c162, s162_0, s162_1, s162_36, s162_37, s162_40, s162_43, s162_46, s162_47, s162_50, s162_51, s162_52, s162_53, s162_56, s162_59, s162_60, s162_61, s162_64, s162_65, s162_66, s162_69, s162_70, s162_71, s162_74, s162_75, s162_76, mq_k0s, mq_k1s, mq_k2s, mq_k4s, mq_k5s, mq_k5n, mq_k5as, mq_k6s, mj_pu, mj_lo, mj_br, mj_hr, mj_hw, mq_gf, mq_len, mq_al, mq_pf, mq_ok, mj_re, mq_lkm, mq_lkn, mj_ldi, mj_ldl, mj_lda, mj_ii, mj_ll, mj_li, mj_i1, ms_1, ms_2, f1_n, f1_i, f1_r, f1_u, f1_l, f2_n, f2_i, f2_r, f2_u, f2_l, mj_tg, mj_c1, mj_c2, mj_ar, mj_aw, mq_cb, mq_oi, mj_rm, Value.category, -getElem?_pos, List.getElem?_cons_zero, decide_eq_true, decide_eq_false, nl_lt, nl_le, ln_lt, ln_le, nl_eq, ln_eq, nl_add, ln_add, nl_sub, ln_mul, nI_sub, nI_mul, nI_add, nI_lt_iff, nI_le_iff, nI_inj, nI_num, mq_ix, nI_1, nl_mul, nl_div, x0, narrow]
  by_cases h3 : w = 3
  · subst h3; simp (disch := (first | omega | decide)) [c162, s162_0, s162_1, s162_36, s162_37, s162_40, s162_43, s162_46, s162_47, s162_50, s162_51, s162_52, s162_53, s162_56, s162_59, s162_60, s162_61, s162_64, s162_65, s162_66, s162_69, s162_70, s162_71, s162_74, s162_75, s162_76, mq_k0s, mq_k1s, mq_k2s, mq_k4s, mq_k5s, mq_k5n, mq_k5as, mq_k6s, mj_pu, mj_lo, mj_br, mj_hr, mj_hw, mq_gf, mq_len, mq_al, mq_pf, mq_ok, mj_re, mq_lkm, mq_lkn, mj_ldi, mj_ldl, mj_lda, mj_ii, mj_ll, mj_li, mj_i1, ms_1, ms_2, f1_n, f1_i, f1_r, f1_u, f1_l, f2_n, f2_i, f2_r, f2_u, f2_l, mj_tg, mj_c1, mj_c2, mj_ar, mj_aw, mq_cb, mq_oi, mj_rm, Value.category, -getElem?_pos, List.getElem?_cons_zero, decide_eq_true, decide_eq_false, nl_lt, nl_le, ln_lt, ln_le, nl_eq, ln_eq, nl_add, ln_add, nl_sub, ln_mul, nI_sub, nI_mul, nI_add, nI_lt_iff, nI_le_iff, nI_inj, nI_num, mq_ix, nI_1, nl_mul, nl_div, x0, narrow]
  by_cases h4 : w = 4
  · subst h4; simp (disch := (first | omega | decide)) [c162, s162_0, s162_1, s162_36, s162_37, s162_40, s162_43, s162_46, s162_47, s162_50, s162_51, s162_52, s162_53, s162_56, s162_59, s162_60, s162_61, s162_64, s162_65, s162_66, s162_69, s162_70, s162_71, s162_74, s162_75, s162_76, mq_k0s, mq_k1s, mq_k2s, mq_k4s, mq_k5s, mq_k5n, mq_k5as, mq_k6s, mj_pu, mj_lo, mj_br, mj_hr, mj_hw, mq_gf, mq_len, mq_al, mq_pf, mq_ok, mj_re, mq_lkm, mq_lkn, mj_ldi, mj_ldl, mj_lda, mj_ii, mj_ll, mj_li, mj_i1, ms_1, ms_2, f1_n, f1_i, f1_r, f1_u, f1_l, f2_n, f2_i, f2_r, f2_u, f2_l, mj_tg, mj_c1, mj_c2, mj_ar, mj_aw, mq_cb, mq_oi, mj_rm, Value.category, -getElem?_pos, List.getElem?_cons_zero, decide_eq_true, decide_eq_false, nl_lt, nl_le, ln_lt, ln_le, nl_eq, ln_eq, nl_add, ln_add, nl_sub, ln_mul, nI_sub, nI_mul, nI_add, nI_lt_iff, nI_le_iff, nI_inj, nI_num, mq_ix, nI_1, nl_mul, nl_div, x0, narrow]
  have hw : w.toInt < 0 ∨ 4 < w.toInt := by
    have g0 := ne_toInt h0
    have g1 := ne_toInt h1
    have g2 := ne_toInt h2
    have g3 := ne_toInt h3
    have g4 := ne_toInt h4
    simp at g0 g1 g2 g3 g4
    omega
  simp (disch := (first | omega | decide)) [c162, s162_0, s162_1, s162_36, s162_37, s162_40, s162_43, s162_46, s162_47, s162_50, s162_51, s162_52, s162_53, s162_56, s162_59, s162_60, s162_61, s162_64, s162_65, s162_66, s162_69, s162_70, s162_71, s162_74, s162_75, s162_76, mq_k0s, mq_k1s, mq_k2s, mq_k4s, mq_k5s, mq_k5n, mq_k5as, mq_k6s, mj_pu, mj_lo, mj_br, mj_hr, mj_hw, mq_gf, mq_len, mq_al, mq_pf, mq_ok, mj_re, mq_lkm, mq_lkn, mj_ldi, mj_ldl, mj_lda, mj_ii, mj_ll, mj_li, mj_i1, ms_1, ms_2, f1_n, f1_i, f1_r, f1_u, f1_l, f2_n, f2_i, f2_r, f2_u, f2_l, mj_tg, mj_c1, mj_c2, mj_ar, mj_aw, mq_cb, mq_oi, mj_rm, Value.category, -getElem?_pos, List.getElem?_cons_zero, decide_eq_true, decide_eq_false, nl_lt, nl_le, ln_lt, ln_le, nl_eq, ln_eq, nl_add, ln_add, nl_sub, ln_mul, nI_sub, nI_mul, nI_add, nI_lt_iff, nI_le_iff, nI_inj, nI_num, mq_ix, nI_1, nl_mul, nl_div, x0, h0, h1, h2, h3, h4, hw, narrow]
theorem h_told (z : hz M H κs πs row) (w : Int32) : mj_V (d + 2) 161 [.ref 25, .int i, .int w] M = some (some (.int (ho_told H i w).1), M) := by
  have x0 := z.ob
  unfold ho_told
  cases hix : ix i H.2.2.1.length with
  | none =>
    have v0 := h_keyN (d := d) z hix
    simp (disch := (first | omega | decide)) [c161, s161_0, s161_1, s161_2, s161_5, s161_6, s161_7, s161_10, s161_11, s161_12, s161_13, s161_14, s161_17, s161_18, s161_19, s161_22, s161_25, s161_26, s161_29, s161_30, s161_33, mq_k0s, mq_k1s, mq_k2s, mq_k4s, mq_k5s, mq_k5n, mq_k5as, mq_k6s, mj_pu, mj_lo, mj_br, mj_hr, mj_hw, mq_gf, mq_len, mq_al, mq_pf, mq_ok, mj_re, mq_lkm, mq_lkn, mj_ldi, mj_ldl, mj_lda, mj_ii, mj_ll, mj_li, mj_i1, ms_1, ms_2, f1_n, f1_i, f1_r, f1_u, f1_l, f2_n, f2_i, f2_r, f2_u, f2_l, mj_tg, mj_c1, mj_c2, mj_ar, mj_aw, mq_cb, mq_oi, mj_rm, Value.category, -getElem?_pos, List.getElem?_cons_zero, decide_eq_true, decide_eq_false, nl_lt, nl_le, ln_lt, ln_le, nl_eq, ln_eq, nl_add, ln_add, nl_sub, ln_mul, nI_sub, nI_mul, nI_add, nI_lt_iff, nI_le_iff, nI_inj, nI_num, mq_ix, nI_1, nl_mul, nl_div, x0, v0, narrow]
  | some j =>
    obtain ⟨rfl, hj, -⟩ := ix_some hix
    have hk := List.getElem?_eq_getElem hj
    obtain ⟨κ, hκ, zk⟩ := z.kzz hk
    have v0 := h_keyS (d := d) z hκ
    obtain ⟨u0, y0⟩ := zk.fa
    obtain ⟨r, hr⟩ := zk.st
    have v1 := ky_tel (d := d) zk w
    have v2 := st_tells (d := d) (w := w) hr
    dsimp only
    rw [hk]
    by_cases h5 : w < 5
    · have n5 : ¬ 5 ≤ w := by rw [Int32.le_iff_toInt_le]; rw [Int32.lt_iff_toInt_lt] at h5; omega
      simp (disch := (first | omega | decide)) [c161, s161_0, s161_1, s161_2, s161_5, s161_6, s161_7, s161_10, s161_11, s161_12, s161_13, s161_14, s161_17, s161_18, s161_19, s161_22, s161_25, s161_26, s161_29, s161_30, s161_33, mq_k0s, mq_k1s, mq_k2s, mq_k4s, mq_k5s, mq_k5n, mq_k5as, mq_k6s, mj_pu, mj_lo, mj_br, mj_hr, mj_hw, mq_gf, mq_len, mq_al, mq_pf, mq_ok, mj_re, mq_lkm, mq_lkn, mj_ldi, mj_ldl, mj_lda, mj_ii, mj_ll, mj_li, mj_i1, ms_1, ms_2, f1_n, f1_i, f1_r, f1_u, f1_l, f2_n, f2_i, f2_r, f2_u, f2_l, mj_tg, mj_c1, mj_c2, mj_ar, mj_aw, mq_cb, mq_oi, mj_rm, Value.category, -getElem?_pos, List.getElem?_cons_zero, decide_eq_true, decide_eq_false, nl_lt, nl_le, ln_lt, ln_le, nl_eq, ln_eq, nl_add, ln_add, nl_sub, ln_mul, nI_sub, nI_mul, nI_add, nI_lt_iff, nI_le_iff, nI_inj, nI_num, mq_ix, nI_1, nl_mul, nl_div, x0, v0, y0, h5, n5, v1, narrow]
    · have n5 : 5 ≤ w := by rw [Int32.le_iff_toInt_le]; rw [Int32.lt_iff_toInt_lt] at h5; omega
      simp (disch := (first | omega | decide)) [c161, s161_0, s161_1, s161_2, s161_5, s161_6, s161_7, s161_10, s161_11, s161_12, s161_13, s161_14, s161_17, s161_18, s161_19, s161_22, s161_25, s161_26, s161_29, s161_30, s161_33, mq_k0s, mq_k1s, mq_k2s, mq_k4s, mq_k5s, mq_k5n, mq_k5as, mq_k6s, mj_pu, mj_lo, mj_br, mj_hr, mj_hw, mq_gf, mq_len, mq_al, mq_pf, mq_ok, mj_re, mq_lkm, mq_lkn, mj_ldi, mj_ldl, mj_lda, mj_ii, mj_ll, mj_li, mj_i1, ms_1, ms_2, f1_n, f1_i, f1_r, f1_u, f1_l, f2_n, f2_i, f2_r, f2_u, f2_l, mj_tg, mj_c1, mj_c2, mj_ar, mj_aw, mq_cb, mq_oi, mj_rm, Value.category, -getElem?_pos, List.getElem?_cons_zero, decide_eq_true, decide_eq_false, nl_lt, nl_le, ln_lt, ln_le, nl_eq, ln_eq, nl_add, ln_add, nl_sub, ln_mul, nI_sub, nI_mul, nI_add, nI_lt_iff, nI_le_iff, nI_inj, nI_num, mq_ix, nI_1, nl_mul, nl_div, x0, v0, y0, h5, n5, v2, narrow]
theorem j_cr {a : Nat} {c : Cr} (hc : M[a]? = some (cc c)) (hu : c.2.2.2.1.length ≤ 8 ∧ ∀ v ∈ c.2.2.2.1, v &&& 255 = v) (w : Int32) : mj_V (d + 2) 165 [.ref a, .int w] M = some (some (.int (cr_tell c w)), M) := by
  unfold cc at hc
  unfold cr_tell
  by_cases h0 : w = 0
  · subst h0; simp (disch := (first | omega | decide)) [c165, s165_0, s165_1, s165_32, s165_33, s165_36, s165_37, s165_38, s165_41, s165_42, s165_43, s165_46, s165_47, s165_48, s165_51, s165_52, s165_53, s165_54, s165_57, s165_58, s165_61, s165_62, s165_65, s165_66, s165_69, s165_70, s165_71, s165_72, s165_75, mq_k0s, mq_k1s, mq_k2s, mq_k4s, mq_k5s, mq_k5n, mq_k5as, mq_k6s, mj_pu, mj_lo, mj_br, mj_hr, mj_hw, mq_gf, mq_len, mq_al, mq_pf, mq_ok, mj_re, mq_lkm, mq_lkn, mj_ldi, mj_ldl, mj_lda, mj_ii, mj_ll, mj_li, mj_i1, ms_1, ms_2, f1_n, f1_i, f1_r, f1_u, f1_l, f2_n, f2_i, f2_r, f2_u, f2_l, mj_tg, mj_c1, mj_c2, mj_ar, mj_aw, mq_cb, mq_oi, mj_rm, Value.category, -getElem?_pos, List.getElem?_cons_zero, decide_eq_true, decide_eq_false, nl_lt, nl_le, ln_lt, ln_le, nl_eq, ln_eq, nl_add, ln_add, nl_sub, ln_mul, nI_sub, nI_mul, nI_add, nI_lt_iff, nI_le_iff, nI_inj, nI_num, mq_ix, nI_1, nl_mul, nl_div, hc, narrow]
  by_cases h1 : w = 1
  · subst h1; simp (disch := (first | omega | decide)) [c165, s165_0, s165_1, s165_32, s165_33, s165_36, s165_37, s165_38, s165_41, s165_42, s165_43, s165_46, s165_47, s165_48, s165_51, s165_52, s165_53, s165_54, s165_57, s165_58, s165_61, s165_62, s165_65, s165_66, s165_69, s165_70, s165_71, s165_72, s165_75, mq_k0s, mq_k1s, mq_k2s, mq_k4s, mq_k5s, mq_k5n, mq_k5as, mq_k6s, mj_pu, mj_lo, mj_br, mj_hr, mj_hw, mq_gf, mq_len, mq_al, mq_pf, mq_ok, mj_re, mq_lkm, mq_lkn, mj_ldi, mj_ldl, mj_lda, mj_ii, mj_ll, mj_li, mj_i1, ms_1, ms_2, f1_n, f1_i, f1_r, f1_u, f1_l, f2_n, f2_i, f2_r, f2_u, f2_l, mj_tg, mj_c1, mj_c2, mj_ar, mj_aw, mq_cb, mq_oi, mj_rm, Value.category, -getElem?_pos, List.getElem?_cons_zero, decide_eq_true, decide_eq_false, nl_lt, nl_le, ln_lt, ln_le, nl_eq, ln_eq, nl_add, ln_add, nl_sub, ln_mul, nI_sub, nI_mul, nI_add, nI_lt_iff, nI_le_iff, nI_inj, nI_num, mq_ix, nI_1, nl_mul, nl_div, hc, narrow]
  by_cases h2 : w = 2
  · subst h2; simp (disch := (first | omega | decide)) [c165, s165_0, s165_1, s165_32, s165_33, s165_36, s165_37, s165_38, s165_41, s165_42, s165_43, s165_46, s165_47, s165_48, s165_51, s165_52, s165_53, s165_54, s165_57, s165_58, s165_61, s165_62, s165_65, s165_66, s165_69, s165_70, s165_71, s165_72, s165_75, mq_k0s, mq_k1s, mq_k2s, mq_k4s, mq_k5s, mq_k5n, mq_k5as, mq_k6s, mj_pu, mj_lo, mj_br, mj_hr, mj_hw, mq_gf, mq_len, mq_al, mq_pf, mq_ok, mj_re, mq_lkm, mq_lkn, mj_ldi, mj_ldl, mj_lda, mj_ii, mj_ll, mj_li, mj_i1, ms_1, ms_2, f1_n, f1_i, f1_r, f1_u, f1_l, f2_n, f2_i, f2_r, f2_u, f2_l, mj_tg, mj_c1, mj_c2, mj_ar, mj_aw, mq_cb, mq_oi, mj_rm, Value.category, -getElem?_pos, List.getElem?_cons_zero, decide_eq_true, decide_eq_false, nl_lt, nl_le, ln_lt, ln_le, nl_eq, ln_eq, nl_add, ln_add, nl_sub, ln_mul, nI_sub, nI_mul, nI_add, nI_lt_iff, nI_le_iff, nI_inj, nI_num, mq_ix, nI_1, nl_mul, nl_div, hc, narrow]
  by_cases h3 : w = 3
  · subst h3; simp (disch := (first | omega | decide)) [c165, s165_0, s165_1, s165_32, s165_33, s165_36, s165_37, s165_38, s165_41, s165_42, s165_43, s165_46, s165_47, s165_48, s165_51, s165_52, s165_53, s165_54, s165_57, s165_58, s165_61, s165_62, s165_65, s165_66, s165_69, s165_70, s165_71, s165_72, s165_75, mq_k0s, mq_k1s, mq_k2s, mq_k4s, mq_k5s, mq_k5n, mq_k5as, mq_k6s, mj_pu, mj_lo, mj_br, mj_hr, mj_hw, mq_gf, mq_len, mq_al, mq_pf, mq_ok, mj_re, mq_lkm, mq_lkn, mj_ldi, mj_ldl, mj_lda, mj_ii, mj_ll, mj_li, mj_i1, ms_1, ms_2, f1_n, f1_i, f1_r, f1_u, f1_l, f2_n, f2_i, f2_r, f2_u, f2_l, mj_tg, mj_c1, mj_c2, mj_ar, mj_aw, mq_cb, mq_oi, mj_rm, Value.category, -getElem?_pos, List.getElem?_cons_zero, decide_eq_true, decide_eq_false, nl_lt, nl_le, ln_lt, ln_le, nl_eq, ln_eq, nl_add, ln_add, nl_sub, ln_mul, nI_sub, nI_mul, nI_add, nI_lt_iff, nI_le_iff, nI_inj, nI_num, mq_ix, nI_1, nl_mul, nl_div, hc, narrow]
  have hw : w.toInt < 0 ∨ 3 < w.toInt := by
    have g0 := ne_toInt h0
    have g1 := ne_toInt h1
    have g2 := ne_toInt h2
    have g3 := ne_toInt h3
    simp at g0 g1 g2 g3
    omega
  by_cases h4 : w < 4
  · have n4 : ¬ 4 ≤ w := by rw [Int32.le_iff_toInt_le]; rw [Int32.lt_iff_toInt_lt] at h4; omega
    simp (disch := (first | omega | decide)) [c165, s165_0, s165_1, s165_32, s165_33, s165_36, s165_37, s165_38, s165_41, s165_42, s165_43, s165_46, s165_47, s165_48, s165_51, s165_52, s165_53, s165_54, s165_57, s165_58, s165_61, s165_62, s165_65, s165_66, s165_69, s165_70, s165_71, s165_72, s165_75, mq_k0s, mq_k1s, mq_k2s, mq_k4s, mq_k5s, mq_k5n, mq_k5as, mq_k6s, mj_pu, mj_lo, mj_br, mj_hr, mj_hw, mq_gf, mq_len, mq_al, mq_pf, mq_ok, mj_re, mq_lkm, mq_lkn, mj_ldi, mj_ldl, mj_lda, mj_ii, mj_ll, mj_li, mj_i1, ms_1, ms_2, f1_n, f1_i, f1_r, f1_u, f1_l, f2_n, f2_i, f2_r, f2_u, f2_l, mj_tg, mj_c1, mj_c2, mj_ar, mj_aw, mq_cb, mq_oi, mj_rm, Value.category, -getElem?_pos, List.getElem?_cons_zero, decide_eq_true, decide_eq_false, nl_lt, nl_le, ln_lt, ln_le, nl_eq, ln_eq, nl_add, ln_add, nl_sub, ln_mul, nI_sub, nI_mul, nI_add, nI_lt_iff, nI_le_iff, nI_inj, nI_num, mq_ix, nI_1, nl_mul, nl_div, hc, h0, h1, h2, h3, hw, h4, n4, narrow]
  · have n4 : 4 ≤ w := by rw [Int32.le_iff_toInt_le]; rw [Int32.lt_iff_toInt_lt] at h4; omega
    have v1 := j_byte (d := d) (M := M) hu.2 hu.1 (w - 4)
    simp (disch := (first | omega | decide)) [c165, s165_0, s165_1, s165_32, s165_33, s165_36, s165_37, s165_38, s165_41, s165_42, s165_43, s165_46, s165_47, s165_48, s165_51, s165_52, s165_53, s165_54, s165_57, s165_58, s165_61, s165_62, s165_65, s165_66, s165_69, s165_70, s165_71, s165_72, s165_75, mq_k0s, mq_k1s, mq_k2s, mq_k4s, mq_k5s, mq_k5n, mq_k5as, mq_k6s, mj_pu, mj_lo, mj_br, mj_hr, mj_hw, mq_gf, mq_len, mq_al, mq_pf, mq_ok, mj_re, mq_lkm, mq_lkn, mj_ldi, mj_ldl, mj_lda, mj_ii, mj_ll, mj_li, mj_i1, ms_1, ms_2, f1_n, f1_i, f1_r, f1_u, f1_l, f2_n, f2_i, f2_r, f2_u, f2_l, mj_tg, mj_c1, mj_c2, mj_ar, mj_aw, mq_cb, mq_oi, mj_rm, Value.category, -getElem?_pos, List.getElem?_cons_zero, decide_eq_true, decide_eq_false, nl_lt, nl_le, ln_lt, ln_le, nl_eq, ln_eq, nl_add, ln_add, nl_sub, ln_mul, nI_sub, nI_mul, nI_add, nI_lt_iff, nI_le_iff, nI_inj, nI_num, mq_ix, nI_1, nl_mul, nl_div, hc, h0, h1, h2, h3, hw, h4, n4, v1, narrow]
theorem h_credential (z : hz M H κs πs row) (p w : Int32) (hu : ∀ k ∈ H.2.2.1, okU k.1.1.1.1.2.2.2.2.2.2.2.2.2.2.2) : mj_V (d + 3) 164 [.ref 25, .int i, .int p, .int w] M = some (some (.int (ho_credential H i p w).1), M) := by
  have x0 := z.ob
  unfold ho_credential
  cases hix : ix i H.2.2.1.length with
  | none =>
    have v0 := h_keyN (d := d + 1) z hix
    simp (disch := (first | omega | decide)) [c164, s164_0, s164_1, s164_2, s164_5, s164_7, s164_9, s164_12, s164_14, s164_17, s164_20, s164_21, s164_22, s164_24, s164_27, s164_28, s164_31, s164_33, s164_35, s164_38, s164_39, s164_42, s164_44, s164_45, s164_48, mq_k0s, mq_k1s, mq_k2s, mq_k4s, mq_k5s, mq_k5n, mq_k5as, mq_k6s, mj_pu, mj_lo, mj_br, mj_hr, mj_hw, mq_gf, mq_len, mq_al, mq_pf, mq_ok, mj_re, mq_lkm, mq_lkn, mj_ldi, mj_ldl, mj_lda, mj_ii, mj_ll, mj_li, mj_i1, ms_1, ms_2, f1_n, f1_i, f1_r, f1_u, f1_l, f2_n, f2_i, f2_r, f2_u, f2_l, mj_tg, mj_c1, mj_c2, mj_ar, mj_aw, mq_cb, mq_oi, mj_rm, Value.category, -getElem?_pos, List.getElem?_cons_zero, decide_eq_true, decide_eq_false, nl_lt, nl_le, ln_lt, ln_le, nl_eq, ln_eq, nl_add, ln_add, nl_sub, ln_mul, nI_sub, nI_mul, nI_add, nI_lt_iff, nI_le_iff, nI_inj, nI_num, mq_ix, nI_1, nl_mul, nl_div, x0, v0, narrow]
  | some j =>
    obtain ⟨rfl, hj, -⟩ := ix_some hix
    have hk := List.getElem?_eq_getElem hj
    obtain ⟨κ, hκ, zk⟩ := z.kzz hk
    have v0 := h_keyS (d := d + 1) z hκ
    obtain ⟨u0, y0⟩ := zk.fa
    obtain ⟨r, hr⟩ := zk.st
    have v1 := ky_ison (d := d + 1) zk
    dsimp only
    rw [hk]
    dsimp only
    cases hon : H.2.2.1[j].1.1.1.1.2.1 with
    | false =>
      rw [hon] at v1
      simp (disch := (first | omega | decide)) [c164, s164_0, s164_1, s164_2, s164_5, s164_7, s164_9, s164_12, s164_14, s164_17, s164_20, s164_21, s164_22, s164_24, s164_27, s164_28, s164_31, s164_33, s164_35, s164_38, s164_39, s164_42, s164_44, s164_45, s164_48, mq_k0s, mq_k1s, mq_k2s, mq_k4s, mq_k5s, mq_k5n, mq_k5as, mq_k6s, mj_pu, mj_lo, mj_br, mj_hr, mj_hw, mq_gf, mq_len, mq_al, mq_pf, mq_ok, mj_re, mq_lkm, mq_lkn, mj_ldi, mj_ldl, mj_lda, mj_ii, mj_ll, mj_li, mj_i1, ms_1, ms_2, f1_n, f1_i, f1_r, f1_u, f1_l, f2_n, f2_i, f2_r, f2_u, f2_l, mj_tg, mj_c1, mj_c2, mj_ar, mj_aw, mq_cb, mq_oi, mj_rm, Value.category, -getElem?_pos, List.getElem?_cons_zero, decide_eq_true, decide_eq_false, nl_lt, nl_le, ln_lt, ln_le, nl_eq, ln_eq, nl_add, ln_add, nl_sub, ln_mul, nI_sub, nI_mul, nI_add, nI_lt_iff, nI_le_iff, nI_inj, nI_num, mq_ix, nI_1, nl_mul, nl_div, x0, v0, y0, v1, on1, narrow]
    | true =>
      rw [hon] at v1
      cases hip : ix p H.2.2.1[j].1.1.1.1.2.2.2.2.2.2.2.2.2.2.2.length with
      | none =>
        have v2 := st_standing0 (d := d + 1) hr (ix_none hip)
        simp (disch := (first | omega | decide)) [c164, s164_0, s164_1, s164_2, s164_5, s164_7, s164_9, s164_12, s164_14, s164_17, s164_20, s164_21, s164_22, s164_24, s164_27, s164_28, s164_31, s164_33, s164_35, s164_38, s164_39, s164_42, s164_44, s164_45, s164_48, mq_k0s, mq_k1s, mq_k2s, mq_k4s, mq_k5s, mq_k5n, mq_k5as, mq_k6s, mj_pu, mj_lo, mj_br, mj_hr, mj_hw, mq_gf, mq_len, mq_al, mq_pf, mq_ok, mj_re, mq_lkm, mq_lkn, mj_ldi, mj_ldl, mj_lda, mj_ii, mj_ll, mj_li, mj_i1, ms_1, ms_2, f1_n, f1_i, f1_r, f1_u, f1_l, f2_n, f2_i, f2_r, f2_u, f2_l, mj_tg, mj_c1, mj_c2, mj_ar, mj_aw, mq_cb, mq_oi, mj_rm, Value.category, -getElem?_pos, List.getElem?_cons_zero, decide_eq_true, decide_eq_false, nl_lt, nl_le, ln_lt, ln_le, nl_eq, ln_eq, nl_add, ln_add, nl_sub, ln_mul, nI_sub, nI_mul, nI_add, nI_lt_iff, nI_le_iff, nI_inj, nI_num, mq_ix, nI_1, nl_mul, nl_div, x0, v0, y0, v1, on1, v2, narrow]
      | some q =>
        obtain ⟨rfl, hq, -⟩ := ix_some hip
        have hc := List.getElem?_eq_getElem hq
        have v2 := st_standing (d := d + 1) hr hq
        have y1 := zk.cre hc
        have v3 := j_cr (d := d) (hr.cr q _ hc) (hu _ (List.getElem_mem hj) _ (List.getElem_mem hq)) w
        rw [Option.bind_some, hc]
        simp (disch := (first | omega | decide)) [c164, s164_0, s164_1, s164_2, s164_5, s164_7, s164_9, s164_12, s164_14, s164_17, s164_20, s164_21, s164_22, s164_24, s164_27, s164_28, s164_31, s164_33, s164_35, s164_38, s164_39, s164_42, s164_44, s164_45, s164_48, mq_k0s, mq_k1s, mq_k2s, mq_k4s, mq_k5s, mq_k5n, mq_k5as, mq_k6s, mj_pu, mj_lo, mj_br, mj_hr, mj_hw, mq_gf, mq_len, mq_al, mq_pf, mq_ok, mj_re, mq_lkm, mq_lkn, mj_ldi, mj_ldl, mj_lda, mj_ii, mj_ll, mj_li, mj_i1, ms_1, ms_2, f1_n, f1_i, f1_r, f1_u, f1_l, f2_n, f2_i, f2_r, f2_u, f2_l, mj_tg, mj_c1, mj_c2, mj_ar, mj_aw, mq_cb, mq_oi, mj_rm, Value.category, -getElem?_pos, List.getElem?_cons_zero, decide_eq_true, decide_eq_false, nl_lt, nl_le, ln_lt, ln_le, nl_eq, ln_eq, nl_add, ln_add, nl_sub, ln_mul, nI_sub, nI_mul, nI_add, nI_lt_iff, nI_le_iff, nI_inj, nI_num, mq_ix, nI_1, nl_mul, nl_div, x0, v0, y0, v1, on1, v2, y1, v3, narrow]
end HZ
end
/- 99.h3 -/
section
set_option maxRecDepth 512
/-! Class: the house: hands. -/
/- 167 PasskeyHouse.own(I)I -/
theorem s167_0 {d : Nat} {ls : mj_L} {st : List Value} {M : mj_H} : mj_Rn d mj_m167 0 ls st M = mq_k0 d mj_m167 1 ls M (mj_lda (mj_lk ls 0) st) := mj_R0 (r := (.aload_n 0, 1, 0, 0, 0)) rfl rfl
theorem s167_1 {d : Nat} {ls : mj_L} {st : List Value} {M : mj_H} : mj_Rn d mj_m167 1 ls st M = mq_k0 d mj_m167 2 ls M (mj_ldi (mj_lk ls 1) st) := mj_R0 (r := (.iload_n 1, 1, 0, 0, 0)) rfl rfl
theorem s167_2 {d : Nat} {ls : mj_L} {st : List Value} {M : mj_H} : mj_Rn (d + 1) mj_m167 2 ls st M = mq_k5a (d + 1) mj_m167 5 ls M 168 (mq_cb 0 1 10 st M) := mj_R5e (r := (.invokevirtual 149, 3, 0, 168, 20562)) (z := mj_m168) rfl rfl (by decide) (by decide) rfl
theorem s167_5 {d : Nat} {ls : mj_L} {st : List Value} {M : mj_H} : mj_Rn d mj_m167 5 ls st M = mq_k1 d mj_m167 6 M (mj_lo 3 (.astore 2) ls st) := (mj_R1 (r := (.astore_n 2, 1, 0, 0, 0)) rfl rfl).trans (congrArg (mq_k1 d mj_m167 6 M) (mq_sta (k := 2)))
theorem s167_6 {d : Nat} {ls : mj_L} {st : List Value} {M : mj_H} : mj_Rn d mj_m167 6 ls st M = mq_k0 d mj_m167 7 ls M (mj_lda (mj_lk ls 2) st) := mj_R0 (r := (.aload_n 2, 1, 0, 0, 0)) rfl rfl
theorem s167_7 {d : Nat} {ls : mj_L} {st : List Value} {M : mj_H} : mj_Rn d mj_m167 7 ls st M = mq_k2 d mj_m167 ls M (mj_br (.ifnonnull 7) 7 st) := mj_R2 (r := (.ifnonnull 7, 3, 0, 0, 0)) rfl rfl
theorem s167_10 {d : Nat} {ls : mj_L} {st : List Value} {M : mj_H} : mj_Rn d mj_m167 10 ls st M = mj_Rn d mj_m167 11 ls (.int (-1) :: st) M := mj_R0 (r := (.iconst (-1), 1, 0, 0, 0)) rfl rfl
theorem s167_11 {d : Nat} {ls : mj_L} {st : List Value} {M : mj_H} : mj_Rn d mj_m167 11 ls st M = mj_Rn d mj_m167 19 ls st M := mj_R2 (r := (.goto 8, 3, 0, 0, 0)) rfl rfl
theorem s167_14 {d : Nat} {ls : mj_L} {st : List Value} {M : mj_H} : mj_Rn d mj_m167 14 ls st M = mq_k0 d mj_m167 15 ls M (mj_lda (mj_lk ls 0) st) := mj_R0 (r := (.aload_n 0, 1, 0, 0, 0)) rfl rfl
theorem s167_15 {d : Nat} {ls : mj_L} {st : List Value} {M : mj_H} : mj_Rn d mj_m167 15 ls st M = mq_k0 d mj_m167 16 ls M (mj_lda (mj_lk ls 2) st) := mj_R0 (r := (.aload_n 2, 1, 0, 0, 0)) rfl rfl
theorem s167_16 {d : Nat} {ls : mj_L} {st : List Value} {M : mj_H} : mj_Rn (d + 1) mj_m167 16 ls st M = mq_k5a (d + 1) mj_m167 19 ls M 169 (mq_cb 0 1 10 st M) := mj_R5e (r := (.invokevirtual 153, 3, 0, 169, 20566)) (z := mj_m169) rfl rfl (by decide) (by decide) rfl
theorem s167_19 {d : Nat} {ls : mj_L} {st : List Value} {M : mj_H} : mj_Rn d mj_m167 19 ls st M = mq_k6 M (mj_re (some .int) (.ireturn) st) := mj_R6 (r := (.ireturn, 1, 0, 0, 0)) rfl rfl
/- 169 PasskeyHouse.newOwn(LPasskeyHouse$Hand;)I -/
theorem s169_0 {d : Nat} {ls : mj_L} {st : List Value} {M : mj_H} : mj_Rn d mj_m169 0 ls st M = mq_k0 d mj_m169 1 ls M (mj_lda (mj_lk ls 1) st) := mj_R0 (r := (.aload_n 1, 1, 0, 0, 0)) rfl rfl
theorem s169_1 {d : Nat} {ls : mj_L} {st : List Value} {M : mj_H} : mj_Rn d mj_m169 1 ls st M = mq_k0 d mj_m169 2 ls M (mj_lda (mj_lk ls 0) st) := mj_R0 (r := (.aload_n 0, 1, 0, 0, 0)) rfl rfl
theorem s169_2 {d : Nat} {ls : mj_L} {st : List Value} {M : mj_H} : mj_Rn d mj_m169 2 ls st M = mq_k0 d mj_m169 5 ls M (mq_gf 10 2 st M) := (mj_R3 (r := (.getfield 24, 3, 10, 2, 8490)) rfl rfl).trans (congrArg (mq_k0 d mj_m169 5 ls M) mq_gf_eq)
theorem s169_5 {d : Nat} {ls : mj_L} {st : List Value} {M : mj_H} : mj_Rn (d + 1) mj_m169 5 ls st M = mq_k5a (d + 1) mj_m169 8 ls M 66 (mq_cb 0 0 9 st M) := mj_R5e (r := (.invokevirtual 344, 3, 0, 66, 20570)) (z := mj_m66) rfl rfl (by decide) (by decide) rfl
theorem s169_8 {d : Nat} {ls : mj_L} {st : List Value} {M : mj_H} : mj_Rn d mj_m169 8 ls st M = mq_k4 d mj_m169 11 ls (mq_pf 3 2 0 st M) := (mj_R4 (r := (.putfield 160, 3, 3, 2, 8451)) rfl rfl).trans (congrArg (mq_k4 d mj_m169 11 ls) (mq_pf_eq rfl rfl))
theorem s169_11 {d : Nat} {ls : mj_L} {st : List Value} {M : mj_H} : mj_Rn d mj_m169 11 ls st M = mq_k0 d mj_m169 12 ls M (mj_lda (mj_lk ls 1) st) := mj_R0 (r := (.aload_n 1, 1, 0, 0, 0)) rfl rfl
theorem s169_12 {d : Nat} {ls : mj_L} {st : List Value} {M : mj_H} : mj_Rn d mj_m169 12 ls st M = mj_Rn d mj_m169 13 ls (.int 0 :: st) M := mj_R0 (r := (.iconst 0, 1, 0, 0, 0)) rfl rfl
theorem s169_13 {d : Nat} {ls : mj_L} {st : List Value} {M : mj_H} : mj_Rn d mj_m169 13 ls st M = mq_k4 d mj_m169 16 ls (mq_pf 3 3 0 st M) := (mj_R4 (r := (.putfield 184, 3, 3, 3, 8455)) rfl rfl).trans (congrArg (mq_k4 d mj_m169 16 ls) (mq_pf_eq rfl rfl))
theorem s169_16 {d : Nat} {ls : mj_L} {st : List Value} {M : mj_H} : mj_Rn d mj_m169 16 ls st M = mq_k0 d mj_m169 17 ls M (mj_lda (mj_lk ls 1) st) := mj_R0 (r := (.aload_n 1, 1, 0, 0, 0)) rfl rfl
theorem s169_17 {d : Nat} {ls : mj_L} {st : List Value} {M : mj_H} : mj_Rn d mj_m169 17 ls st M = mj_Rn d mj_m169 18 ls (.int 0 :: st) M := mj_R0 (r := (.iconst 0, 1, 0, 0, 0)) rfl rfl
theorem s169_18 {d : Nat} {ls : mj_L} {st : List Value} {M : mj_H} : mj_Rn d mj_m169 18 ls st M = mq_k4 d mj_m169 21 ls (mq_pf 3 4 0 st M) := (mj_R4 (r := (.putfield 250, 3, 3, 4, 8459)) rfl rfl).trans (congrArg (mq_k4 d mj_m169 21 ls) (mq_pf_eq rfl rfl))
theorem s169_21 {d : Nat} {ls : mj_L} {st : List Value} {M : mj_H} : mj_Rn d mj_m169 21 ls st M = mq_k0 d mj_m169 22 ls M (mj_lda (mj_lk ls 0) st) := mj_R0 (r := (.aload_n 0, 1, 0, 0, 0)) rfl rfl
theorem s169_22 {d : Nat} {ls : mj_L} {st : List Value} {M : mj_H} : mj_Rn d mj_m169 22 ls st M = mq_k0 d mj_m169 25 ls M (mq_gf 10 2 st M) := (mj_R3 (r := (.getfield 24, 3, 10, 2, 8490)) rfl rfl).trans (congrArg (mq_k0 d mj_m169 25 ls M) mq_gf_eq)
theorem s169_25 {d : Nat} {ls : mj_L} {st : List Value} {M : mj_H} : mj_Rn d mj_m169 25 ls st M = mq_k0 d mj_m169 26 ls M (mj_lda (mj_lk ls 1) st) := mj_R0 (r := (.aload_n 1, 1, 0, 0, 0)) rfl rfl
theorem s169_26 {d : Nat} {ls : mj_L} {st : List Value} {M : mj_H} : mj_Rn d mj_m169 26 ls st M = mq_k0 d mj_m169 29 ls M (mq_gf 3 2 st M) := (mj_R3 (r := (.getfield 160, 3, 3, 2, 8451)) rfl rfl).trans (congrArg (mq_k0 d mj_m169 29 ls M) mq_gf_eq)
theorem s169_29 {d : Nat} {ls : mj_L} {st : List Value} {M : mj_H} : mj_Rn (d + 1) mj_m169 29 ls st M = mq_k5a (d + 1) mj_m169 32 ls M 130 (mq_cb 0 1 9 st M) := mj_R5e (r := (.invokevirtual 347, 3, 0, 130, 20571)) (z := mj_m130) rfl rfl (by decide) (by decide) rfl
theorem s169_32 {d : Nat} {ls : mj_L} {st : List Value} {M : mj_H} : mj_Rn d mj_m169 32 ls st M = mq_k6 M (mj_re (some .int) (.ireturn) st) := mj_R6 (r := (.ireturn, 1, 0, 0, 0)) rfl rfl
/- 170 PasskeyHouse.agree(II)Z -/
theorem s170_0 {d : Nat} {ls : mj_L} {st : List Value} {M : mj_H} : mj_Rn d mj_m170 0 ls st M = mq_k0 d mj_m170 1 ls M (mj_lda (mj_lk ls 0) st) := mj_R0 (r := (.aload_n 0, 1, 0, 0, 0)) rfl rfl
theorem s170_1 {d : Nat} {ls : mj_L} {st : List Value} {M : mj_H} : mj_Rn d mj_m170 1 ls st M = mq_k0 d mj_m170 2 ls M (mj_ldi (mj_lk ls 1) st) := mj_R0 (r := (.iload_n 1, 1, 0, 0, 0)) rfl rfl
theorem s170_2 {d : Nat} {ls : mj_L} {st : List Value} {M : mj_H} : mj_Rn (d + 1) mj_m170 2 ls st M = mq_k5a (d + 1) mj_m170 5 ls M 168 (mq_cb 0 1 10 st M) := mj_R5e (r := (.invokevirtual 149, 3, 0, 168, 20562)) (z := mj_m168) rfl rfl (by decide) (by decide) rfl
theorem s170_5 {d : Nat} {ls : mj_L} {st : List Value} {M : mj_H} : mj_Rn d mj_m170 5 ls st M = mq_k1 d mj_m170 6 M (mj_lo 5 (.astore 3) ls st) := (mj_R1 (r := (.astore_n 3, 1, 0, 0, 0)) rfl rfl).trans (congrArg (mq_k1 d mj_m170 6 M) (mq_sta (k := 3)))
theorem s170_6 {d : Nat} {ls : mj_L} {st : List Value} {M : mj_H} : mj_Rn d mj_m170 6 ls st M = mq_k0 d mj_m170 7 ls M (mj_lda (mj_lk ls 0) st) := mj_R0 (r := (.aload_n 0, 1, 0, 0, 0)) rfl rfl
theorem s170_7 {d : Nat} {ls : mj_L} {st : List Value} {M : mj_H} : mj_Rn d mj_m170 7 ls st M = mq_k0 d mj_m170 10 ls M (mq_gf 10 2 st M) := (mj_R3 (r := (.getfield 24, 3, 10, 2, 8490)) rfl rfl).trans (congrArg (mq_k0 d mj_m170 10 ls M) mq_gf_eq)
theorem s170_10 {d : Nat} {ls : mj_L} {st : List Value} {M : mj_H} : mj_Rn d mj_m170 10 ls st M = mq_k0 d mj_m170 11 ls M (mj_ldi (mj_lk ls 2) st) := mj_R0 (r := (.iload_n 2, 1, 0, 0, 0)) rfl rfl
theorem s170_11 {d : Nat} {ls : mj_L} {st : List Value} {M : mj_H} : mj_Rn (d + 1) mj_m170 11 ls st M = mq_k5a (d + 1) mj_m170 14 ls M 145 (mq_cb 0 1 9 st M) := mj_R5e (r := (.invokevirtual 157, 3, 0, 145, 20576)) (z := mj_m145) rfl rfl (by decide) (by decide) rfl
theorem s170_14 {d : Nat} {ls : mj_L} {st : List Value} {M : mj_H} : mj_Rn d mj_m170 14 ls st M = mq_k1 d mj_m170 16 M (mj_lo 5 (.istore 4) ls st) := mj_R1 (r := (.istore 4, 2, 0, 0, 0)) rfl rfl
theorem s170_16 {d : Nat} {ls : mj_L} {st : List Value} {M : mj_H} : mj_Rn d mj_m170 16 ls st M = mq_k0 d mj_m170 17 ls M (mj_lda (mj_lk ls 3) st) := mj_R0 (r := (.aload_n 3, 1, 0, 0, 0)) rfl rfl
theorem s170_17 {d : Nat} {ls : mj_L} {st : List Value} {M : mj_H} : mj_Rn d mj_m170 17 ls st M = mq_k2 d mj_m170 ls M (mj_br (.ifnull 15) 17 st) := mj_R2 (r := (.ifnull 15, 3, 0, 0, 0)) rfl rfl
theorem s170_20 {d : Nat} {ls : mj_L} {st : List Value} {M : mj_H} : mj_Rn d mj_m170 20 ls st M = mq_k0 d mj_m170 21 ls M (mj_lda (mj_lk ls 3) st) := mj_R0 (r := (.aload_n 3, 1, 0, 0, 0)) rfl rfl
theorem s170_21 {d : Nat} {ls : mj_L} {st : List Value} {M : mj_H} : mj_Rn d mj_m170 21 ls st M = mq_k0 d mj_m170 24 ls M (mq_gf 3 2 st M) := (mj_R3 (r := (.getfield 160, 3, 3, 2, 8451)) rfl rfl).trans (congrArg (mq_k0 d mj_m170 24 ls M) mq_gf_eq)
theorem s170_24 {d : Nat} {ls : mj_L} {st : List Value} {M : mj_H} : mj_Rn d mj_m170 24 ls st M = mq_k2 d mj_m170 ls M (mj_br (.ifCond .eq 8) 24 st) := mj_R2 (r := (.ifCond .eq 8, 3, 0, 0, 0)) rfl rfl
theorem s170_27 {d : Nat} {ls : mj_L} {st : List Value} {M : mj_H} : mj_Rn d mj_m170 27 ls st M = mq_k0 d mj_m170 29 ls M (mj_ldi (mj_lk ls 4) st) := mj_R0 (r := (.iload 4, 2, 0, 0, 0)) rfl rfl
theorem s170_29 {d : Nat} {ls : mj_L} {st : List Value} {M : mj_H} : mj_Rn d mj_m170 29 ls st M = mq_k2 d mj_m170 ls M (mj_br (.ifCond .ne 5) 29 st) := mj_R2 (r := (.ifCond .ne 5, 3, 0, 0, 0)) rfl rfl
theorem s170_32 {d : Nat} {ls : mj_L} {st : List Value} {M : mj_H} : mj_Rn d mj_m170 32 ls st M = mj_Rn d mj_m170 33 ls (.int 0 :: st) M := mj_R0 (r := (.iconst 0, 1, 0, 0, 0)) rfl rfl
theorem s170_33 {d : Nat} {ls : mj_L} {st : List Value} {M : mj_H} : mj_Rn d mj_m170 33 ls st M = mq_k6 M (mj_re (some .boolean) (.ireturn) st) := mj_R6 (r := (.ireturn, 1, 0, 0, 0)) rfl rfl
theorem s170_34 {d : Nat} {ls : mj_L} {st : List Value} {M : mj_H} : mj_Rn d mj_m170 34 ls st M = mq_k0 d mj_m170 35 ls M (mj_lda (mj_lk ls 0) st) := mj_R0 (r := (.aload_n 0, 1, 0, 0, 0)) rfl rfl
theorem s170_35 {d : Nat} {ls : mj_L} {st : List Value} {M : mj_H} : mj_Rn d mj_m170 35 ls st M = mq_k0 d mj_m170 36 ls M (mj_lda (mj_lk ls 3) st) := mj_R0 (r := (.aload_n 3, 1, 0, 0, 0)) rfl rfl
theorem s170_36 {d : Nat} {ls : mj_L} {st : List Value} {M : mj_H} : mj_Rn d mj_m170 36 ls st M = mq_k0 d mj_m170 38 ls M (mj_ldi (mj_lk ls 4) st) := mj_R0 (r := (.iload 4, 2, 0, 0, 0)) rfl rfl
theorem s170_38 {d : Nat} {ls : mj_L} {st : List Value} {M : mj_H} : mj_Rn (d + 1) mj_m170 38 ls st M = mq_k5a (d + 1) mj_m170 41 ls M 171 (mq_cb 0 2 10 st M) := mj_R5e (r := (.invokevirtual 163, 3, 0, 171, 20577)) (z := mj_m171) rfl rfl (by decide) (by decide) rfl
theorem s170_41 {d : Nat} {ls : mj_L} {st : List Value} {M : mj_H} : mj_Rn d mj_m170 41 ls st M = mj_Rn d mj_m170 42 ls (.int 1 :: st) M := mj_R0 (r := (.iconst 1, 1, 0, 0, 0)) rfl rfl
theorem s170_42 {d : Nat} {ls : mj_L} {st : List Value} {M : mj_H} : mj_Rn d mj_m170 42 ls st M = mq_k6 M (mj_re (some .boolean) (.ireturn) st) := mj_R6 (r := (.ireturn, 1, 0, 0, 0)) rfl rfl
/- 171 PasskeyHouse.agreeWith(LPasskeyHouse$Hand;I)V -/
theorem s171_0 {d : Nat} {ls : mj_L} {st : List Value} {M : mj_H} : mj_Rn d mj_m171 0 ls st M = mq_k0 d mj_m171 1 ls M (mj_lda (mj_lk ls 0) st) := mj_R0 (r := (.aload_n 0, 1, 0, 0, 0)) rfl rfl
theorem s171_1 {d : Nat} {ls : mj_L} {st : List Value} {M : mj_H} : mj_Rn d mj_m171 1 ls st M = mq_k0 d mj_m171 4 ls M (mq_gf 10 2 st M) := (mj_R3 (r := (.getfield 24, 3, 10, 2, 8490)) rfl rfl).trans (congrArg (mq_k0 d mj_m171 4 ls M) mq_gf_eq)
theorem s171_4 {d : Nat} {ls : mj_L} {st : List Value} {M : mj_H} : mj_Rn d mj_m171 4 ls st M = mq_k0 d mj_m171 5 ls M (mj_lda (mj_lk ls 1) st) := mj_R0 (r := (.aload_n 1, 1, 0, 0, 0)) rfl rfl
theorem s171_5 {d : Nat} {ls : mj_L} {st : List Value} {M : mj_H} : mj_Rn d mj_m171 5 ls st M = mq_k0 d mj_m171 8 ls M (mq_gf 3 2 st M) := (mj_R3 (r := (.getfield 160, 3, 3, 2, 8451)) rfl rfl).trans (congrArg (mq_k0 d mj_m171 8 ls M) mq_gf_eq)
theorem s171_8 {d : Nat} {ls : mj_L} {st : List Value} {M : mj_H} : mj_Rn d mj_m171 8 ls st M = mq_k0 d mj_m171 9 ls M (mj_ldi (mj_lk ls 2) st) := mj_R0 (r := (.iload_n 2, 1, 0, 0, 0)) rfl rfl
theorem s171_9 {d : Nat} {ls : mj_L} {st : List Value} {M : mj_H} : mj_Rn (d + 1) mj_m171 9 ls st M = mq_k5a (d + 1) mj_m171 12 ls M 147 (mq_cb 0 2 9 st M) := mj_R5e (r := (.invokevirtual 350, 3, 0, 147, 20581)) (z := mj_m147) rfl rfl (by decide) (by decide) rfl
theorem s171_12 {d : Nat} {ls : mj_L} {st : List Value} {M : mj_H} : mj_Rn d mj_m171 12 ls st M = mq_k0 d mj_m171 13 ls M (mj_lda (mj_lk ls 1) st) := mj_R0 (r := (.aload_n 1, 1, 0, 0, 0)) rfl rfl
theorem s171_13 {d : Nat} {ls : mj_L} {st : List Value} {M : mj_H} : mj_Rn d mj_m171 13 ls st M = mq_k0 d mj_m171 14 ls M (mj_lda (mj_lk ls 0) st) := mj_R0 (r := (.aload_n 0, 1, 0, 0, 0)) rfl rfl
theorem s171_14 {d : Nat} {ls : mj_L} {st : List Value} {M : mj_H} : mj_Rn d mj_m171 14 ls st M = mq_k0 d mj_m171 17 ls M (mq_gf 10 2 st M) := (mj_R3 (r := (.getfield 24, 3, 10, 2, 8490)) rfl rfl).trans (congrArg (mq_k0 d mj_m171 17 ls M) mq_gf_eq)
theorem s171_17 {d : Nat} {ls : mj_L} {st : List Value} {M : mj_H} : mj_Rn (d + 1) mj_m171 17 ls st M = mq_k5a (d + 1) mj_m171 20 ls M 30 (mq_cb 0 0 9 st M) := mj_R5e (r := (.invokevirtual 181, 3, 0, 30, 20582)) (z := mj_m30) rfl rfl (by decide) (by decide) rfl
theorem s171_20 {d : Nat} {ls : mj_L} {st : List Value} {M : mj_H} : mj_Rn d mj_m171 20 ls st M = mq_k4 d mj_m171 23 ls (mq_pf 3 3 0 st M) := (mj_R4 (r := (.putfield 184, 3, 3, 3, 8455)) rfl rfl).trans (congrArg (mq_k4 d mj_m171 23 ls) (mq_pf_eq rfl rfl))
theorem s171_23 {d : Nat} {ls : mj_L} {st : List Value} {M : mj_H} : mj_Rn d mj_m171 23 ls st M = mq_k6 M (mj_re none (.return_) st) := mj_R6 (r := (.return_, 1, 0, 0, 0)) rfl rfl
/- 172 PasskeyHouse.seal(III)I -/
theorem s172_0 {d : Nat} {ls : mj_L} {st : List Value} {M : mj_H} : mj_Rn d mj_m172 0 ls st M = mq_k0 d mj_m172 1 ls M (mj_lda (mj_lk ls 0) st) := mj_R0 (r := (.aload_n 0, 1, 0, 0, 0)) rfl rfl
theorem s172_1 {d : Nat} {ls : mj_L} {st : List Value} {M : mj_H} : mj_Rn d mj_m172 1 ls st M = mq_k0 d mj_m172 2 ls M (mj_ldi (mj_lk ls 1) st) := mj_R0 (r := (.iload_n 1, 1, 0, 0, 0)) rfl rfl
theorem s172_2 {d : Nat} {ls : mj_L} {st : List Value} {M : mj_H} : mj_Rn (d + 1) mj_m172 2 ls st M = mq_k5a (d + 1) mj_m172 5 ls M 168 (mq_cb 0 1 10 st M) := mj_R5e (r := (.invokevirtual 149, 3, 0, 168, 20562)) (z := mj_m168) rfl rfl (by decide) (by decide) rfl
theorem s172_5 {d : Nat} {ls : mj_L} {st : List Value} {M : mj_H} : mj_Rn d mj_m172 5 ls st M = mq_k1 d mj_m172 7 M (mj_lo 6 (.astore 4) ls st) := mj_R1 (r := (.astore 4, 2, 0, 0, 0)) rfl rfl
theorem s172_7 {d : Nat} {ls : mj_L} {st : List Value} {M : mj_H} : mj_Rn d mj_m172 7 ls st M = mq_k0 d mj_m172 8 ls M (mj_lda (mj_lk ls 0) st) := mj_R0 (r := (.aload_n 0, 1, 0, 0, 0)) rfl rfl
theorem s172_8 {d : Nat} {ls : mj_L} {st : List Value} {M : mj_H} : mj_Rn d mj_m172 8 ls st M = mq_k0 d mj_m172 9 ls M (mj_ldi (mj_lk ls 3) st) := mj_R0 (r := (.iload_n 3, 1, 0, 0, 0)) rfl rfl
theorem s172_9 {d : Nat} {ls : mj_L} {st : List Value} {M : mj_H} : mj_Rn (d + 1) mj_m172 9 ls st M = mq_k5a (d + 1) mj_m172 12 ls M 76 (mq_cb 0 1 10 st M) := mj_R5e (r := (.invokevirtual 115, 3, 0, 76, 12425)) (z := mj_m76) rfl rfl (by decide) (by decide) rfl
theorem s172_12 {d : Nat} {ls : mj_L} {st : List Value} {M : mj_H} : mj_Rn d mj_m172 12 ls st M = mq_k1 d mj_m172 14 M (mj_lo 6 (.istore 5) ls st) := mj_R1 (r := (.istore 5, 2, 0, 0, 0)) rfl rfl
theorem s172_14 {d : Nat} {ls : mj_L} {st : List Value} {M : mj_H} : mj_Rn d mj_m172 14 ls st M = mq_k0 d mj_m172 16 ls M (mj_lda (mj_lk ls 4) st) := mj_R0 (r := (.aload 4, 2, 0, 0, 0)) rfl rfl
theorem s172_16 {d : Nat} {ls : mj_L} {st : List Value} {M : mj_H} : mj_Rn d mj_m172 16 ls st M = mq_k2 d mj_m172 ls M (mj_br (.ifnull 31) 16 st) := mj_R2 (r := (.ifnull 31, 3, 0, 0, 0)) rfl rfl
theorem s172_19 {d : Nat} {ls : mj_L} {st : List Value} {M : mj_H} : mj_Rn d mj_m172 19 ls st M = mq_k0 d mj_m172 21 ls M (mj_ldi (mj_lk ls 5) st) := mj_R0 (r := (.iload 5, 2, 0, 0, 0)) rfl rfl
theorem s172_21 {d : Nat} {ls : mj_L} {st : List Value} {M : mj_H} : mj_Rn d mj_m172 21 ls st M = mj_Rn d mj_m172 22 ls (.int (-1) :: st) M := mj_R0 (r := (.iconst (-1), 1, 0, 0, 0)) rfl rfl
theorem s172_22 {d : Nat} {ls : mj_L} {st : List Value} {M : mj_H} : mj_Rn d mj_m172 22 ls st M = mq_k2 d mj_m172 ls M (mj_br (.if_icmp .eq 25) 22 st) := mj_R2 (r := (.if_icmp .eq 25, 3, 0, 0, 0)) rfl rfl
theorem s172_25 {d : Nat} {ls : mj_L} {st : List Value} {M : mj_H} : mj_Rn d mj_m172 25 ls st M = mq_k0 d mj_m172 26 ls M (mj_ldi (mj_lk ls 2) st) := mj_R0 (r := (.iload_n 2, 1, 0, 0, 0)) rfl rfl
theorem s172_26 {d : Nat} {ls : mj_L} {st : List Value} {M : mj_H} : mj_Rn d mj_m172 26 ls st M = mj_Rn d mj_m172 27 ls (.int 0 :: st) M := mj_R0 (r := (.iconst 0, 1, 0, 0, 0)) rfl rfl
theorem s172_27 {d : Nat} {ls : mj_L} {st : List Value} {M : mj_H} : mj_Rn d mj_m172 27 ls st M = mj_Rn d mj_m172 28 ls (.int 4 :: st) M := mj_R0 (r := (.iconst 4, 1, 0, 0, 0)) rfl rfl
theorem s172_28 {d : Nat} {ls : mj_L} {st : List Value} {M : mj_H} : mj_Rn (d + 1) mj_m172 28 ls st M = mq_k5a (d + 1) mj_m172 31 ls M 8 (mq_cb 2 3 10 st M) := mj_R5e (r := (.invokestatic 61, 3, 2, 8, 4275)) (z := mj_m8) rfl rfl (by decide) (by decide) rfl
theorem s172_31 {d : Nat} {ls : mj_L} {st : List Value} {M : mj_H} : mj_Rn d mj_m172 31 ls st M = mq_k2 d mj_m172 ls M (mj_br (.ifCond .eq 16) 31 st) := mj_R2 (r := (.ifCond .eq 16, 3, 0, 0, 0)) rfl rfl
theorem s172_34 {d : Nat} {ls : mj_L} {st : List Value} {M : mj_H} : mj_Rn d mj_m172 34 ls st M = mq_k0 d mj_m172 35 ls M (mj_ldi (mj_lk ls 2) st) := mj_R0 (r := (.iload_n 2, 1, 0, 0, 0)) rfl rfl
theorem s172_35 {d : Nat} {ls : mj_L} {st : List Value} {M : mj_H} : mj_Rn d mj_m172 35 ls st M = mq_k2 d mj_m172 ls M (mj_br (.ifCond .le 14) 35 st) := mj_R2 (r := (.ifCond .le 14, 3, 0, 0, 0)) rfl rfl
theorem s172_38 {d : Nat} {ls : mj_L} {st : List Value} {M : mj_H} : mj_Rn d mj_m172 38 ls st M = mq_k0 d mj_m172 40 ls M (mj_lda (mj_lk ls 4) st) := mj_R0 (r := (.aload 4, 2, 0, 0, 0)) rfl rfl
theorem s172_40 {d : Nat} {ls : mj_L} {st : List Value} {M : mj_H} : mj_Rn d mj_m172 40 ls st M = mq_k0 d mj_m172 41 ls M (mj_ldi (mj_lk ls 2) st) := mj_R0 (r := (.iload_n 2, 1, 0, 0, 0)) rfl rfl
theorem s172_41 {d : Nat} {ls : mj_L} {st : List Value} {M : mj_H} : mj_Rn (d + 1) mj_m172 41 ls st M = mq_k5a (d + 1) mj_m172 44 ls M 173 (mq_cb 0 1 3 st M) := mj_R5e (r := (.invokevirtual 167, 3, 0, 173, 20587)) (z := mj_m173) rfl rfl (by decide) (by decide) rfl
theorem s172_44 {d : Nat} {ls : mj_L} {st : List Value} {M : mj_H} : mj_Rn d mj_m172 44 ls st M = mq_k2 d mj_m172 ls M (mj_br (.ifCond .ne 5) 44 st) := mj_R2 (r := (.ifCond .ne 5, 3, 0, 0, 0)) rfl rfl
theorem s172_47 {d : Nat} {ls : mj_L} {st : List Value} {M : mj_H} : mj_Rn d mj_m172 47 ls st M = mj_Rn d mj_m172 48 ls (.int (-1) :: st) M := mj_R0 (r := (.iconst (-1), 1, 0, 0, 0)) rfl rfl
theorem s172_48 {d : Nat} {ls : mj_L} {st : List Value} {M : mj_H} : mj_Rn d mj_m172 48 ls st M = mq_k6 M (mj_re (some .int) (.ireturn) st) := mj_R6 (r := (.ireturn, 1, 0, 0, 0)) rfl rfl
theorem s172_49 {d : Nat} {ls : mj_L} {st : List Value} {M : mj_H} : mj_Rn d mj_m172 49 ls st M = mq_k0 d mj_m172 50 ls M (mj_lda (mj_lk ls 0) st) := mj_R0 (r := (.aload_n 0, 1, 0, 0, 0)) rfl rfl
theorem s172_50 {d : Nat} {ls : mj_L} {st : List Value} {M : mj_H} : mj_Rn d mj_m172 50 ls st M = mq_k0 d mj_m172 53 ls M (mq_gf 10 2 st M) := (mj_R3 (r := (.getfield 24, 3, 10, 2, 8490)) rfl rfl).trans (congrArg (mq_k0 d mj_m172 53 ls M) mq_gf_eq)
theorem s172_53 {d : Nat} {ls : mj_L} {st : List Value} {M : mj_H} : mj_Rn d mj_m172 53 ls st M = mq_k0 d mj_m172 55 ls M (mj_lda (mj_lk ls 4) st) := mj_R0 (r := (.aload 4, 2, 0, 0, 0)) rfl rfl
theorem s172_55 {d : Nat} {ls : mj_L} {st : List Value} {M : mj_H} : mj_Rn d mj_m172 55 ls st M = mq_k0 d mj_m172 56 ls M (mj_ldi (mj_lk ls 2) st) := mj_R0 (r := (.iload_n 2, 1, 0, 0, 0)) rfl rfl
theorem s172_56 {d : Nat} {ls : mj_L} {st : List Value} {M : mj_H} : mj_Rn (d + 1) mj_m172 56 ls st M = mq_k5a (d + 1) mj_m172 59 ls M 174 (mq_cb 0 1 3 st M) := mj_R5e (r := (.invokevirtual 170, 3, 0, 174, 20591)) (z := mj_m174) rfl rfl (by decide) (by decide) rfl
theorem s172_59 {d : Nat} {ls : mj_L} {st : List Value} {M : mj_H} : mj_Rn (d + 1) mj_m172 59 ls st M = mq_k5a (d + 1) mj_m172 62 ls M 28 (mq_cb 0 1 9 st M) := mj_R5e (r := (.invokevirtual 173, 3, 0, 28, 20595)) (z := mj_m28) rfl rfl (by decide) (by decide) rfl
theorem s172_62 {d : Nat} {ls : mj_L} {st : List Value} {M : mj_H} : mj_Rn d mj_m172 62 ls st M = mq_k0 d mj_m172 63 ls M (mj_ldi (mj_lk ls 2) st) := mj_R0 (r := (.iload_n 2, 1, 0, 0, 0)) rfl rfl
theorem s172_63 {d : Nat} {ls : mj_L} {st : List Value} {M : mj_H} : mj_Rn d mj_m172 63 ls st M = mq_k2 d mj_m172 ls M (mj_br (.ifCond .le 16) 63 st) := mj_R2 (r := (.ifCond .le 16, 3, 0, 0, 0)) rfl rfl
theorem s172_66 {d : Nat} {ls : mj_L} {st : List Value} {M : mj_H} : mj_Rn d mj_m172 66 ls st M = mq_k0 d mj_m172 67 ls M (mj_lda (mj_lk ls 0) st) := mj_R0 (r := (.aload_n 0, 1, 0, 0, 0)) rfl rfl
theorem s172_67 {d : Nat} {ls : mj_L} {st : List Value} {M : mj_H} : mj_Rn d mj_m172 67 ls st M = mq_k0 d mj_m172 70 ls M (mq_gf 10 2 st M) := (mj_R3 (r := (.getfield 24, 3, 10, 2, 8490)) rfl rfl).trans (congrArg (mq_k0 d mj_m172 70 ls M) mq_gf_eq)
theorem s172_70 {d : Nat} {ls : mj_L} {st : List Value} {M : mj_H} : mj_Rn d mj_m172 70 ls st M = mq_k0 d mj_m172 72 ls M (mj_lda (mj_lk ls 4) st) := mj_R0 (r := (.aload 4, 2, 0, 0, 0)) rfl rfl
theorem s172_72 {d : Nat} {ls : mj_L} {st : List Value} {M : mj_H} : mj_Rn d mj_m172 72 ls st M = mq_k0 d mj_m172 73 ls M (mj_ldi (mj_lk ls 2) st) := mj_R0 (r := (.iload_n 2, 1, 0, 0, 0)) rfl rfl
theorem s172_73 {d : Nat} {ls : mj_L} {st : List Value} {M : mj_H} : mj_Rn (d + 1) mj_m172 73 ls st M = mq_k5a (d + 1) mj_m172 76 ls M 173 (mq_cb 0 1 3 st M) := mj_R5e (r := (.invokevirtual 167, 3, 0, 173, 20587)) (z := mj_m173) rfl rfl (by decide) (by decide) rfl
theorem s172_76 {d : Nat} {ls : mj_L} {st : List Value} {M : mj_H} : mj_Rn (d + 1) mj_m172 76 ls st M = mq_k5a (d + 1) mj_m172 79 ls M 29 (mq_cb 0 1 9 st M) := mj_R5e (r := (.invokevirtual 175, 3, 0, 29, 20596)) (z := mj_m29) rfl rfl (by decide) (by decide) rfl
theorem s172_79 {d : Nat} {ls : mj_L} {st : List Value} {M : mj_H} : mj_Rn d mj_m172 79 ls st M = mq_k0 d mj_m172 80 ls M (mj_lda (mj_lk ls 0) st) := mj_R0 (r := (.aload_n 0, 1, 0, 0, 0)) rfl rfl
theorem s172_80 {d : Nat} {ls : mj_L} {st : List Value} {M : mj_H} : mj_Rn d mj_m172 80 ls st M = mq_k0 d mj_m172 83 ls M (mq_gf 10 2 st M) := (mj_R3 (r := (.getfield 24, 3, 10, 2, 8490)) rfl rfl).trans (congrArg (mq_k0 d mj_m172 83 ls M) mq_gf_eq)
theorem s172_83 {d : Nat} {ls : mj_L} {st : List Value} {M : mj_H} : mj_Rn d mj_m172 83 ls st M = mq_k0 d mj_m172 84 ls M (mj_lda (mj_lk ls 0) st) := mj_R0 (r := (.aload_n 0, 1, 0, 0, 0)) rfl rfl
theorem s172_84 {d : Nat} {ls : mj_L} {st : List Value} {M : mj_H} : mj_Rn d mj_m172 84 ls st M = mq_k0 d mj_m172 87 ls M (mq_gf 10 0 st M) := (mj_R3 (r := (.getfield 14, 3, 10, 0, 8486)) rfl rfl).trans (congrArg (mq_k0 d mj_m172 87 ls M) mq_gf_eq)
theorem s172_87 {d : Nat} {ls : mj_L} {st : List Value} {M : mj_H} : mj_Rn d mj_m172 87 ls st M = mj_Rn d mj_m172 88 ls (.int 0 :: st) M := mj_R0 (r := (.iconst 0, 1, 0, 0, 0)) rfl rfl
theorem s172_88 {d : Nat} {ls : mj_L} {st : List Value} {M : mj_H} : mj_Rn d mj_m172 88 ls st M = mq_k0 d mj_m172 90 ls M (mj_ldi (mj_lk ls 5) st) := mj_R0 (r := (.iload 5, 2, 0, 0, 0)) rfl rfl
theorem s172_90 {d : Nat} {ls : mj_L} {st : List Value} {M : mj_H} : mj_Rn (d + 1) mj_m172 90 ls st M = mq_k5a (d + 1) mj_m172 93 ls M 113 (mq_cb 0 3 9 st M) := mj_R5e (r := (.invokevirtual 178, 3, 0, 113, 20597)) (z := mj_m113) rfl rfl (by decide) (by decide) rfl
theorem s172_93 {d : Nat} {ls : mj_L} {st : List Value} {M : mj_H} : mj_Rn d mj_m172 93 ls st M = mq_k0 d mj_m172 94 ls M (mj_lda (mj_lk ls 0) st) := mj_R0 (r := (.aload_n 0, 1, 0, 0, 0)) rfl rfl
theorem s172_94 {d : Nat} {ls : mj_L} {st : List Value} {M : mj_H} : mj_Rn d mj_m172 94 ls st M = mq_k0 d mj_m172 97 ls M (mq_gf 10 2 st M) := (mj_R3 (r := (.getfield 24, 3, 10, 2, 8490)) rfl rfl).trans (congrArg (mq_k0 d mj_m172 97 ls M) mq_gf_eq)
theorem s172_97 {d : Nat} {ls : mj_L} {st : List Value} {M : mj_H} : mj_Rn (d + 1) mj_m172 97 ls st M = mq_k5a (d + 1) mj_m172 100 ls M 30 (mq_cb 0 0 9 st M) := mj_R5e (r := (.invokevirtual 181, 3, 0, 30, 20582)) (z := mj_m30) rfl rfl (by decide) (by decide) rfl
theorem s172_100 {d : Nat} {ls : mj_L} {st : List Value} {M : mj_H} : mj_Rn d mj_m172 100 ls st M = mq_k6 M (mj_re (some .int) (.ireturn) st) := mj_R6 (r := (.ireturn, 1, 0, 0, 0)) rfl rfl
/- 173 PasskeyHouse$Hand.sealsWith(I)I -/
theorem s173_0 {d : Nat} {ls : mj_L} {st : List Value} {M : mj_H} : mj_Rn d mj_m173 0 ls st M = mq_k0 d mj_m173 1 ls M (mj_ldi (mj_lk ls 1) st) := mj_R0 (r := (.iload_n 1, 1, 0, 0, 0)) rfl rfl
theorem s173_1 {d : Nat} {ls : mj_L} {st : List Value} {M : mj_H} : mj_Rn d mj_m173 1 ls st M = mq_k2 d mj_m173 ls M (mj_br (.tableswitch 46 1 4 #[31, 31, 36, 41]) 1 st) := mj_R2 (r := (.tableswitch 46 1 4 #[31, 31, 36, 41], 31, 0, 0, 0)) rfl rfl
theorem s173_32 {d : Nat} {ls : mj_L} {st : List Value} {M : mj_H} : mj_Rn d mj_m173 32 ls st M = mq_k0 d mj_m173 33 ls M (mj_lda (mj_lk ls 0) st) := mj_R0 (r := (.aload_n 0, 1, 0, 0, 0)) rfl rfl
theorem s173_33 {d : Nat} {ls : mj_L} {st : List Value} {M : mj_H} : mj_Rn d mj_m173 33 ls st M = mq_k0 d mj_m173 36 ls M (mq_gf 3 3 st M) := (mj_R3 (r := (.getfield 23, 3, 3, 3, 8452)) rfl rfl).trans (congrArg (mq_k0 d mj_m173 36 ls M) mq_gf_eq)
theorem s173_36 {d : Nat} {ls : mj_L} {st : List Value} {M : mj_H} : mj_Rn d mj_m173 36 ls st M = mq_k6 M (mj_re (some .int) (.ireturn) st) := mj_R6 (r := (.ireturn, 1, 0, 0, 0)) rfl rfl
theorem s173_37 {d : Nat} {ls : mj_L} {st : List Value} {M : mj_H} : mj_Rn d mj_m173 37 ls st M = mq_k0 d mj_m173 38 ls M (mj_lda (mj_lk ls 0) st) := mj_R0 (r := (.aload_n 0, 1, 0, 0, 0)) rfl rfl
theorem s173_38 {d : Nat} {ls : mj_L} {st : List Value} {M : mj_H} : mj_Rn d mj_m173 38 ls st M = mq_k0 d mj_m173 41 ls M (mq_gf 3 4 st M) := (mj_R3 (r := (.getfield 27, 3, 3, 4, 8456)) rfl rfl).trans (congrArg (mq_k0 d mj_m173 41 ls M) mq_gf_eq)
theorem s173_41 {d : Nat} {ls : mj_L} {st : List Value} {M : mj_H} : mj_Rn d mj_m173 41 ls st M = mq_k6 M (mj_re (some .int) (.ireturn) st) := mj_R6 (r := (.ireturn, 1, 0, 0, 0)) rfl rfl
theorem s173_42 {d : Nat} {ls : mj_L} {st : List Value} {M : mj_H} : mj_Rn d mj_m173 42 ls st M = mq_k0 d mj_m173 43 ls M (mj_lda (mj_lk ls 0) st) := mj_R0 (r := (.aload_n 0, 1, 0, 0, 0)) rfl rfl
theorem s173_43 {d : Nat} {ls : mj_L} {st : List Value} {M : mj_H} : mj_Rn d mj_m173 43 ls st M = mq_k0 d mj_m173 46 ls M (mq_gf 3 2 st M) := (mj_R3 (r := (.getfield 30, 3, 3, 2, 8448)) rfl rfl).trans (congrArg (mq_k0 d mj_m173 46 ls M) mq_gf_eq)
theorem s173_46 {d : Nat} {ls : mj_L} {st : List Value} {M : mj_H} : mj_Rn d mj_m173 46 ls st M = mq_k6 M (mj_re (some .int) (.ireturn) st) := mj_R6 (r := (.ireturn, 1, 0, 0, 0)) rfl rfl
theorem s173_47 {d : Nat} {ls : mj_L} {st : List Value} {M : mj_H} : mj_Rn d mj_m173 47 ls st M = mj_Rn d mj_m173 48 ls (.int 0 :: st) M := mj_R0 (r := (.iconst 0, 1, 0, 0, 0)) rfl rfl
theorem s173_48 {d : Nat} {ls : mj_L} {st : List Value} {M : mj_H} : mj_Rn d mj_m173 48 ls st M = mq_k6 M (mj_re (some .int) (.ireturn) st) := mj_R6 (r := (.ireturn, 1, 0, 0, 0)) rfl rfl
/- 174 PasskeyHouse$Hand.sortOfSeal(I)I -/
theorem s174_0 {d : Nat} {ls : mj_L} {st : List Value} {M : mj_H} : mj_Rn d mj_m174 0 ls st M = mq_k0 d mj_m174 1 ls M (mj_ldi (mj_lk ls 1) st) := mj_R0 (r := (.iload_n 1, 1, 0, 0, 0)) rfl rfl
theorem s174_1 {d : Nat} {ls : mj_L} {st : List Value} {M : mj_H} : mj_Rn d mj_m174 1 ls st M = mq_k2 d mj_m174 ls M (mj_br (.tableswitch 41 1 4 #[31, 33, 35, 38]) 1 st) := mj_R2 (r := (.tableswitch 41 1 4 #[31, 33, 35, 38], 31, 0, 0, 0)) rfl rfl
theorem s174_32 {d : Nat} {ls : mj_L} {st : List Value} {M : mj_H} : mj_Rn d mj_m174 32 ls st M = mj_Rn d mj_m174 33 ls (.int 4 :: st) M := mj_R0 (r := (.iconst 4, 1, 0, 0, 0)) rfl rfl
theorem s174_33 {d : Nat} {ls : mj_L} {st : List Value} {M : mj_H} : mj_Rn d mj_m174 33 ls st M = mq_k6 M (mj_re (some .int) (.ireturn) st) := mj_R6 (r := (.ireturn, 1, 0, 0, 0)) rfl rfl
theorem s174_34 {d : Nat} {ls : mj_L} {st : List Value} {M : mj_H} : mj_Rn d mj_m174 34 ls st M = mj_Rn d mj_m174 35 ls (.int 5 :: st) M := mj_R0 (r := (.iconst 5, 1, 0, 0, 0)) rfl rfl
theorem s174_35 {d : Nat} {ls : mj_L} {st : List Value} {M : mj_H} : mj_Rn d mj_m174 35 ls st M = mq_k6 M (mj_re (some .int) (.ireturn) st) := mj_R6 (r := (.ireturn, 1, 0, 0, 0)) rfl rfl
theorem s174_36 {d : Nat} {ls : mj_L} {st : List Value} {M : mj_H} : mj_Rn d mj_m174 36 ls st M = mj_Rn d mj_m174 38 ls (.int 10 :: st) M := mj_R0 (r := (.bipush 10, 2, 0, 0, 0)) rfl rfl
theorem s174_38 {d : Nat} {ls : mj_L} {st : List Value} {M : mj_H} : mj_Rn d mj_m174 38 ls st M = mq_k6 M (mj_re (some .int) (.ireturn) st) := mj_R6 (r := (.ireturn, 1, 0, 0, 0)) rfl rfl
theorem s174_39 {d : Nat} {ls : mj_L} {st : List Value} {M : mj_H} : mj_Rn d mj_m174 39 ls st M = mj_Rn d mj_m174 41 ls (.int 6 :: st) M := mj_R0 (r := (.bipush 6, 2, 0, 0, 0)) rfl rfl
theorem s174_41 {d : Nat} {ls : mj_L} {st : List Value} {M : mj_H} : mj_Rn d mj_m174 41 ls st M = mq_k6 M (mj_re (some .int) (.ireturn) st) := mj_R6 (r := (.ireturn, 1, 0, 0, 0)) rfl rfl
theorem s174_42 {d : Nat} {ls : mj_L} {st : List Value} {M : mj_H} : mj_Rn d mj_m174 42 ls st M = mj_Rn d mj_m174 44 ls (.int 7 :: st) M := mj_R0 (r := (.bipush 7, 2, 0, 0, 0)) rfl rfl
theorem s174_44 {d : Nat} {ls : mj_L} {st : List Value} {M : mj_H} : mj_Rn d mj_m174 44 ls st M = mq_k6 M (mj_re (some .int) (.ireturn) st) := mj_R6 (r := (.ireturn, 1, 0, 0, 0)) rfl rfl
/- 175 PasskeyHouse.open(II)I -/
theorem s175_0 {d : Nat} {ls : mj_L} {st : List Value} {M : mj_H} : mj_Rn d mj_m175 0 ls st M = mq_k0 d mj_m175 1 ls M (mj_lda (mj_lk ls 0) st) := mj_R0 (r := (.aload_n 0, 1, 0, 0, 0)) rfl rfl
theorem s175_1 {d : Nat} {ls : mj_L} {st : List Value} {M : mj_H} : mj_Rn d mj_m175 1 ls st M = mq_k0 d mj_m175 2 ls M (mj_ldi (mj_lk ls 1) st) := mj_R0 (r := (.iload_n 1, 1, 0, 0, 0)) rfl rfl
theorem s175_2 {d : Nat} {ls : mj_L} {st : List Value} {M : mj_H} : mj_Rn (d + 1) mj_m175 2 ls st M = mq_k5a (d + 1) mj_m175 5 ls M 168 (mq_cb 0 1 10 st M) := mj_R5e (r := (.invokevirtual 149, 3, 0, 168, 20562)) (z := mj_m168) rfl rfl (by decide) (by decide) rfl
theorem s175_5 {d : Nat} {ls : mj_L} {st : List Value} {M : mj_H} : mj_Rn d mj_m175 5 ls st M = mq_k1 d mj_m175 6 M (mj_lo 6 (.astore 3) ls st) := (mj_R1 (r := (.astore_n 3, 1, 0, 0, 0)) rfl rfl).trans (congrArg (mq_k1 d mj_m175 6 M) (mq_sta (k := 3)))
theorem s175_6 {d : Nat} {ls : mj_L} {st : List Value} {M : mj_H} : mj_Rn d mj_m175 6 ls st M = mq_k0 d mj_m175 7 ls M (mj_lda (mj_lk ls 3) st) := mj_R0 (r := (.aload_n 3, 1, 0, 0, 0)) rfl rfl
theorem s175_7 {d : Nat} {ls : mj_L} {st : List Value} {M : mj_H} : mj_Rn d mj_m175 7 ls st M = mq_k2 d mj_m175 ls M (mj_br (.ifnull 39) 7 st) := mj_R2 (r := (.ifnull 39, 3, 0, 0, 0)) rfl rfl
theorem s175_10 {d : Nat} {ls : mj_L} {st : List Value} {M : mj_H} : mj_Rn d mj_m175 10 ls st M = mq_k0 d mj_m175 11 ls M (mj_lda (mj_lk ls 3) st) := mj_R0 (r := (.aload_n 3, 1, 0, 0, 0)) rfl rfl
theorem s175_11 {d : Nat} {ls : mj_L} {st : List Value} {M : mj_H} : mj_Rn d mj_m175 11 ls st M = mq_k0 d mj_m175 14 ls M (mq_gf 3 3 st M) := (mj_R3 (r := (.getfield 184, 3, 3, 3, 8455)) rfl rfl).trans (congrArg (mq_k0 d mj_m175 14 ls M) mq_gf_eq)
theorem s175_14 {d : Nat} {ls : mj_L} {st : List Value} {M : mj_H} : mj_Rn d mj_m175 14 ls st M = mq_k2 d mj_m175 ls M (mj_br (.ifCond .eq 32) 14 st) := mj_R2 (r := (.ifCond .eq 32, 3, 0, 0, 0)) rfl rfl
theorem s175_17 {d : Nat} {ls : mj_L} {st : List Value} {M : mj_H} : mj_Rn d mj_m175 17 ls st M = mq_k0 d mj_m175 18 ls M (mj_lda (mj_lk ls 0) st) := mj_R0 (r := (.aload_n 0, 1, 0, 0, 0)) rfl rfl
theorem s175_18 {d : Nat} {ls : mj_L} {st : List Value} {M : mj_H} : mj_Rn d mj_m175 18 ls st M = mq_k0 d mj_m175 21 ls M (mq_gf 10 2 st M) := (mj_R3 (r := (.getfield 24, 3, 10, 2, 8490)) rfl rfl).trans (congrArg (mq_k0 d mj_m175 21 ls M) mq_gf_eq)
theorem s175_21 {d : Nat} {ls : mj_L} {st : List Value} {M : mj_H} : mj_Rn d mj_m175 21 ls st M = mq_k0 d mj_m175 22 ls M (mj_ldi (mj_lk ls 2) st) := mj_R0 (r := (.iload_n 2, 1, 0, 0, 0)) rfl rfl
theorem s175_22 {d : Nat} {ls : mj_L} {st : List Value} {M : mj_H} : mj_Rn d mj_m175 22 ls st M = mj_Rn d mj_m175 23 ls (.int 0 :: st) M := mj_R0 (r := (.iconst 0, 1, 0, 0, 0)) rfl rfl
theorem s175_23 {d : Nat} {ls : mj_L} {st : List Value} {M : mj_H} : mj_Rn (d + 1) mj_m175 23 ls st M = mq_k5a (d + 1) mj_m175 26 ls M 20 (mq_cb 0 2 9 st M) := mj_R5e (r := (.invokevirtual 87, 3, 0, 20, 4322)) (z := mj_m20) rfl rfl (by decide) (by decide) rfl
theorem s175_26 {d : Nat} {ls : mj_L} {st : List Value} {M : mj_H} : mj_Rn d mj_m175 26 ls st M = mj_Rn d mj_m175 27 ls (.int 4 :: st) M := mj_R0 (r := (.iconst 4, 1, 0, 0, 0)) rfl rfl
theorem s175_27 {d : Nat} {ls : mj_L} {st : List Value} {M : mj_H} : mj_Rn d mj_m175 27 ls st M = mq_k2 d mj_m175 ls M (mj_br (.if_icmp .ne 19) 27 st) := mj_R2 (r := (.if_icmp .ne 19, 3, 0, 0, 0)) rfl rfl
theorem s175_30 {d : Nat} {ls : mj_L} {st : List Value} {M : mj_H} : mj_Rn d mj_m175 30 ls st M = mq_k0 d mj_m175 31 ls M (mj_lda (mj_lk ls 0) st) := mj_R0 (r := (.aload_n 0, 1, 0, 0, 0)) rfl rfl
theorem s175_31 {d : Nat} {ls : mj_L} {st : List Value} {M : mj_H} : mj_Rn d mj_m175 31 ls st M = mq_k0 d mj_m175 34 ls M (mq_gf 10 2 st M) := (mj_R3 (r := (.getfield 24, 3, 10, 2, 8490)) rfl rfl).trans (congrArg (mq_k0 d mj_m175 34 ls M) mq_gf_eq)
theorem s175_34 {d : Nat} {ls : mj_L} {st : List Value} {M : mj_H} : mj_Rn d mj_m175 34 ls st M = mq_k0 d mj_m175 35 ls M (mj_ldi (mj_lk ls 2) st) := mj_R0 (r := (.iload_n 2, 1, 0, 0, 0)) rfl rfl
theorem s175_35 {d : Nat} {ls : mj_L} {st : List Value} {M : mj_H} : mj_Rn d mj_m175 35 ls st M = mj_Rn d mj_m175 36 ls (.int 1 :: st) M := mj_R0 (r := (.iconst 1, 1, 0, 0, 0)) rfl rfl
theorem s175_36 {d : Nat} {ls : mj_L} {st : List Value} {M : mj_H} : mj_Rn (d + 1) mj_m175 36 ls st M = mq_k5a (d + 1) mj_m175 39 ls M 20 (mq_cb 0 2 9 st M) := mj_R5e (r := (.invokevirtual 87, 3, 0, 20, 4322)) (z := mj_m20) rfl rfl (by decide) (by decide) rfl
theorem s175_39 {d : Nat} {ls : mj_L} {st : List Value} {M : mj_H} : mj_Rn d mj_m175 39 ls st M = mq_k0 d mj_m175 40 ls M (mj_lda (mj_lk ls 3) st) := mj_R0 (r := (.aload_n 3, 1, 0, 0, 0)) rfl rfl
theorem s175_40 {d : Nat} {ls : mj_L} {st : List Value} {M : mj_H} : mj_Rn d mj_m175 40 ls st M = mq_k0 d mj_m175 43 ls M (mq_gf 3 3 st M) := (mj_R3 (r := (.getfield 184, 3, 3, 3, 8455)) rfl rfl).trans (congrArg (mq_k0 d mj_m175 43 ls M) mq_gf_eq)
theorem s175_43 {d : Nat} {ls : mj_L} {st : List Value} {M : mj_H} : mj_Rn d mj_m175 43 ls st M = mq_k2 d mj_m175 ls M (mj_br (.if_icmp .eq 5) 43 st) := mj_R2 (r := (.if_icmp .eq 5, 3, 0, 0, 0)) rfl rfl
theorem s175_46 {d : Nat} {ls : mj_L} {st : List Value} {M : mj_H} : mj_Rn d mj_m175 46 ls st M = mj_Rn d mj_m175 47 ls (.int (-1) :: st) M := mj_R0 (r := (.iconst (-1), 1, 0, 0, 0)) rfl rfl
theorem s175_47 {d : Nat} {ls : mj_L} {st : List Value} {M : mj_H} : mj_Rn d mj_m175 47 ls st M = mq_k6 M (mj_re (some .int) (.ireturn) st) := mj_R6 (r := (.ireturn, 1, 0, 0, 0)) rfl rfl
theorem s175_48 {d : Nat} {ls : mj_L} {st : List Value} {M : mj_H} : mj_Rn d mj_m175 48 ls st M = mq_k0 d mj_m175 49 ls M (mj_lda (mj_lk ls 0) st) := mj_R0 (r := (.aload_n 0, 1, 0, 0, 0)) rfl rfl
theorem s175_49 {d : Nat} {ls : mj_L} {st : List Value} {M : mj_H} : mj_Rn d mj_m175 49 ls st M = mq_k0 d mj_m175 52 ls M (mq_gf 10 0 st M) := (mj_R3 (r := (.getfield 14, 3, 10, 0, 8486)) rfl rfl).trans (congrArg (mq_k0 d mj_m175 52 ls M) mq_gf_eq)
theorem s175_52 {d : Nat} {ls : mj_L} {st : List Value} {M : mj_H} : mj_Rn (d + 1) mj_m175 52 ls st M = mq_k5a (d + 1) mj_m175 55 ls M 12 (mq_cb 0 0 1 st M) := mj_R5e (r := (.invokevirtual 73, 3, 0, 12, 4290)) (z := mj_m12) rfl rfl (by decide) (by decide) rfl
theorem s175_55 {d : Nat} {ls : mj_L} {st : List Value} {M : mj_H} : mj_Rn d mj_m175 55 ls st M = mq_k0 d mj_m175 56 ls M (mj_lda (mj_lk ls 0) st) := mj_R0 (r := (.aload_n 0, 1, 0, 0, 0)) rfl rfl
theorem s175_56 {d : Nat} {ls : mj_L} {st : List Value} {M : mj_H} : mj_Rn d mj_m175 56 ls st M = mq_k0 d mj_m175 59 ls M (mq_gf 10 2 st M) := (mj_R3 (r := (.getfield 24, 3, 10, 2, 8490)) rfl rfl).trans (congrArg (mq_k0 d mj_m175 59 ls M) mq_gf_eq)
theorem s175_59 {d : Nat} {ls : mj_L} {st : List Value} {M : mj_H} : mj_Rn d mj_m175 59 ls st M = mq_k0 d mj_m175 60 ls M (mj_ldi (mj_lk ls 2) st) := mj_R0 (r := (.iload_n 2, 1, 0, 0, 0)) rfl rfl
theorem s175_60 {d : Nat} {ls : mj_L} {st : List Value} {M : mj_H} : mj_Rn (d + 1) mj_m175 60 ls st M = mq_k5a (d + 1) mj_m175 63 ls M 21 (mq_cb 0 1 9 st M) := mj_R5e (r := (.invokevirtual 187, 3, 0, 21, 20602)) (z := mj_m21) rfl rfl (by decide) (by decide) rfl
theorem s175_63 {d : Nat} {ls : mj_L} {st : List Value} {M : mj_H} : mj_Rn d mj_m175 63 ls st M = mq_k1 d mj_m175 65 M (mj_lo 6 (.istore 4) ls st) := mj_R1 (r := (.istore 4, 2, 0, 0, 0)) rfl rfl
theorem s175_65 {d : Nat} {ls : mj_L} {st : List Value} {M : mj_H} : mj_Rn d mj_m175 65 ls st M = mj_Rn d mj_m175 66 ls (.int 2 :: st) M := mj_R0 (r := (.iconst 2, 1, 0, 0, 0)) rfl rfl
theorem s175_66 {d : Nat} {ls : mj_L} {st : List Value} {M : mj_H} : mj_Rn d mj_m175 66 ls st M = mq_k1 d mj_m175 68 M (mj_lo 6 (.istore 5) ls st) := mj_R1 (r := (.istore 5, 2, 0, 0, 0)) rfl rfl
theorem s175_68 {d : Nat} {ls : mj_L} {st : List Value} {M : mj_H} : mj_Rn d mj_m175 68 ls st M = mq_k0 d mj_m175 70 ls M (mj_ldi (mj_lk ls 5) st) := mj_R0 (r := (.iload 5, 2, 0, 0, 0)) rfl rfl
theorem s175_70 {d : Nat} {ls : mj_L} {st : List Value} {M : mj_H} : mj_Rn d mj_m175 70 ls st M = mq_k0 d mj_m175 72 ls M (mj_ldi (mj_lk ls 4) st) := mj_R0 (r := (.iload 4, 2, 0, 0, 0)) rfl rfl
theorem s175_72 {d : Nat} {ls : mj_L} {st : List Value} {M : mj_H} : mj_Rn d mj_m175 72 ls st M = mq_k2 d mj_m175 ls M (mj_br (.if_icmp .ge 26) 72 st) := mj_R2 (r := (.if_icmp .ge 26, 3, 0, 0, 0)) rfl rfl
theorem s175_75 {d : Nat} {ls : mj_L} {st : List Value} {M : mj_H} : mj_Rn d mj_m175 75 ls st M = mq_k0 d mj_m175 76 ls M (mj_lda (mj_lk ls 0) st) := mj_R0 (r := (.aload_n 0, 1, 0, 0, 0)) rfl rfl
theorem s175_76 {d : Nat} {ls : mj_L} {st : List Value} {M : mj_H} : mj_Rn d mj_m175 76 ls st M = mq_k0 d mj_m175 79 ls M (mq_gf 10 0 st M) := (mj_R3 (r := (.getfield 14, 3, 10, 0, 8486)) rfl rfl).trans (congrArg (mq_k0 d mj_m175 79 ls M) mq_gf_eq)
theorem s175_79 {d : Nat} {ls : mj_L} {st : List Value} {M : mj_H} : mj_Rn d mj_m175 79 ls st M = mq_k0 d mj_m175 80 ls M (mj_lda (mj_lk ls 0) st) := mj_R0 (r := (.aload_n 0, 1, 0, 0, 0)) rfl rfl
theorem s175_80 {d : Nat} {ls : mj_L} {st : List Value} {M : mj_H} : mj_Rn d mj_m175 80 ls st M = mq_k0 d mj_m175 83 ls M (mq_gf 10 2 st M) := (mj_R3 (r := (.getfield 24, 3, 10, 2, 8490)) rfl rfl).trans (congrArg (mq_k0 d mj_m175 83 ls M) mq_gf_eq)
theorem s175_83 {d : Nat} {ls : mj_L} {st : List Value} {M : mj_H} : mj_Rn d mj_m175 83 ls st M = mq_k0 d mj_m175 84 ls M (mj_ldi (mj_lk ls 2) st) := mj_R0 (r := (.iload_n 2, 1, 0, 0, 0)) rfl rfl
theorem s175_84 {d : Nat} {ls : mj_L} {st : List Value} {M : mj_H} : mj_Rn d mj_m175 84 ls st M = mq_k0 d mj_m175 86 ls M (mj_ldi (mj_lk ls 5) st) := mj_R0 (r := (.iload 5, 2, 0, 0, 0)) rfl rfl
theorem s175_86 {d : Nat} {ls : mj_L} {st : List Value} {M : mj_H} : mj_Rn (d + 1) mj_m175 86 ls st M = mq_k5a (d + 1) mj_m175 89 ls M 20 (mq_cb 0 2 9 st M) := mj_R5e (r := (.invokevirtual 87, 3, 0, 20, 4322)) (z := mj_m20) rfl rfl (by decide) (by decide) rfl
theorem s175_89 {d : Nat} {ls : mj_L} {st : List Value} {M : mj_H} : mj_Rn (d + 1) mj_m175 89 ls st M = mq_k5a (d + 1) mj_m175 92 ls M 45 (mq_cb 0 1 1 st M) := mj_R5e (r := (.invokevirtual 190, 3, 0, 45, 20603)) (z := mj_m45) rfl rfl (by decide) (by decide) rfl
theorem s175_92 {d : Nat} {ls : mj_L} {st : List Value} {M : mj_H} : mj_Rn d mj_m175 92 ls st M = mq_k1 d mj_m175 95 M (mj_lo 6 (.iinc 5 1) ls st) := mj_R1 (r := (.iinc 5 1, 3, 0, 0, 0)) rfl rfl
theorem s175_95 {d : Nat} {ls : mj_L} {st : List Value} {M : mj_H} : mj_Rn d mj_m175 95 ls st M = mj_Rn d mj_m175 68 ls st M := mj_R2 (r := (.goto (-27), 3, 0, 0, 0)) rfl rfl
theorem s175_98 {d : Nat} {ls : mj_L} {st : List Value} {M : mj_H} : mj_Rn d mj_m175 98 ls st M = mq_k0 d mj_m175 99 ls M (mj_lda (mj_lk ls 0) st) := mj_R0 (r := (.aload_n 0, 1, 0, 0, 0)) rfl rfl
theorem s175_99 {d : Nat} {ls : mj_L} {st : List Value} {M : mj_H} : mj_Rn d mj_m175 99 ls st M = mq_k0 d mj_m175 102 ls M (mq_gf 10 0 st M) := (mj_R3 (r := (.getfield 14, 3, 10, 0, 8486)) rfl rfl).trans (congrArg (mq_k0 d mj_m175 102 ls M) mq_gf_eq)
theorem s175_102 {d : Nat} {ls : mj_L} {st : List Value} {M : mj_H} : mj_Rn (d + 1) mj_m175 102 ls st M = mq_k5a (d + 1) mj_m175 105 ls M 9 (mq_cb 0 0 1 st M) := mj_R5e (r := (.invokevirtual 65, 3, 0, 9, 4278)) (z := mj_m9) rfl rfl (by decide) (by decide) rfl
theorem s175_105 {d : Nat} {ls : mj_L} {st : List Value} {M : mj_H} : mj_Rn d mj_m175 105 ls st M = mq_k6 M (mj_re (some .int) (.ireturn) st) := mj_R6 (r := (.ireturn, 1, 0, 0, 0)) rfl rfl
/- 176 PasskeyHouse.token(II)Z -/
theorem s176_0 {d : Nat} {ls : mj_L} {st : List Value} {M : mj_H} : mj_Rn d mj_m176 0 ls st M = mq_k0 d mj_m176 1 ls M (mj_lda (mj_lk ls 0) st) := mj_R0 (r := (.aload_n 0, 1, 0, 0, 0)) rfl rfl
theorem s176_1 {d : Nat} {ls : mj_L} {st : List Value} {M : mj_H} : mj_Rn d mj_m176 1 ls st M = mq_k0 d mj_m176 2 ls M (mj_ldi (mj_lk ls 1) st) := mj_R0 (r := (.iload_n 1, 1, 0, 0, 0)) rfl rfl
theorem s176_2 {d : Nat} {ls : mj_L} {st : List Value} {M : mj_H} : mj_Rn (d + 1) mj_m176 2 ls st M = mq_k5a (d + 1) mj_m176 5 ls M 168 (mq_cb 0 1 10 st M) := mj_R5e (r := (.invokevirtual 149, 3, 0, 168, 20562)) (z := mj_m168) rfl rfl (by decide) (by decide) rfl
theorem s176_5 {d : Nat} {ls : mj_L} {st : List Value} {M : mj_H} : mj_Rn d mj_m176 5 ls st M = mq_k1 d mj_m176 6 M (mj_lo 4 (.astore 3) ls st) := (mj_R1 (r := (.astore_n 3, 1, 0, 0, 0)) rfl rfl).trans (congrArg (mq_k1 d mj_m176 6 M) (mq_sta (k := 3)))
theorem s176_6 {d : Nat} {ls : mj_L} {st : List Value} {M : mj_H} : mj_Rn d mj_m176 6 ls st M = mq_k0 d mj_m176 7 ls M (mj_lda (mj_lk ls 3) st) := mj_R0 (r := (.aload_n 3, 1, 0, 0, 0)) rfl rfl
theorem s176_7 {d : Nat} {ls : mj_L} {st : List Value} {M : mj_H} : mj_Rn d mj_m176 7 ls st M = mq_k2 d mj_m176 ls M (mj_br (.ifnull 16) 7 st) := mj_R2 (r := (.ifnull 16, 3, 0, 0, 0)) rfl rfl
theorem s176_10 {d : Nat} {ls : mj_L} {st : List Value} {M : mj_H} : mj_Rn d mj_m176 10 ls st M = mq_k0 d mj_m176 11 ls M (mj_lda (mj_lk ls 0) st) := mj_R0 (r := (.aload_n 0, 1, 0, 0, 0)) rfl rfl
theorem s176_11 {d : Nat} {ls : mj_L} {st : List Value} {M : mj_H} : mj_Rn d mj_m176 11 ls st M = mq_k0 d mj_m176 12 ls M (mj_lda (mj_lk ls 3) st) := mj_R0 (r := (.aload_n 3, 1, 0, 0, 0)) rfl rfl
theorem s176_12 {d : Nat} {ls : mj_L} {st : List Value} {M : mj_H} : mj_Rn d mj_m176 12 ls st M = mq_k0 d mj_m176 13 ls M (mj_ldi (mj_lk ls 2) st) := mj_R0 (r := (.iload_n 2, 1, 0, 0, 0)) rfl rfl
theorem s176_13 {d : Nat} {ls : mj_L} {st : List Value} {M : mj_H} : mj_Rn (d + 1) mj_m176 13 ls st M = mq_k5a (d + 1) mj_m176 16 ls M 177 (mq_cb 0 2 10 st M) := mj_R5e (r := (.invokevirtual 193, 3, 0, 177, 20608)) (z := mj_m177) rfl rfl (by decide) (by decide) rfl
theorem s176_16 {d : Nat} {ls : mj_L} {st : List Value} {M : mj_H} : mj_Rn d mj_m176 16 ls st M = mq_k2 d mj_m176 ls M (mj_br (.ifCond .eq 7) 16 st) := mj_R2 (r := (.ifCond .eq 7, 3, 0, 0, 0)) rfl rfl
theorem s176_19 {d : Nat} {ls : mj_L} {st : List Value} {M : mj_H} : mj_Rn d mj_m176 19 ls st M = mj_Rn d mj_m176 20 ls (.int 1 :: st) M := mj_R0 (r := (.iconst 1, 1, 0, 0, 0)) rfl rfl
theorem s176_20 {d : Nat} {ls : mj_L} {st : List Value} {M : mj_H} : mj_Rn d mj_m176 20 ls st M = mj_Rn d mj_m176 24 ls st M := mj_R2 (r := (.goto 4, 3, 0, 0, 0)) rfl rfl
theorem s176_23 {d : Nat} {ls : mj_L} {st : List Value} {M : mj_H} : mj_Rn d mj_m176 23 ls st M = mj_Rn d mj_m176 24 ls (.int 0 :: st) M := mj_R0 (r := (.iconst 0, 1, 0, 0, 0)) rfl rfl
theorem s176_24 {d : Nat} {ls : mj_L} {st : List Value} {M : mj_H} : mj_Rn d mj_m176 24 ls st M = mq_k6 M (mj_re (some .boolean) (.ireturn) st) := mj_R6 (r := (.ireturn, 1, 0, 0, 0)) rfl rfl
/- 177 PasskeyHouse.takeToken(LPasskeyHouse$Hand;I)Z -/
theorem s177_0 {d : Nat} {ls : mj_L} {st : List Value} {M : mj_H} : mj_Rn d mj_m177 0 ls st M = mq_k0 d mj_m177 1 ls M (mj_lda (mj_lk ls 1) st) := mj_R0 (r := (.aload_n 1, 1, 0, 0, 0)) rfl rfl
theorem s177_1 {d : Nat} {ls : mj_L} {st : List Value} {M : mj_H} : mj_Rn d mj_m177 1 ls st M = mq_k0 d mj_m177 4 ls M (mq_gf 3 3 st M) := (mj_R3 (r := (.getfield 184, 3, 3, 3, 8455)) rfl rfl).trans (congrArg (mq_k0 d mj_m177 4 ls M) mq_gf_eq)
theorem s177_4 {d : Nat} {ls : mj_L} {st : List Value} {M : mj_H} : mj_Rn d mj_m177 4 ls st M = mq_k2 d mj_m177 ls M (mj_br (.ifCond .eq 33) 4 st) := mj_R2 (r := (.ifCond .eq 33, 3, 0, 0, 0)) rfl rfl
theorem s177_7 {d : Nat} {ls : mj_L} {st : List Value} {M : mj_H} : mj_Rn d mj_m177 7 ls st M = mq_k0 d mj_m177 8 ls M (mj_lda (mj_lk ls 0) st) := mj_R0 (r := (.aload_n 0, 1, 0, 0, 0)) rfl rfl
theorem s177_8 {d : Nat} {ls : mj_L} {st : List Value} {M : mj_H} : mj_Rn d mj_m177 8 ls st M = mq_k0 d mj_m177 11 ls M (mq_gf 10 2 st M) := (mj_R3 (r := (.getfield 24, 3, 10, 2, 8490)) rfl rfl).trans (congrArg (mq_k0 d mj_m177 11 ls M) mq_gf_eq)
theorem s177_11 {d : Nat} {ls : mj_L} {st : List Value} {M : mj_H} : mj_Rn d mj_m177 11 ls st M = mq_k0 d mj_m177 12 ls M (mj_ldi (mj_lk ls 2) st) := mj_R0 (r := (.iload_n 2, 1, 0, 0, 0)) rfl rfl
theorem s177_12 {d : Nat} {ls : mj_L} {st : List Value} {M : mj_H} : mj_Rn d mj_m177 12 ls st M = mj_Rn d mj_m177 13 ls (.int 0 :: st) M := mj_R0 (r := (.iconst 0, 1, 0, 0, 0)) rfl rfl
theorem s177_13 {d : Nat} {ls : mj_L} {st : List Value} {M : mj_H} : mj_Rn (d + 1) mj_m177 13 ls st M = mq_k5a (d + 1) mj_m177 16 ls M 20 (mq_cb 0 2 9 st M) := mj_R5e (r := (.invokevirtual 87, 3, 0, 20, 4322)) (z := mj_m20) rfl rfl (by decide) (by decide) rfl
theorem s177_16 {d : Nat} {ls : mj_L} {st : List Value} {M : mj_H} : mj_Rn d mj_m177 16 ls st M = mj_Rn d mj_m177 18 ls (.int 9 :: st) M := mj_R0 (r := (.bipush 9, 2, 0, 0, 0)) rfl rfl
theorem s177_18 {d : Nat} {ls : mj_L} {st : List Value} {M : mj_H} : mj_Rn d mj_m177 18 ls st M = mq_k2 d mj_m177 ls M (mj_br (.if_icmp .ne 19) 18 st) := mj_R2 (r := (.if_icmp .ne 19, 3, 0, 0, 0)) rfl rfl
theorem s177_21 {d : Nat} {ls : mj_L} {st : List Value} {M : mj_H} : mj_Rn d mj_m177 21 ls st M = mq_k0 d mj_m177 22 ls M (mj_lda (mj_lk ls 0) st) := mj_R0 (r := (.aload_n 0, 1, 0, 0, 0)) rfl rfl
theorem s177_22 {d : Nat} {ls : mj_L} {st : List Value} {M : mj_H} : mj_Rn d mj_m177 22 ls st M = mq_k0 d mj_m177 25 ls M (mq_gf 10 2 st M) := (mj_R3 (r := (.getfield 24, 3, 10, 2, 8490)) rfl rfl).trans (congrArg (mq_k0 d mj_m177 25 ls M) mq_gf_eq)
theorem s177_25 {d : Nat} {ls : mj_L} {st : List Value} {M : mj_H} : mj_Rn d mj_m177 25 ls st M = mq_k0 d mj_m177 26 ls M (mj_ldi (mj_lk ls 2) st) := mj_R0 (r := (.iload_n 2, 1, 0, 0, 0)) rfl rfl
theorem s177_26 {d : Nat} {ls : mj_L} {st : List Value} {M : mj_H} : mj_Rn d mj_m177 26 ls st M = mj_Rn d mj_m177 27 ls (.int 1 :: st) M := mj_R0 (r := (.iconst 1, 1, 0, 0, 0)) rfl rfl
theorem s177_27 {d : Nat} {ls : mj_L} {st : List Value} {M : mj_H} : mj_Rn (d + 1) mj_m177 27 ls st M = mq_k5a (d + 1) mj_m177 30 ls M 20 (mq_cb 0 2 9 st M) := mj_R5e (r := (.invokevirtual 87, 3, 0, 20, 4322)) (z := mj_m20) rfl rfl (by decide) (by decide) rfl
theorem s177_30 {d : Nat} {ls : mj_L} {st : List Value} {M : mj_H} : mj_Rn d mj_m177 30 ls st M = mq_k0 d mj_m177 31 ls M (mj_lda (mj_lk ls 1) st) := mj_R0 (r := (.aload_n 1, 1, 0, 0, 0)) rfl rfl
theorem s177_31 {d : Nat} {ls : mj_L} {st : List Value} {M : mj_H} : mj_Rn d mj_m177 31 ls st M = mq_k0 d mj_m177 34 ls M (mq_gf 3 3 st M) := (mj_R3 (r := (.getfield 184, 3, 3, 3, 8455)) rfl rfl).trans (congrArg (mq_k0 d mj_m177 34 ls M) mq_gf_eq)
theorem s177_34 {d : Nat} {ls : mj_L} {st : List Value} {M : mj_H} : mj_Rn d mj_m177 34 ls st M = mq_k2 d mj_m177 ls M (mj_br (.if_icmp .eq 5) 34 st) := mj_R2 (r := (.if_icmp .eq 5, 3, 0, 0, 0)) rfl rfl
theorem s177_37 {d : Nat} {ls : mj_L} {st : List Value} {M : mj_H} : mj_Rn d mj_m177 37 ls st M = mj_Rn d mj_m177 38 ls (.int 0 :: st) M := mj_R0 (r := (.iconst 0, 1, 0, 0, 0)) rfl rfl
theorem s177_38 {d : Nat} {ls : mj_L} {st : List Value} {M : mj_H} : mj_Rn d mj_m177 38 ls st M = mq_k6 M (mj_re (some .boolean) (.ireturn) st) := mj_R6 (r := (.ireturn, 1, 0, 0, 0)) rfl rfl
theorem s177_39 {d : Nat} {ls : mj_L} {st : List Value} {M : mj_H} : mj_Rn d mj_m177 39 ls st M = mq_k0 d mj_m177 40 ls M (mj_lda (mj_lk ls 1) st) := mj_R0 (r := (.aload_n 1, 1, 0, 0, 0)) rfl rfl
theorem s177_40 {d : Nat} {ls : mj_L} {st : List Value} {M : mj_H} : mj_Rn d mj_m177 40 ls st M = mq_k0 d mj_m177 41 ls M (mj_lda (mj_lk ls 0) st) := mj_R0 (r := (.aload_n 0, 1, 0, 0, 0)) rfl rfl
theorem s177_41 {d : Nat} {ls : mj_L} {st : List Value} {M : mj_H} : mj_Rn d mj_m177 41 ls st M = mq_k0 d mj_m177 44 ls M (mq_gf 10 2 st M) := (mj_R3 (r := (.getfield 24, 3, 10, 2, 8490)) rfl rfl).trans (congrArg (mq_k0 d mj_m177 44 ls M) mq_gf_eq)
theorem s177_44 {d : Nat} {ls : mj_L} {st : List Value} {M : mj_H} : mj_Rn d mj_m177 44 ls st M = mq_k0 d mj_m177 45 ls M (mj_ldi (mj_lk ls 2) st) := mj_R0 (r := (.iload_n 2, 1, 0, 0, 0)) rfl rfl
theorem s177_45 {d : Nat} {ls : mj_L} {st : List Value} {M : mj_H} : mj_Rn d mj_m177 45 ls st M = mj_Rn d mj_m177 46 ls (.int 2 :: st) M := mj_R0 (r := (.iconst 2, 1, 0, 0, 0)) rfl rfl
theorem s177_46 {d : Nat} {ls : mj_L} {st : List Value} {M : mj_H} : mj_Rn (d + 1) mj_m177 46 ls st M = mq_k5a (d + 1) mj_m177 49 ls M 20 (mq_cb 0 2 9 st M) := mj_R5e (r := (.invokevirtual 87, 3, 0, 20, 4322)) (z := mj_m20) rfl rfl (by decide) (by decide) rfl
theorem s177_49 {d : Nat} {ls : mj_L} {st : List Value} {M : mj_H} : mj_Rn d mj_m177 49 ls st M = mq_k4 d mj_m177 52 ls (mq_pf 3 4 0 st M) := (mj_R4 (r := (.putfield 250, 3, 3, 4, 8459)) rfl rfl).trans (congrArg (mq_k4 d mj_m177 52 ls) (mq_pf_eq rfl rfl))
theorem s177_52 {d : Nat} {ls : mj_L} {st : List Value} {M : mj_H} : mj_Rn d mj_m177 52 ls st M = mj_Rn d mj_m177 53 ls (.int 1 :: st) M := mj_R0 (r := (.iconst 1, 1, 0, 0, 0)) rfl rfl
theorem s177_53 {d : Nat} {ls : mj_L} {st : List Value} {M : mj_H} : mj_Rn d mj_m177 53 ls st M = mq_k6 M (mj_re (some .boolean) (.ireturn) st) := mj_R6 (r := (.ireturn, 1, 0, 0, 0)) rfl rfl
/- 178 PasskeyHouse.pin(II)Z -/
theorem s178_0 {d : Nat} {ls : mj_L} {st : List Value} {M : mj_H} : mj_Rn d mj_m178 0 ls st M = mq_k0 d mj_m178 1 ls M (mj_lda (mj_lk ls 0) st) := mj_R0 (r := (.aload_n 0, 1, 0, 0, 0)) rfl rfl
theorem s178_1 {d : Nat} {ls : mj_L} {st : List Value} {M : mj_H} : mj_Rn d mj_m178 1 ls st M = mq_k0 d mj_m178 2 ls M (mj_ldi (mj_lk ls 1) st) := mj_R0 (r := (.iload_n 1, 1, 0, 0, 0)) rfl rfl
theorem s178_2 {d : Nat} {ls : mj_L} {st : List Value} {M : mj_H} : mj_Rn (d + 1) mj_m178 2 ls st M = mq_k5a (d + 1) mj_m178 5 ls M 168 (mq_cb 0 1 10 st M) := mj_R5e (r := (.invokevirtual 149, 3, 0, 168, 20562)) (z := mj_m168) rfl rfl (by decide) (by decide) rfl
theorem s178_5 {d : Nat} {ls : mj_L} {st : List Value} {M : mj_H} : mj_Rn d mj_m178 5 ls st M = mq_k1 d mj_m178 6 M (mj_lo 4 (.astore 3) ls st) := (mj_R1 (r := (.astore_n 3, 1, 0, 0, 0)) rfl rfl).trans (congrArg (mq_k1 d mj_m178 6 M) (mq_sta (k := 3)))
theorem s178_6 {d : Nat} {ls : mj_L} {st : List Value} {M : mj_H} : mj_Rn d mj_m178 6 ls st M = mq_k0 d mj_m178 7 ls M (mj_lda (mj_lk ls 3) st) := mj_R0 (r := (.aload_n 3, 1, 0, 0, 0)) rfl rfl
theorem s178_7 {d : Nat} {ls : mj_L} {st : List Value} {M : mj_H} : mj_Rn d mj_m178 7 ls st M = mq_k2 d mj_m178 ls M (mj_br (.ifnull 24) 7 st) := mj_R2 (r := (.ifnull 24, 3, 0, 0, 0)) rfl rfl
theorem s178_10 {d : Nat} {ls : mj_L} {st : List Value} {M : mj_H} : mj_Rn d mj_m178 10 ls st M = mq_k0 d mj_m178 11 ls M (mj_ldi (mj_lk ls 2) st) := mj_R0 (r := (.iload_n 2, 1, 0, 0, 0)) rfl rfl
theorem s178_11 {d : Nat} {ls : mj_L} {st : List Value} {M : mj_H} : mj_Rn d mj_m178 11 ls st M = mj_Rn d mj_m178 12 ls (.int 0 :: st) M := mj_R0 (r := (.iconst 0, 1, 0, 0, 0)) rfl rfl
theorem s178_12 {d : Nat} {ls : mj_L} {st : List Value} {M : mj_H} : mj_Rn d mj_m178 12 ls st M = mj_Rn d mj_m178 14 ls (.int 12 :: st) M := mj_R0 (r := (.bipush 12, 2, 0, 0, 0)) rfl rfl
theorem s178_14 {d : Nat} {ls : mj_L} {st : List Value} {M : mj_H} : mj_Rn (d + 1) mj_m178 14 ls st M = mq_k5a (d + 1) mj_m178 17 ls M 8 (mq_cb 2 3 10 st M) := mj_R5e (r := (.invokestatic 61, 3, 2, 8, 4275)) (z := mj_m8) rfl rfl (by decide) (by decide) rfl
theorem s178_17 {d : Nat} {ls : mj_L} {st : List Value} {M : mj_H} : mj_Rn d mj_m178 17 ls st M = mq_k2 d mj_m178 ls M (mj_br (.ifCond .eq 14) 17 st) := mj_R2 (r := (.ifCond .eq 14, 3, 0, 0, 0)) rfl rfl
theorem s178_20 {d : Nat} {ls : mj_L} {st : List Value} {M : mj_H} : mj_Rn d mj_m178 20 ls st M = mq_k0 d mj_m178 21 ls M (mj_ldi (mj_lk ls 2) st) := mj_R0 (r := (.iload_n 2, 1, 0, 0, 0)) rfl rfl
theorem s178_21 {d : Nat} {ls : mj_L} {st : List Value} {M : mj_H} : mj_Rn d mj_m178 21 ls st M = mq_k0 d mj_m178 22 ls M (mj_lda (mj_lk ls 0) st) := mj_R0 (r := (.aload_n 0, 1, 0, 0, 0)) rfl rfl
theorem s178_22 {d : Nat} {ls : mj_L} {st : List Value} {M : mj_H} : mj_Rn d mj_m178 22 ls st M = mq_k0 d mj_m178 25 ls M (mq_gf 10 0 st M) := (mj_R3 (r := (.getfield 14, 3, 10, 0, 8486)) rfl rfl).trans (congrArg (mq_k0 d mj_m178 25 ls M) mq_gf_eq)
theorem s178_25 {d : Nat} {ls : mj_L} {st : List Value} {M : mj_H} : mj_Rn (d + 1) mj_m178 25 ls st M = mq_k5a (d + 1) mj_m178 28 ls M 9 (mq_cb 0 0 1 st M) := mj_R5e (r := (.invokevirtual 65, 3, 0, 9, 4278)) (z := mj_m9) rfl rfl (by decide) (by decide) rfl
theorem s178_28 {d : Nat} {ls : mj_L} {st : List Value} {M : mj_H} : mj_Rn d mj_m178 28 ls st M = mq_k2 d mj_m178 ls M (mj_br (.if_icmp .le 5) 28 st) := mj_R2 (r := (.if_icmp .le 5, 3, 0, 0, 0)) rfl rfl
theorem s178_31 {d : Nat} {ls : mj_L} {st : List Value} {M : mj_H} : mj_Rn d mj_m178 31 ls st M = mj_Rn d mj_m178 32 ls (.int 0 :: st) M := mj_R0 (r := (.iconst 0, 1, 0, 0, 0)) rfl rfl
theorem s178_32 {d : Nat} {ls : mj_L} {st : List Value} {M : mj_H} : mj_Rn d mj_m178 32 ls st M = mq_k6 M (mj_re (some .boolean) (.ireturn) st) := mj_R6 (r := (.ireturn, 1, 0, 0, 0)) rfl rfl
theorem s178_33 {d : Nat} {ls : mj_L} {st : List Value} {M : mj_H} : mj_Rn d mj_m178 33 ls st M = mq_k0 d mj_m178 34 ls M (mj_lda (mj_lk ls 3) st) := mj_R0 (r := (.aload_n 3, 1, 0, 0, 0)) rfl rfl
theorem s178_34 {d : Nat} {ls : mj_L} {st : List Value} {M : mj_H} : mj_Rn d mj_m178 34 ls st M = mq_k0 d mj_m178 37 ls M (mq_gf 3 0 st M) := (mj_R3 (r := (.getfield 197, 3, 3, 0, 8443)) rfl rfl).trans (congrArg (mq_k0 d mj_m178 37 ls M) mq_gf_eq)
theorem s178_37 {d : Nat} {ls : mj_L} {st : List Value} {M : mj_H} : mj_Rn (d + 1) mj_m178 37 ls st M = mq_k5a (d + 1) mj_m178 40 ls M 12 (mq_cb 0 0 1 st M) := mj_R5e (r := (.invokevirtual 73, 3, 0, 12, 4290)) (z := mj_m12) rfl rfl (by decide) (by decide) rfl
theorem s178_40 {d : Nat} {ls : mj_L} {st : List Value} {M : mj_H} : mj_Rn d mj_m178 40 ls st M = mq_k0 d mj_m178 41 ls M (mj_lda (mj_lk ls 3) st) := mj_R0 (r := (.aload_n 3, 1, 0, 0, 0)) rfl rfl
theorem s178_41 {d : Nat} {ls : mj_L} {st : List Value} {M : mj_H} : mj_Rn d mj_m178 41 ls st M = mq_k0 d mj_m178 44 ls M (mq_gf 3 0 st M) := (mj_R3 (r := (.getfield 197, 3, 3, 0, 8443)) rfl rfl).trans (congrArg (mq_k0 d mj_m178 44 ls M) mq_gf_eq)
theorem s178_44 {d : Nat} {ls : mj_L} {st : List Value} {M : mj_H} : mj_Rn d mj_m178 44 ls st M = mq_k0 d mj_m178 45 ls M (mj_lda (mj_lk ls 0) st) := mj_R0 (r := (.aload_n 0, 1, 0, 0, 0)) rfl rfl
theorem s178_45 {d : Nat} {ls : mj_L} {st : List Value} {M : mj_H} : mj_Rn d mj_m178 45 ls st M = mq_k0 d mj_m178 48 ls M (mq_gf 10 0 st M) := (mj_R3 (r := (.getfield 14, 3, 10, 0, 8486)) rfl rfl).trans (congrArg (mq_k0 d mj_m178 48 ls M) mq_gf_eq)
theorem s178_48 {d : Nat} {ls : mj_L} {st : List Value} {M : mj_H} : mj_Rn d mj_m178 48 ls st M = mj_Rn d mj_m178 49 ls (.int 0 :: st) M := mj_R0 (r := (.iconst 0, 1, 0, 0, 0)) rfl rfl
theorem s178_49 {d : Nat} {ls : mj_L} {st : List Value} {M : mj_H} : mj_Rn d mj_m178 49 ls st M = mq_k0 d mj_m178 50 ls M (mj_ldi (mj_lk ls 2) st) := mj_R0 (r := (.iload_n 2, 1, 0, 0, 0)) rfl rfl
theorem s178_50 {d : Nat} {ls : mj_L} {st : List Value} {M : mj_H} : mj_Rn (d + 1) mj_m178 50 ls st M = mq_k5a (d + 1) mj_m178 53 ls M 77 (mq_cb 0 3 1 st M) := mj_R5e (r := (.invokevirtual 118, 3, 0, 77, 12429)) (z := mj_m77) rfl rfl (by decide) (by decide) rfl
theorem s178_53 {d : Nat} {ls : mj_L} {st : List Value} {M : mj_H} : mj_Rn d mj_m178 53 ls st M = mj_Rn d mj_m178 54 ls (.int 1 :: st) M := mj_R0 (r := (.iconst 1, 1, 0, 0, 0)) rfl rfl
theorem s178_54 {d : Nat} {ls : mj_L} {st : List Value} {M : mj_H} : mj_Rn d mj_m178 54 ls st M = mq_k6 M (mj_re (some .boolean) (.ireturn) st) := mj_R6 (r := (.ireturn, 1, 0, 0, 0)) rfl rfl
/- 179 PasskeyHouse.page(II)Z -/
theorem s179_0 {d : Nat} {ls : mj_L} {st : List Value} {M : mj_H} : mj_Rn d mj_m179 0 ls st M = mq_k0 d mj_m179 1 ls M (mj_lda (mj_lk ls 0) st) := mj_R0 (r := (.aload_n 0, 1, 0, 0, 0)) rfl rfl
theorem s179_1 {d : Nat} {ls : mj_L} {st : List Value} {M : mj_H} : mj_Rn d mj_m179 1 ls st M = mq_k0 d mj_m179 2 ls M (mj_ldi (mj_lk ls 1) st) := mj_R0 (r := (.iload_n 1, 1, 0, 0, 0)) rfl rfl
theorem s179_2 {d : Nat} {ls : mj_L} {st : List Value} {M : mj_H} : mj_Rn (d + 1) mj_m179 2 ls st M = mq_k5a (d + 1) mj_m179 5 ls M 168 (mq_cb 0 1 10 st M) := mj_R5e (r := (.invokevirtual 149, 3, 0, 168, 20562)) (z := mj_m168) rfl rfl (by decide) (by decide) rfl
theorem s179_5 {d : Nat} {ls : mj_L} {st : List Value} {M : mj_H} : mj_Rn d mj_m179 5 ls st M = mq_k1 d mj_m179 6 M (mj_lo 4 (.astore 3) ls st) := (mj_R1 (r := (.astore_n 3, 1, 0, 0, 0)) rfl rfl).trans (congrArg (mq_k1 d mj_m179 6 M) (mq_sta (k := 3)))
theorem s179_6 {d : Nat} {ls : mj_L} {st : List Value} {M : mj_H} : mj_Rn d mj_m179 6 ls st M = mq_k0 d mj_m179 7 ls M (mj_lda (mj_lk ls 3) st) := mj_R0 (r := (.aload_n 3, 1, 0, 0, 0)) rfl rfl
theorem s179_7 {d : Nat} {ls : mj_L} {st : List Value} {M : mj_H} : mj_Rn d mj_m179 7 ls st M = mq_k2 d mj_m179 ls M (mj_br (.ifnull 24) 7 st) := mj_R2 (r := (.ifnull 24, 3, 0, 0, 0)) rfl rfl
theorem s179_10 {d : Nat} {ls : mj_L} {st : List Value} {M : mj_H} : mj_Rn d mj_m179 10 ls st M = mq_k0 d mj_m179 11 ls M (mj_ldi (mj_lk ls 2) st) := mj_R0 (r := (.iload_n 2, 1, 0, 0, 0)) rfl rfl
theorem s179_11 {d : Nat} {ls : mj_L} {st : List Value} {M : mj_H} : mj_Rn d mj_m179 11 ls st M = mj_Rn d mj_m179 12 ls (.int 0 :: st) M := mj_R0 (r := (.iconst 0, 1, 0, 0, 0)) rfl rfl
theorem s179_12 {d : Nat} {ls : mj_L} {st : List Value} {M : mj_H} : mj_Rn d mj_m179 12 ls st M = mj_Rn d mj_m179 14 ls (.int 40 :: st) M := mj_R0 (r := (.bipush 40, 2, 0, 0, 0)) rfl rfl
theorem s179_14 {d : Nat} {ls : mj_L} {st : List Value} {M : mj_H} : mj_Rn (d + 1) mj_m179 14 ls st M = mq_k5a (d + 1) mj_m179 17 ls M 8 (mq_cb 2 3 10 st M) := mj_R5e (r := (.invokestatic 61, 3, 2, 8, 4275)) (z := mj_m8) rfl rfl (by decide) (by decide) rfl
theorem s179_17 {d : Nat} {ls : mj_L} {st : List Value} {M : mj_H} : mj_Rn d mj_m179 17 ls st M = mq_k2 d mj_m179 ls M (mj_br (.ifCond .eq 14) 17 st) := mj_R2 (r := (.ifCond .eq 14, 3, 0, 0, 0)) rfl rfl
theorem s179_20 {d : Nat} {ls : mj_L} {st : List Value} {M : mj_H} : mj_Rn d mj_m179 20 ls st M = mq_k0 d mj_m179 21 ls M (mj_ldi (mj_lk ls 2) st) := mj_R0 (r := (.iload_n 2, 1, 0, 0, 0)) rfl rfl
theorem s179_21 {d : Nat} {ls : mj_L} {st : List Value} {M : mj_H} : mj_Rn d mj_m179 21 ls st M = mq_k0 d mj_m179 22 ls M (mj_lda (mj_lk ls 0) st) := mj_R0 (r := (.aload_n 0, 1, 0, 0, 0)) rfl rfl
theorem s179_22 {d : Nat} {ls : mj_L} {st : List Value} {M : mj_H} : mj_Rn d mj_m179 22 ls st M = mq_k0 d mj_m179 25 ls M (mq_gf 10 0 st M) := (mj_R3 (r := (.getfield 14, 3, 10, 0, 8486)) rfl rfl).trans (congrArg (mq_k0 d mj_m179 25 ls M) mq_gf_eq)
theorem s179_25 {d : Nat} {ls : mj_L} {st : List Value} {M : mj_H} : mj_Rn (d + 1) mj_m179 25 ls st M = mq_k5a (d + 1) mj_m179 28 ls M 9 (mq_cb 0 0 1 st M) := mj_R5e (r := (.invokevirtual 65, 3, 0, 9, 4278)) (z := mj_m9) rfl rfl (by decide) (by decide) rfl
theorem s179_28 {d : Nat} {ls : mj_L} {st : List Value} {M : mj_H} : mj_Rn d mj_m179 28 ls st M = mq_k2 d mj_m179 ls M (mj_br (.if_icmp .le 5) 28 st) := mj_R2 (r := (.if_icmp .le 5, 3, 0, 0, 0)) rfl rfl
theorem s179_31 {d : Nat} {ls : mj_L} {st : List Value} {M : mj_H} : mj_Rn d mj_m179 31 ls st M = mj_Rn d mj_m179 32 ls (.int 0 :: st) M := mj_R0 (r := (.iconst 0, 1, 0, 0, 0)) rfl rfl
theorem s179_32 {d : Nat} {ls : mj_L} {st : List Value} {M : mj_H} : mj_Rn d mj_m179 32 ls st M = mq_k6 M (mj_re (some .boolean) (.ireturn) st) := mj_R6 (r := (.ireturn, 1, 0, 0, 0)) rfl rfl
theorem s179_33 {d : Nat} {ls : mj_L} {st : List Value} {M : mj_H} : mj_Rn d mj_m179 33 ls st M = mq_k0 d mj_m179 34 ls M (mj_lda (mj_lk ls 3) st) := mj_R0 (r := (.aload_n 3, 1, 0, 0, 0)) rfl rfl
theorem s179_34 {d : Nat} {ls : mj_L} {st : List Value} {M : mj_H} : mj_Rn d mj_m179 34 ls st M = mq_k0 d mj_m179 37 ls M (mq_gf 3 1 st M) := (mj_R3 (r := (.getfield 200, 3, 3, 1, 8447)) rfl rfl).trans (congrArg (mq_k0 d mj_m179 37 ls M) mq_gf_eq)
theorem s179_37 {d : Nat} {ls : mj_L} {st : List Value} {M : mj_H} : mj_Rn (d + 1) mj_m179 37 ls st M = mq_k5a (d + 1) mj_m179 40 ls M 12 (mq_cb 0 0 1 st M) := mj_R5e (r := (.invokevirtual 73, 3, 0, 12, 4290)) (z := mj_m12) rfl rfl (by decide) (by decide) rfl
theorem s179_40 {d : Nat} {ls : mj_L} {st : List Value} {M : mj_H} : mj_Rn d mj_m179 40 ls st M = mq_k0 d mj_m179 41 ls M (mj_lda (mj_lk ls 3) st) := mj_R0 (r := (.aload_n 3, 1, 0, 0, 0)) rfl rfl
theorem s179_41 {d : Nat} {ls : mj_L} {st : List Value} {M : mj_H} : mj_Rn d mj_m179 41 ls st M = mq_k0 d mj_m179 44 ls M (mq_gf 3 1 st M) := (mj_R3 (r := (.getfield 200, 3, 3, 1, 8447)) rfl rfl).trans (congrArg (mq_k0 d mj_m179 44 ls M) mq_gf_eq)
theorem s179_44 {d : Nat} {ls : mj_L} {st : List Value} {M : mj_H} : mj_Rn d mj_m179 44 ls st M = mq_k0 d mj_m179 45 ls M (mj_lda (mj_lk ls 0) st) := mj_R0 (r := (.aload_n 0, 1, 0, 0, 0)) rfl rfl
theorem s179_45 {d : Nat} {ls : mj_L} {st : List Value} {M : mj_H} : mj_Rn d mj_m179 45 ls st M = mq_k0 d mj_m179 48 ls M (mq_gf 10 0 st M) := (mj_R3 (r := (.getfield 14, 3, 10, 0, 8486)) rfl rfl).trans (congrArg (mq_k0 d mj_m179 48 ls M) mq_gf_eq)
theorem s179_48 {d : Nat} {ls : mj_L} {st : List Value} {M : mj_H} : mj_Rn d mj_m179 48 ls st M = mj_Rn d mj_m179 49 ls (.int 0 :: st) M := mj_R0 (r := (.iconst 0, 1, 0, 0, 0)) rfl rfl
theorem s179_49 {d : Nat} {ls : mj_L} {st : List Value} {M : mj_H} : mj_Rn d mj_m179 49 ls st M = mq_k0 d mj_m179 50 ls M (mj_ldi (mj_lk ls 2) st) := mj_R0 (r := (.iload_n 2, 1, 0, 0, 0)) rfl rfl
theorem s179_50 {d : Nat} {ls : mj_L} {st : List Value} {M : mj_H} : mj_Rn (d + 1) mj_m179 50 ls st M = mq_k5a (d + 1) mj_m179 53 ls M 77 (mq_cb 0 3 1 st M) := mj_R5e (r := (.invokevirtual 118, 3, 0, 77, 12429)) (z := mj_m77) rfl rfl (by decide) (by decide) rfl
theorem s179_53 {d : Nat} {ls : mj_L} {st : List Value} {M : mj_H} : mj_Rn d mj_m179 53 ls st M = mj_Rn d mj_m179 54 ls (.int 1 :: st) M := mj_R0 (r := (.iconst 1, 1, 0, 0, 0)) rfl rfl
theorem s179_54 {d : Nat} {ls : mj_L} {st : List Value} {M : mj_H} : mj_Rn d mj_m179 54 ls st M = mq_k6 M (mj_re (some .boolean) (.ireturn) st) := mj_R6 (r := (.ireturn, 1, 0, 0, 0)) rfl rfl
theorem c167 {d : Nat} {a0 : Nat} {x1 : Int32} {M : mj_H} : mj_V (d + 1) 167 [.ref a0, .int x1] M = mj_Rn d mj_m167 0 [(0, .ref a0), (1, .int x1)] [] M := mj_V_go rfl (Nat.le_of_ble_eq_true rfl)
theorem c169 {d : Nat} {a0 : Nat} {a1 : Nat} {M : mj_H} : mj_V (d + 1) 169 [.ref a0, .ref a1] M = mj_Rn d mj_m169 0 [(0, .ref a0), (1, .ref a1)] [] M := mj_V_go rfl (Nat.le_of_ble_eq_true rfl)
theorem c170 {d : Nat} {a0 : Nat} {x1 : Int32} {x2 : Int32} {M : mj_H} : mj_V (d + 1) 170 [.ref a0, .int x1, .int x2] M = mj_Rn d mj_m170 0 [(0, .ref a0), (1, .int x1), (2, .int x2)] [] M := mj_V_go rfl (Nat.le_of_ble_eq_true rfl)
theorem c171 {d : Nat} {a0 : Nat} {a1 : Nat} {x2 : Int32} {M : mj_H} : mj_V (d + 1) 171 [.ref a0, .ref a1, .int x2] M = mj_Rn d mj_m171 0 [(0, .ref a0), (1, .ref a1), (2, .int x2)] [] M := mj_V_go rfl (Nat.le_of_ble_eq_true rfl)
theorem c172 {d : Nat} {a0 : Nat} {x1 : Int32} {x2 : Int32} {x3 : Int32} {M : mj_H} : mj_V (d + 1) 172 [.ref a0, .int x1, .int x2, .int x3] M = mj_Rn d mj_m172 0 [(0, .ref a0), (1, .int x1), (2, .int x2), (3, .int x3)] [] M := mj_V_go rfl (Nat.le_of_ble_eq_true rfl)
theorem c173 {d : Nat} {a0 : Nat} {x1 : Int32} {M : mj_H} : mj_V (d + 1) 173 [.ref a0, .int x1] M = mj_Rn d mj_m173 0 [(0, .ref a0), (1, .int x1)] [] M := mj_V_go rfl (Nat.le_of_ble_eq_true rfl)
theorem c174 {d : Nat} {a0 : Nat} {x1 : Int32} {M : mj_H} : mj_V (d + 1) 174 [.ref a0, .int x1] M = mj_Rn d mj_m174 0 [(0, .ref a0), (1, .int x1)] [] M := mj_V_go rfl (Nat.le_of_ble_eq_true rfl)
theorem c175 {d : Nat} {a0 : Nat} {x1 : Int32} {x2 : Int32} {M : mj_H} : mj_V (d + 1) 175 [.ref a0, .int x1, .int x2] M = mj_Rn d mj_m175 0 [(0, .ref a0), (1, .int x1), (2, .int x2)] [] M := mj_V_go rfl (Nat.le_of_ble_eq_true rfl)
theorem c176 {d : Nat} {a0 : Nat} {x1 : Int32} {x2 : Int32} {M : mj_H} : mj_V (d + 1) 176 [.ref a0, .int x1, .int x2] M = mj_Rn d mj_m176 0 [(0, .ref a0), (1, .int x1), (2, .int x2)] [] M := mj_V_go rfl (Nat.le_of_ble_eq_true rfl)
theorem c177 {d : Nat} {a0 : Nat} {a1 : Nat} {x2 : Int32} {M : mj_H} : mj_V (d + 1) 177 [.ref a0, .ref a1, .int x2] M = mj_Rn d mj_m177 0 [(0, .ref a0), (1, .ref a1), (2, .int x2)] [] M := mj_V_go rfl (Nat.le_of_ble_eq_true rfl)
theorem c178 {d : Nat} {a0 : Nat} {x1 : Int32} {x2 : Int32} {M : mj_H} : mj_V (d + 1) 178 [.ref a0, .int x1, .int x2] M = mj_Rn d mj_m178 0 [(0, .ref a0), (1, .int x1), (2, .int x2)] [] M := mj_V_go rfl (Nat.le_of_ble_eq_true rfl)
theorem c179 {d : Nat} {a0 : Nat} {x1 : Int32} {x2 : Int32} {M : mj_H} : mj_V (d + 1) 179 [.ref a0, .int x1, .int x2] M = mj_Rn d mj_m179 0 [(0, .ref a0), (1, .int x1), (2, .int x2)] [] M := mj_V_go rfl (Nat.le_of_ble_eq_true rfl)
def hdo (a : Nat) (h : Hd) : mj_C := (3, [.ref (a + 1), .ref (a + 3), .int h.2.2.1, .int h.2.2.2.1, .int h.2.2.2.2])
section HZ
variable {M M' : mj_H} {H H' : Ho} {κs πs : List Nat} {row row' : List Int32} {d : Nat} {i : Int32}
theorem hz_begin (z : hz M H κs πs row) (v : Int32) : ∃ M', mj_V (d + 2) 28 [.ref 30, .int v] M = some (none, M') ∧ hz M' H κs πs [v] ∧ hf M M' := by
  obtain ⟨M1, p1, h1, f1⟩ := tx_begin (d := d) z.t v
  exact ⟨M1, p1, z.tb h1 f1⟩
theorem hz_add (z : hz M H κs πs row) (hl : row.length < 410) (v : Int32) : ∃ M', mj_V (d + 1) 29 [.ref 30, .int v] M = some (none, M') ∧ hz M' H κs πs (row ++ [v]) ∧ hf M M' := by
  obtain ⟨M1, p1, h1, f1⟩ := tx_add (d := d) z.t hl v
  exact ⟨M1, p1, z.tb h1 f1⟩
theorem hz_addFour (z : hz M H κs πs row) (hl : row.length + 4 ≤ 410) (v : Int32) : ∃ M', mj_V (d + 2) 122 [.ref 30, .int v] M = some (none, M') ∧ hz M' H κs πs (row ++ b4 v) ∧ hf M M' := by
  obtain ⟨M1, p1, h1, f1⟩ := tx_addFour (d := d) z.t hl v
  rw [b4_4] at h1
  exact ⟨M1, p1, z.tb h1 f1⟩
theorem hz_addBytes {c b cap q n : Nat} {ys : List Int32} (z : hz M H κs πs row) (hy : bb M c b cap ys) (hc : hA κs πs c) (hb : hA κs πs b) (hn : q + n ≤ ys.length) (hl : row.length + n ≤ 410) : ∃ M', mj_V (d + 2) 113 [.ref 30, .ref c, .int (nI q), .int (nI n)] M = some (none, M') ∧ hz M' H κs πs (row ++ (ys.drop q).take n) ∧ hf M M' := by
  obtain ⟨M1, p1, h1, f1⟩ := tx_addBytes (d := d) z.t hy hc hb hn hl
  exact ⟨M1, p1, z.tb h1 f1⟩
theorem hz_made (z : hz M H κs πs row) (h0 : 0 < row.length) (hf : H.2.1.1.length < 1000) : ∃ M', mj_V (d + 4) 30 [.ref 30] M = some (some (.int (nI (tm_no H.2.1 row))), M') ∧ hz M' ((H.1, (tm_mk H.2.1 row, (H.2.2.1, (H.2.2.2.1, H.2.2.2.2)))) : Ho) κs πs row ∧ Jvm.Pilot.CPasskeyHouseLaw_law_r9910_d8a7ca.hf M M' := by
  obtain ⟨M1, p1, h1, f1⟩ := tx_made (d := d) z.t h0 hf
  exact ⟨M1, p1, z.tb h1 f1⟩
theorem hz_newSecret (z : hz M H κs πs row) : ∃ M', mj_V (d + 1) 66 [.ref 30] M = some (some (.int (nI (H.2.1.2.2 + 1))), M') ∧ hz M' ((H.1, (own_T1 H.2.1, (H.2.2.1, (H.2.2.2.1, H.2.2.2.2)))) : Ho) κs πs row ∧ hf M M' := by
  obtain ⟨M1, p1, h1, f1⟩ := tx_newSecret (d := d) z.t
  exact ⟨M1, p1, z.tb h1 f1⟩
theorem hz_fresh (z : hz M H κs πs row) (hl : H.2.1.1.length < 1000) : ∃ M', mj_V (d + 5) 27 [.ref 30] M = some (some (.int (nI (tm_no H.2.1 [1, nI H.2.1.2.1]))), M') ∧ hz M' ((H.1, (tm_fresh H.2.1, (H.2.2.1, (H.2.2.2.1, H.2.2.2.2)))) : Ho) κs πs [1, nI H.2.1.2.1] ∧ hf M M' := by
  obtain ⟨M1, p1, h1, f1⟩ := tx_freshTerm (d := d) z.t hl
  exact ⟨M1, p1, z.tb h1 f1⟩
theorem hz_public (z : hz M H κs πs row) (s : Int32) (hl : H.2.1.1.length < 1000) : ∃ M', mj_V (d + 5) 130 [.ref 30, .int s] M = some (some (.int (nI (tm_no H.2.1 [2, s]))), M') ∧ hz M' ((H.1, (tm_mk H.2.1 [2, s], (H.2.2.1, (H.2.2.2.1, H.2.2.2.2)))) : Ho) κs πs [2, s] ∧ hf M M' := by
  obtain ⟨M1, p1, h1, f1⟩ := tx_publicOf (d := d) z.t s hl
  exact ⟨M1, p1, z.tb h1 f1⟩
theorem hz_agreed (z : hz M H κs πs row) (a b : Int32) : ∃ M', mj_V (d + 3) 147 [.ref 30, .int a, .int b] M = some (none, M') ∧ hz M' H κs πs (tm_agr a b) ∧ hf M M' := by
  obtain ⟨M1, p1, h1, f1⟩ := tx_beginAgreed (d := d) z.t a b
  exact ⟨M1, p1, z.tb h1 f1⟩
/-- a hand's numbers change -/
theorem hz.hset (z : hz M H κs πs row) {j : Nat} {h q : Hd} (hh : H.2.2.2.1[j]? = some h) (h1 : q.1 = h.1) (h2 : q.2.1 = h.2.1) : hz (M.set (46 + 5 * j) (hdo (46 + 5 * j) q)) ((H.1, (H.2.1, (H.2.2.1, (H.2.2.2.1.set j q, H.2.2.2.2)))) : Ho) κs πs row ∧ hf M (M.set (46 + 5 * j) (hdo (46 + 5 * j) q)) := by
  have hj : j < 4 := by have := (List.getElem?_eq_some_iff.mp hh).1; rw [z.hl] at this; exact this
  have zh := z.hd j h hh
  refine z.hand (L := [46 + 5 * j]) hj (by intro c hc; simp at hc; omega) (hdz_mk_ (List.getElem?_set_self (mq_lt zh.ob)) ?_ ?_) (mq_fr.rf.set (by simp)) (mj_gr.set zh.ob rfl rfl)
  · rw [h1]; exact zh.pi.fr (List.getElem?_set_ne (by omega)) (List.getElem?_set_ne (by omega))
  · rw [h2]; exact zh.pg.fr (List.getElem?_set_ne (by omega)) (List.getElem?_set_ne (by omega))
theorem hz.hj (z : hz M H κs πs row) {j : Nat} {h : Hd} (hh : H.2.2.2.1[j]? = some h) : j < 4 := by have := (List.getElem?_eq_some_iff.mp hh).1; rw [z.hl] at this; exact this
theorem set_set_len {j : Nat} {q : Hd} {l : List Hd} (h : j < l.length) : (l.set j q)[j]? = some q := List.getElem?_set_self h
theorem h_newOwn (z : hz M H κs πs row) {j : Nat} {h : Hd} (hh : H.2.2.2.1[j]? = some h) (hl : H.2.1.1.length < 1000) : ∃ M' row', mj_V (d + 6) 169 [.ref 25, .ref (46 + 5 * j)] M = some (some (.int (own_n H.2.1)), M') ∧ hz M' (H.ht j (own_h h H.2.1, own_T H.2.1)) κs πs row' ∧ hf M M' := by
  have x0 := z.ob
  obtain ⟨u0, t0⟩ := z.o30
  have hj := z.hj hh
  obtain ⟨M1, p1, z1, g1⟩ := hz_newSecret (d := d + 4) z
  have y1 := (z1.hd j h hh).ob
  obtain ⟨z2, g2⟩ := z1.hset (q := own_h h H.2.1) hh rfl rfl
  have x2 := z2.ob
  obtain ⟨u2, t2⟩ := z2.o30
  obtain ⟨M3, p3, z3, g3⟩ := hz_public (d := d) z2 (nI (H.2.1.2.2 + 1)) hl
  refine ⟨M3, _, ?_, z3, (g1.tr g2).tr g3⟩
  have l1 := mq_lt y1
  have hh5 : ¬ 46 + 5 * j < 25 := by omega
  unfold hdo own_h at x2 t2 p3
  dsimp only at x2 t2 p3
  simp (disch := (first | omega | decide)) [c169, s169_0, s169_1, s169_2, s169_5, s169_8, s169_11, s169_12, s169_13, s169_16, s169_17, s169_18, s169_21, s169_22, s169_25, s169_26, s169_29, s169_32, mq_k0s, mq_k1s, mq_k2s, mq_k4s, mq_k5s, mq_k5n, mq_k5as, mq_k6s, mj_pu, mj_lo, mj_br, mj_hr, mj_hw, mq_gf, mq_len, mq_al, mq_pf, mq_ok, mj_re, mq_lkm, mq_lkn, mj_ldi, mj_ldl, mj_lda, mj_ii, mj_ll, mj_li, mj_i1, ms_1, ms_2, f1_n, f1_i, f1_r, f1_u, f1_l, f2_n, f2_i, f2_r, f2_u, f2_l, mj_tg, mj_c1, mj_c2, mj_ar, mj_aw, mq_cb, mq_oi, mj_rm, Value.category, -getElem?_pos, List.getElem?_cons_zero, decide_eq_true, decide_eq_false, nl_lt, nl_le, ln_lt, ln_le, nl_eq, ln_eq, nl_add, ln_add, nl_sub, ln_mul, nI_sub, nI_mul, nI_add, nI_lt_iff, nI_le_iff, nI_inj, nI_num, mq_ix, nI_1, nl_mul, nl_div, x0, t0, p1, y1, narrow, mj_E, hh5, l1, List.getElem?_set, x2, t2, p3]
  rfl
theorem h_own (z : hz M H κs πs row) (hl : H.2.1.1.length < 1000) : ∃ M' row', mj_V (d + 7) 167 [.ref 25, .int i] M = some (some (.int (ho_own H i).1), M') ∧ hz M' (ho_own H i).2 κs πs row' ∧ hf M M' := by
  have x0 := z.ob
  unfold ho_own
  cases hix : ix i 4 with
  | none =>
    have v0 := h_hanN (d := d + 5) z hix
    refine ⟨M, row, ?_, z, hf.rf⟩
    simp (disch := (first | omega | decide)) [c167, s167_0, s167_1, s167_2, s167_5, s167_6, s167_7, s167_10, s167_11, s167_14, s167_15, s167_16, s167_19, mq_k0s, mq_k1s, mq_k2s, mq_k4s, mq_k5s, mq_k5n, mq_k5as, mq_k6s, mj_pu, mj_lo, mj_br, mj_hr, mj_hw, mq_gf, mq_len, mq_al, mq_pf, mq_ok, mj_re, mq_lkm, mq_lkn, mj_ldi, mj_ldl, mj_lda, mj_ii, mj_ll, mj_li, mj_i1, ms_1, ms_2, f1_n, f1_i, f1_r, f1_u, f1_l, f2_n, f2_i, f2_r, f2_u, f2_l, mj_tg, mj_c1, mj_c2, mj_ar, mj_aw, mq_cb, mq_oi, mj_rm, Value.category, -getElem?_pos, List.getElem?_cons_zero, decide_eq_true, decide_eq_false, nl_lt, nl_le, ln_lt, ln_le, nl_eq, ln_eq, nl_add, ln_add, nl_sub, ln_mul, nI_sub, nI_mul, nI_add, nI_lt_iff, nI_le_iff, nI_inj, nI_num, mq_ix, nI_1, nl_mul, nl_div, x0, v0, narrow]
  | some j =>
    obtain ⟨rfl, hj, -⟩ := ix_some hix
    have hh := List.getElem?_eq_getElem (show j < H.2.2.2.1.length by rw [z.hl]; exact hj)
    have v0 := h_hanS (d := d + 5) z hj
    obtain ⟨M1, row1, p1, z1, g1⟩ := h_newOwn (d := d) z hh hl
    dsimp only
    rw [hh]
    refine ⟨M1, row1, ?_, z1, g1⟩
    simp (disch := (first | omega | decide)) [c167, s167_0, s167_1, s167_2, s167_5, s167_6, s167_7, s167_10, s167_11, s167_14, s167_15, s167_16, s167_19, mq_k0s, mq_k1s, mq_k2s, mq_k4s, mq_k5s, mq_k5n, mq_k5as, mq_k6s, mj_pu, mj_lo, mj_br, mj_hr, mj_hw, mq_gf, mq_len, mq_al, mq_pf, mq_ok, mj_re, mq_lkm, mq_lkn, mj_ldi, mj_ldl, mj_lda, mj_ii, mj_ll, mj_li, mj_i1, ms_1, ms_2, f1_n, f1_i, f1_r, f1_u, f1_l, f2_n, f2_i, f2_r, f2_u, f2_l, mj_tg, mj_c1, mj_c2, mj_ar, mj_aw, mq_cb, mq_oi, mj_rm, Value.category, -getElem?_pos, List.getElem?_cons_zero, decide_eq_true, decide_eq_false, nl_lt, nl_le, ln_lt, ln_le, nl_eq, ln_eq, nl_add, ln_add, nl_sub, ln_mul, nI_sub, nI_mul, nI_add, nI_lt_iff, nI_le_iff, nI_inj, nI_num, mq_ix, nI_1, nl_mul, nl_div, x0, v0, p1, narrow]
theorem h_agreeW (z : hz M H κs πs row) {j : Nat} {h : Hd} (hh : H.2.2.2.1[j]? = some h) (other : Int32) (hl : H.2.1.1.length < 1000) : ∃ M' row', mj_V (d + 5) 171 [.ref 25, .ref (46 + 5 * j), .int other] M = some (none, M') ∧ hz M' (H.ht j (agr_h h H.2.1 other, agr_T h H.2.1 other)) κs πs row' ∧ hf M M' := by
  have x0 := z.ob
  obtain ⟨u0, t0⟩ := z.o30
  have hj := z.hj hh
  have y0 := (z.hd j h hh).ob
  obtain ⟨M1, p1, z1, g1⟩ := hz_agreed (d := d + 1) z h.2.2.1 other
  have x1 := z1.ob
  obtain ⟨u1, t1⟩ := z1.o30
  obtain ⟨M2, p2, z2, g2⟩ := hz_made (d := d) z1 (by simp [tm_agr]) hl
  have y2 := (z2.hd j h hh).ob
  obtain ⟨z3, g3⟩ := z2.hset (q := agr_h h H.2.1 other) hh rfl rfl
  refine ⟨_, _, ?_, z3, (g1.tr g2).tr g3⟩
  have l2 := mq_lt y2
  have hh5 : ¬ 46 + 5 * j < 25 := by omega
  simp (disch := (first | omega | decide)) [c171, s171_0, s171_1, s171_4, s171_5, s171_8, s171_9, s171_12, s171_13, s171_14, s171_17, s171_20, s171_23, mq_k0s, mq_k1s, mq_k2s, mq_k4s, mq_k5s, mq_k5n, mq_k5as, mq_k6s, mj_pu, mj_lo, mj_br, mj_hr, mj_hw, mq_gf, mq_len, mq_al, mq_pf, mq_ok, mj_re, mq_lkm, mq_lkn, mj_ldi, mj_ldl, mj_lda, mj_ii, mj_ll, mj_li, mj_i1, ms_1, ms_2, f1_n, f1_i, f1_r, f1_u, f1_l, f2_n, f2_i, f2_r, f2_u, f2_l, mj_tg, mj_c1, mj_c2, mj_ar, mj_aw, mq_cb, mq_oi, mj_rm, Value.category, -getElem?_pos, List.getElem?_cons_zero, decide_eq_true, decide_eq_false, nl_lt, nl_le, ln_lt, ln_le, nl_eq, ln_eq, nl_add, ln_add, nl_sub, ln_mul, nI_sub, nI_mul, nI_add, nI_lt_iff, nI_le_iff, nI_inj, nI_num, mq_ix, nI_1, nl_mul, nl_div, x0, t0, y0, p1, x1, t1, p2, y2, narrow, mj_E, hh5, l2, hdo, agr_h]
theorem h_agree (z : hz M H κs πs row) (t : Int32) (hl : H.2.1.1.length < 1000) : ∃ M' row', mj_V (d + 6) 170 [.ref 25, .int i, .int t] M = some (some (.int (ho_agree H i t).1), M') ∧ hz M' (ho_agree H i t).2 κs πs row' ∧ hf M M' := by
  have x0 := z.ob
  obtain ⟨u0, t0⟩ := z.o30
  have w0 := tx_secretOf (d := d + 2) z.t t
  unfold ho_agree
  cases hix : ix i 4 with
  | none =>
    have v0 := h_hanN (d := d + 4) z hix
    refine ⟨M, row, ?_, z, hf.rf⟩
    simp (disch := (first | omega | decide)) [c170, s170_0, s170_1, s170_2, s170_5, s170_6, s170_7, s170_10, s170_11, s170_14, s170_16, s170_17, s170_20, s170_21, s170_24, s170_27, s170_29, s170_32, s170_33, s170_34, s170_35, s170_36, s170_38, s170_41, s170_42, mq_k0s, mq_k1s, mq_k2s, mq_k4s, mq_k5s, mq_k5n, mq_k5as, mq_k6s, mj_pu, mj_lo, mj_br, mj_hr, mj_hw, mq_gf, mq_len, mq_al, mq_pf, mq_ok, mj_re, mq_lkm, mq_lkn, mj_ldi, mj_ldl, mj_lda, mj_ii, mj_ll, mj_li, mj_i1, ms_1, ms_2, f1_n, f1_i, f1_r, f1_u, f1_l, f2_n, f2_i, f2_r, f2_u, f2_l, mj_tg, mj_c1, mj_c2, mj_ar, mj_aw, mq_cb, mq_oi, mj_rm, Value.category, -getElem?_pos, List.getElem?_cons_zero, decide_eq_true, decide_eq_false, nl_lt, nl_le, ln_lt, ln_le, nl_eq, ln_eq, nl_add, ln_add, nl_sub, ln_mul, nI_sub, nI_mul, nI_add, nI_lt_iff, nI_le_iff, nI_inj, nI_num, mq_ix, nI_1, nl_mul, nl_div, x0, v0, t0, w0, narrow_b0]
  | some j =>
    obtain ⟨rfl, hj, -⟩ := ix_some hix
    have hh := List.getElem?_eq_getElem (show j < H.2.2.2.1.length by rw [z.hl]; exact hj)
    have v0 := h_hanS (d := d + 4) z hj
    have y0 := (z.hd j _ hh).ob
    dsimp only
    rw [hh]
    dsimp only
    by_cases h1 : (H.2.2.2.1[j]'(by rw [z.hl]; exact hj)).2.2.1 = 0
    · rw [if_pos (Or.inl h1)]
      refine ⟨M, row, ?_, z, hf.rf⟩
      simp (disch := (first | omega | decide)) [c170, s170_0, s170_1, s170_2, s170_5, s170_6, s170_7, s170_10, s170_11, s170_14, s170_16, s170_17, s170_20, s170_21, s170_24, s170_27, s170_29, s170_32, s170_33, s170_34, s170_35, s170_36, s170_38, s170_41, s170_42, mq_k0s, mq_k1s, mq_k2s, mq_k4s, mq_k5s, mq_k5n, mq_k5as, mq_k6s, mj_pu, mj_lo, mj_br, mj_hr, mj_hw, mq_gf, mq_len, mq_al, mq_pf, mq_ok, mj_re, mq_lkm, mq_lkn, mj_ldi, mj_ldl, mj_lda, mj_ii, mj_ll, mj_li, mj_i1, ms_1, ms_2, f1_n, f1_i, f1_r, f1_u, f1_l, f2_n, f2_i, f2_r, f2_u, f2_l, mj_tg, mj_c1, mj_c2, mj_ar, mj_aw, mq_cb, mq_oi, mj_rm, Value.category, -getElem?_pos, List.getElem?_cons_zero, decide_eq_true, decide_eq_false, nl_lt, nl_le, ln_lt, ln_le, nl_eq, ln_eq, nl_add, ln_add, nl_sub, ln_mul, nI_sub, nI_mul, nI_add, nI_lt_iff, nI_le_iff, nI_inj, nI_num, mq_ix, nI_1, nl_mul, nl_div, x0, v0, t0, w0, y0, h1, narrow_b0]
    by_cases h2 : tm_sec H.2.1.1 t = 0
    · rw [if_pos (Or.inr h2)]
      refine ⟨M, row, ?_, z, hf.rf⟩
      simp (disch := (first | omega | decide)) [c170, s170_0, s170_1, s170_2, s170_5, s170_6, s170_7, s170_10, s170_11, s170_14, s170_16, s170_17, s170_20, s170_21, s170_24, s170_27, s170_29, s170_32, s170_33, s170_34, s170_35, s170_36, s170_38, s170_41, s170_42, mq_k0s, mq_k1s, mq_k2s, mq_k4s, mq_k5s, mq_k5n, mq_k5as, mq_k6s, mj_pu, mj_lo, mj_br, mj_hr, mj_hw, mq_gf, mq_len, mq_al, mq_pf, mq_ok, mj_re, mq_lkm, mq_lkn, mj_ldi, mj_ldl, mj_lda, mj_ii, mj_ll, mj_li, mj_i1, ms_1, ms_2, f1_n, f1_i, f1_r, f1_u, f1_l, f2_n, f2_i, f2_r, f2_u, f2_l, mj_tg, mj_c1, mj_c2, mj_ar, mj_aw, mq_cb, mq_oi, mj_rm, Value.category, -getElem?_pos, List.getElem?_cons_zero, decide_eq_true, decide_eq_false, nl_lt, nl_le, ln_lt, ln_le, nl_eq, ln_eq, nl_add, ln_add, nl_sub, ln_mul, nI_sub, nI_mul, nI_add, nI_lt_iff, nI_le_iff, nI_inj, nI_num, mq_ix, nI_1, nl_mul, nl_div, x0, v0, t0, w0, y0, h1, h2, narrow_b0]
    rw [if_neg (by simp [h1, h2])]
    obtain ⟨M1, row1, p1, z1, g1⟩ := h_agreeW (d := d) z hh (tm_sec H.2.1.1 t) hl
    refine ⟨M1, row1, ?_, z1, g1⟩
    simp (disch := (first | omega | decide)) [c170, s170_0, s170_1, s170_2, s170_5, s170_6, s170_7, s170_10, s170_11, s170_14, s170_16, s170_17, s170_20, s170_21, s170_24, s170_27, s170_29, s170_32, s170_33, s170_34, s170_35, s170_36, s170_38, s170_41, s170_42, mq_k0s, mq_k1s, mq_k2s, mq_k4s, mq_k5s, mq_k5n, mq_k5as, mq_k6s, mj_pu, mj_lo, mj_br, mj_hr, mj_hw, mq_gf, mq_len, mq_al, mq_pf, mq_ok, mj_re, mq_lkm, mq_lkn, mj_ldi, mj_ldl, mj_lda, mj_ii, mj_ll, mj_li, mj_i1, ms_1, ms_2, f1_n, f1_i, f1_r, f1_u, f1_l, f2_n, f2_i, f2_r, f2_u, f2_l, mj_tg, mj_c1, mj_c2, mj_ar, mj_aw, mq_cb, mq_oi, mj_rm, Value.category, -getElem?_pos, List.getElem?_cons_zero, decide_eq_true, decide_eq_false, nl_lt, nl_le, ln_lt, ln_le, nl_eq, ln_eq, nl_add, ln_add, nl_sub, ln_mul, nI_sub, nI_mul, nI_add, nI_lt_iff, nI_le_iff, nI_inj, nI_num, mq_ix, nI_1, nl_mul, nl_div, x0, v0, t0, w0, y0, h1, h2, p1, narrow_b1]
theorem j_seal {a : Nat} {h : Hd} (ho : M[a]? = some (hdo a h)) (w : Int32) : mj_V (d + 1) 173 [.ref a, .int w] M = some (some (.int (sl_with h w)), M) := by
  unfold hdo at ho
  unfold sl_with
  by_cases h1 : w = 1
  · subst h1; simp (disch := (first | omega | decide)) [c173, s173_0, s173_1, s173_32, s173_33, s173_36, s173_37, s173_38, s173_41, s173_42, s173_43, s173_46, s173_47, s173_48, mq_k0s, mq_k1s, mq_k2s, mq_k4s, mq_k5s, mq_k5n, mq_k5as, mq_k6s, mj_pu, mj_lo, mj_br, mj_hr, mj_hw, mq_gf, mq_len, mq_al, mq_pf, mq_ok, mj_re, mq_lkm, mq_lkn, mj_ldi, mj_ldl, mj_lda, mj_ii, mj_ll, mj_li, mj_i1, ms_1, ms_2, f1_n, f1_i, f1_r, f1_u, f1_l, f2_n, f2_i, f2_r, f2_u, f2_l, mj_tg, mj_c1, mj_c2, mj_ar, mj_aw, mq_cb, mq_oi, mj_rm, Value.category, -getElem?_pos, List.getElem?_cons_zero, decide_eq_true, decide_eq_false, nl_lt, nl_le, ln_lt, ln_le, nl_eq, ln_eq, nl_add, ln_add, nl_sub, ln_mul, nI_sub, nI_mul, nI_add, nI_lt_iff, nI_le_iff, nI_inj, nI_num, mq_ix, nI_1, nl_mul, nl_div, ho, narrow]
  by_cases h2 : w = 2
  · subst h2; simp (disch := (first | omega | decide)) [c173, s173_0, s173_1, s173_32, s173_33, s173_36, s173_37, s173_38, s173_41, s173_42, s173_43, s173_46, s173_47, s173_48, mq_k0s, mq_k1s, mq_k2s, mq_k4s, mq_k5s, mq_k5n, mq_k5as, mq_k6s, mj_pu, mj_lo, mj_br, mj_hr, mj_hw, mq_gf, mq_len, mq_al, mq_pf, mq_ok, mj_re, mq_lkm, mq_lkn, mj_ldi, mj_ldl, mj_lda, mj_ii, mj_ll, mj_li, mj_i1, ms_1, ms_2, f1_n, f1_i, f1_r, f1_u, f1_l, f2_n, f2_i, f2_r, f2_u, f2_l, mj_tg, mj_c1, mj_c2, mj_ar, mj_aw, mq_cb, mq_oi, mj_rm, Value.category, -getElem?_pos, List.getElem?_cons_zero, decide_eq_true, decide_eq_false, nl_lt, nl_le, ln_lt, ln_le, nl_eq, ln_eq, nl_add, ln_add, nl_sub, ln_mul, nI_sub, nI_mul, nI_add, nI_lt_iff, nI_le_iff, nI_inj, nI_num, mq_ix, nI_1, nl_mul, nl_div, ho, narrow]
  by_cases h3 : w = 3
  · subst h3; simp (disch := (first | omega | decide)) [c173, s173_0, s173_1, s173_32, s173_33, s173_36, s173_37, s173_38, s173_41, s173_42, s173_43, s173_46, s173_47, s173_48, mq_k0s, mq_k1s, mq_k2s, mq_k4s, mq_k5s, mq_k5n, mq_k5as, mq_k6s, mj_pu, mj_lo, mj_br, mj_hr, mj_hw, mq_gf, mq_len, mq_al, mq_pf, mq_ok, mj_re, mq_lkm, mq_lkn, mj_ldi, mj_ldl, mj_lda, mj_ii, mj_ll, mj_li, mj_i1, ms_1, ms_2, f1_n, f1_i, f1_r, f1_u, f1_l, f2_n, f2_i, f2_r, f2_u, f2_l, mj_tg, mj_c1, mj_c2, mj_ar, mj_aw, mq_cb, mq_oi, mj_rm, Value.category, -getElem?_pos, List.getElem?_cons_zero, decide_eq_true, decide_eq_false, nl_lt, nl_le, ln_lt, ln_le, nl_eq, ln_eq, nl_add, ln_add, nl_sub, ln_mul, nI_sub, nI_mul, nI_add, nI_lt_iff, nI_le_iff, nI_inj, nI_num, mq_ix, nI_1, nl_mul, nl_div, ho, narrow]
  by_cases h4 : w = 4
  · subst h4; simp (disch := (first | omega | decide)) [c173, s173_0, s173_1, s173_32, s173_33, s173_36, s173_37, s173_38, s173_41, s173_42, s173_43, s173_46, s173_47, s173_48, mq_k0s, mq_k1s, mq_k2s, mq_k4s, mq_k5s, mq_k5n, mq_k5as, mq_k6s, mj_pu, mj_lo, mj_br, mj_hr, mj_hw, mq_gf, mq_len, mq_al, mq_pf, mq_ok, mj_re, mq_lkm, mq_lkn, mj_ldi, mj_ldl, mj_lda, mj_ii, mj_ll, mj_li, mj_i1, ms_1, ms_2, f1_n, f1_i, f1_r, f1_u, f1_l, f2_n, f2_i, f2_r, f2_u, f2_l, mj_tg, mj_c1, mj_c2, mj_ar, mj_aw, mq_cb, mq_oi, mj_rm, Value.category, -getElem?_pos, List.getElem?_cons_zero, decide_eq_true, decide_eq_false, nl_lt, nl_le, ln_lt, ln_le, nl_eq, ln_eq, nl_add, ln_add, nl_sub, ln_mul, nI_sub, nI_mul, nI_add, nI_lt_iff, nI_le_iff, nI_inj, nI_num, mq_ix, nI_1, nl_mul, nl_div, ho, narrow]
  have hw : w.toInt < 1 ∨ 4 < w.toInt := by
    have g1 := ne_toInt h1
    have g2 := ne_toInt h2
    have g3 := ne_toInt h3
    have g4 := ne_toInt h4
    simp at g1 g2 g3 g4
    omega
  simp (disch := (first | omega | decide)) [c173, s173_0, s173_1, s173_32, s173_33, s173_36, s173_37, s173_38, s173_41, s173_42, s173_43, s173_46, s173_47, s173_48, mq_k0s, mq_k1s, mq_k2s, mq_k4s, mq_k5s, mq_k5n, mq_k5as, mq_k6s, mj_pu, mj_lo, mj_br, mj_hr, mj_hw, mq_gf, mq_len, mq_al, mq_pf, mq_ok, mj_re, mq_lkm, mq_lkn, mj_ldi, mj_ldl, mj_lda, mj_ii, mj_ll, mj_li, mj_i1, ms_1, ms_2, f1_n, f1_i, f1_r, f1_u, f1_l, f2_n, f2_i, f2_r, f2_u, f2_l, mj_tg, mj_c1, mj_c2, mj_ar, mj_aw, mq_cb, mq_oi, mj_rm, Value.category, -getElem?_pos, List.getElem?_cons_zero, decide_eq_true, decide_eq_false, nl_lt, nl_le, ln_lt, ln_le, nl_eq, ln_eq, nl_add, ln_add, nl_sub, ln_mul, nI_sub, nI_mul, nI_add, nI_lt_iff, nI_le_iff, nI_inj, nI_num, mq_ix, nI_1, nl_mul, nl_div, ho, h1, h2, h3, h4, hw, narrow]
def sl_sort (w : Nat) : Int32 := if w = 1 then 4 else if w = 2 then 5 else if w = 3 then 10 else if w = 4 then 6 else 7
theorem j_sort {a : Nat} {w : Nat} (hw : w ≤ 4) : mj_V (d + 1) 174 [.ref a, .int (nI w)] M = some (some (.int (sl_sort w)), M) := by
  unfold sl_sort
  rcases (show w = 0 ∨ w = 1 ∨ w = 2 ∨ w = 3 ∨ w = 4 by omega) with rfl | rfl | rfl | rfl | rfl
  · rw [nI_0]; simp (disch := (first | omega | decide)) [c174, s174_0, s174_1, s174_32, s174_33, s174_34, s174_35, s174_36, s174_38, s174_39, s174_41, s174_42, s174_44, mq_k0s, mq_k1s, mq_k2s, mq_k4s, mq_k5s, mq_k5n, mq_k5as, mq_k6s, mj_pu, mj_lo, mj_br, mj_hr, mj_hw, mq_gf, mq_len, mq_al, mq_pf, mq_ok, mj_re, mq_lkm, mq_lkn, mj_ldi, mj_ldl, mj_lda, mj_ii, mj_ll, mj_li, mj_i1, ms_1, ms_2, f1_n, f1_i, f1_r, f1_u, f1_l, f2_n, f2_i, f2_r, f2_u, f2_l, mj_tg, mj_c1, mj_c2, mj_ar, mj_aw, mq_cb, mq_oi, mj_rm, Value.category, -getElem?_pos, List.getElem?_cons_zero, decide_eq_true, decide_eq_false, nl_lt, nl_le, ln_lt, ln_le, nl_eq, ln_eq, nl_add, ln_add, nl_sub, ln_mul, nI_sub, nI_mul, nI_add, nI_lt_iff, nI_le_iff, nI_inj, nI_num, mq_ix, nI_1, nl_mul, nl_div, narrow]
  · rw [show nI 1 = (1 : Int32) from rfl]; simp (disch := (first | omega | decide)) [c174, s174_0, s174_1, s174_32, s174_33, s174_34, s174_35, s174_36, s174_38, s174_39, s174_41, s174_42, s174_44, mq_k0s, mq_k1s, mq_k2s, mq_k4s, mq_k5s, mq_k5n, mq_k5as, mq_k6s, mj_pu, mj_lo, mj_br, mj_hr, mj_hw, mq_gf, mq_len, mq_al, mq_pf, mq_ok, mj_re, mq_lkm, mq_lkn, mj_ldi, mj_ldl, mj_lda, mj_ii, mj_ll, mj_li, mj_i1, ms_1, ms_2, f1_n, f1_i, f1_r, f1_u, f1_l, f2_n, f2_i, f2_r, f2_u, f2_l, mj_tg, mj_c1, mj_c2, mj_ar, mj_aw, mq_cb, mq_oi, mj_rm, Value.category, -getElem?_pos, List.getElem?_cons_zero, decide_eq_true, decide_eq_false, nl_lt, nl_le, ln_lt, ln_le, nl_eq, ln_eq, nl_add, ln_add, nl_sub, ln_mul, nI_sub, nI_mul, nI_add, nI_lt_iff, nI_le_iff, nI_inj, nI_num, mq_ix, nI_1, nl_mul, nl_div, narrow]
  · rw [show nI 2 = (2 : Int32) from rfl]; simp (disch := (first | omega | decide)) [c174, s174_0, s174_1, s174_32, s174_33, s174_34, s174_35, s174_36, s174_38, s174_39, s174_41, s174_42, s174_44, mq_k0s, mq_k1s, mq_k2s, mq_k4s, mq_k5s, mq_k5n, mq_k5as, mq_k6s, mj_pu, mj_lo, mj_br, mj_hr, mj_hw, mq_gf, mq_len, mq_al, mq_pf, mq_ok, mj_re, mq_lkm, mq_lkn, mj_ldi, mj_ldl, mj_lda, mj_ii, mj_ll, mj_li, mj_i1, ms_1, ms_2, f1_n, f1_i, f1_r, f1_u, f1_l, f2_n, f2_i, f2_r, f2_u, f2_l, mj_tg, mj_c1, mj_c2, mj_ar, mj_aw, mq_cb, mq_oi, mj_rm, Value.category, -getElem?_pos, List.getElem?_cons_zero, decide_eq_true, decide_eq_false, nl_lt, nl_le, ln_lt, ln_le, nl_eq, ln_eq, nl_add, ln_add, nl_sub, ln_mul, nI_sub, nI_mul, nI_add, nI_lt_iff, nI_le_iff, nI_inj, nI_num, mq_ix, nI_1, nl_mul, nl_div, narrow]
  · rw [show nI 3 = (3 : Int32) from rfl]; simp (disch := (first | omega | decide)) [c174, s174_0, s174_1, s174_32, s174_33, s174_34, s174_35, s174_36, s174_38, s174_39, s174_41, s174_42, s174_44, mq_k0s, mq_k1s, mq_k2s, mq_k4s, mq_k5s, mq_k5n, mq_k5as, mq_k6s, mj_pu, mj_lo, mj_br, mj_hr, mj_hw, mq_gf, mq_len, mq_al, mq_pf, mq_ok, mj_re, mq_lkm, mq_lkn, mj_ldi, mj_ldl, mj_lda, mj_ii, mj_ll, mj_li, mj_i1, ms_1, ms_2, f1_n, f1_i, f1_r, f1_u, f1_l, f2_n, f2_i, f2_r, f2_u, f2_l, mj_tg, mj_c1, mj_c2, mj_ar, mj_aw, mq_cb, mq_oi, mj_rm, Value.category, -getElem?_pos, List.getElem?_cons_zero, decide_eq_true, decide_eq_false, nl_lt, nl_le, ln_lt, ln_le, nl_eq, ln_eq, nl_add, ln_add, nl_sub, ln_mul, nI_sub, nI_mul, nI_add, nI_lt_iff, nI_le_iff, nI_inj, nI_num, mq_ix, nI_1, nl_mul, nl_div, narrow]
  · rw [show nI 4 = (4 : Int32) from rfl]; simp (disch := (first | omega | decide)) [c174, s174_0, s174_1, s174_32, s174_33, s174_34, s174_35, s174_36, s174_38, s174_39, s174_41, s174_42, s174_44, mq_k0s, mq_k1s, mq_k2s, mq_k4s, mq_k5s, mq_k5n, mq_k5as, mq_k6s, mj_pu, mj_lo, mj_br, mj_hr, mj_hw, mq_gf, mq_len, mq_al, mq_pf, mq_ok, mj_re, mq_lkm, mq_lkn, mj_ldi, mj_ldl, mj_lda, mj_ii, mj_ll, mj_li, mj_i1, ms_1, ms_2, f1_n, f1_i, f1_r, f1_u, f1_l, f2_n, f2_i, f2_r, f2_u, f2_l, mj_tg, mj_c1, mj_c2, mj_ar, mj_aw, mq_cb, mq_oi, mj_rm, Value.category, -getElem?_pos, List.getElem?_cons_zero, decide_eq_true, decide_eq_false, nl_lt, nl_le, ln_lt, ln_le, nl_eq, ln_eq, nl_add, ln_add, nl_sub, ln_mul, nI_sub, nI_mul, nI_add, nI_lt_iff, nI_le_iff, nI_inj, nI_num, mq_ix, nI_1, nl_mul, nl_div, narrow]
theorem h_seal (z : hz M H κs πs row) (w n : Int32) (hl : H.2.1.1.length < 1000) : ∃ M' row', mj_V (d + 5) 172 [.ref 25, .int i, .int w, .int n] M = some (some (.int (ho_seal H i w n).1), M') ∧ hz M' (ho_seal H i w n).2 κs πs row' ∧ hf M M' := by
  have x0 := z.ob
  obtain ⟨u0, t0⟩ := z.o30
  have hcap := z.tp.len
  obtain ⟨w0, hm⟩ := h_tp (d := d + 2) z n
  have w1 := j_in (d := d + 3) (v := w) (a := 0) (b := 4) (M := M)
  unfold ho_seal
  cases hix : ix i 4 with
  | none =>
    have v0 := h_hanN (d := d + 3) z hix
    refine ⟨M, row, ?_, z, hf.rf⟩
    simp (disch := (first | omega | decide)) [c172, s172_0, s172_1, s172_2, s172_5, s172_7, s172_8, s172_9, s172_12, s172_14, s172_16, s172_19, s172_21, s172_22, s172_25, s172_26, s172_27, s172_28, s172_31, s172_34, s172_35, s172_38, s172_40, s172_41, s172_44, s172_47, s172_48, s172_49, s172_50, s172_53, s172_55, s172_56, s172_59, s172_62, s172_63, s172_66, s172_67, s172_70, s172_72, s172_73, s172_76, s172_79, s172_80, s172_83, s172_84, s172_87, s172_88, s172_90, s172_93, s172_94, s172_97, s172_100, mq_k0s, mq_k1s, mq_k2s, mq_k4s, mq_k5s, mq_k5n, mq_k5as, mq_k6s, mj_pu, mj_lo, mj_br, mj_hr, mj_hw, mq_gf, mq_len, mq_al, mq_pf, mq_ok, mj_re, mq_lkm, mq_lkn, mj_ldi, mj_ldl, mj_lda, mj_ii, mj_ll, mj_li, mj_i1, ms_1, ms_2, f1_n, f1_i, f1_r, f1_u, f1_l, f2_n, f2_i, f2_r, f2_u, f2_l, mj_tg, mj_c1, mj_c2, mj_ar, mj_aw, mq_cb, mq_oi, mj_rm, Value.category, -getElem?_pos, List.getElem?_cons_zero, decide_eq_true, decide_eq_false, nl_lt, nl_le, ln_lt, ln_le, nl_eq, ln_eq, nl_add, ln_add, nl_sub, ln_mul, nI_sub, nI_mul, nI_add, nI_lt_iff, nI_le_iff, nI_inj, nI_num, mq_ix, nI_1, nl_mul, nl_div, x0, v0, w0, narrow]
  | some j =>
    obtain ⟨rfl, hj, -⟩ := ix_some hix
    have hh := List.getElem?_eq_getElem (show j < H.2.2.2.1.length by rw [z.hl]; exact hj)
    have v0 := h_hanS (d := d + 3) z hj
    have y0 := (z.hd j _ hh).ob
    generalize H.2.2.2.1[j]'(by rw [z.hl]; exact hj) = h at *
    cases htp : tp H n with
    | none =>
      rw [htp] at w0
      refine ⟨M, row, ?_, z, hf.rf⟩
      simp (disch := (first | omega | decide)) [c172, s172_0, s172_1, s172_2, s172_5, s172_7, s172_8, s172_9, s172_12, s172_14, s172_16, s172_19, s172_21, s172_22, s172_25, s172_26, s172_27, s172_28, s172_31, s172_34, s172_35, s172_38, s172_40, s172_41, s172_44, s172_47, s172_48, s172_49, s172_50, s172_53, s172_55, s172_56, s172_59, s172_62, s172_63, s172_66, s172_67, s172_70, s172_72, s172_73, s172_76, s172_79, s172_80, s172_83, s172_84, s172_87, s172_88, s172_90, s172_93, s172_94, s172_97, s172_100, mq_k0s, mq_k1s, mq_k2s, mq_k4s, mq_k5s, mq_k5n, mq_k5as, mq_k6s, mj_pu, mj_lo, mj_br, mj_hr, mj_hw, mq_gf, mq_len, mq_al, mq_pf, mq_ok, mj_re, mq_lkm, mq_lkn, mj_ldi, mj_ldl, mj_lda, mj_ii, mj_ll, mj_li, mj_i1, ms_1, ms_2, f1_n, f1_i, f1_r, f1_u, f1_l, f2_n, f2_i, f2_r, f2_u, f2_l, mj_tg, mj_c1, mj_c2, mj_ar, mj_aw, mq_cb, mq_oi, mj_rm, Value.category, -getElem?_pos, List.getElem?_cons_zero, decide_eq_true, decide_eq_false, nl_lt, nl_le, ln_lt, ln_le, nl_eq, ln_eq, nl_add, ln_add, nl_sub, ln_mul, nI_sub, nI_mul, nI_add, nI_lt_iff, nI_le_iff, nI_inj, nI_num, mq_ix, nI_1, nl_mul, nl_div, x0, v0, w0, narrow]
    | some m =>
      rw [htp] at w0
      have hm := hm m htp
      dsimp only
      rw [hh]
      dsimp only
      cases hin : inR w 0 4 with
      | false =>
        rw [hin] at w1
        refine ⟨M, row, ?_, by simpa using z, hf.rf⟩
        simp (disch := (first | omega | decide)) [c172, s172_0, s172_1, s172_2, s172_5, s172_7, s172_8, s172_9, s172_12, s172_14, s172_16, s172_19, s172_21, s172_22, s172_25, s172_26, s172_27, s172_28, s172_31, s172_34, s172_35, s172_38, s172_40, s172_41, s172_44, s172_47, s172_48, s172_49, s172_50, s172_53, s172_55, s172_56, s172_59, s172_62, s172_63, s172_66, s172_67, s172_70, s172_72, s172_73, s172_76, s172_79, s172_80, s172_83, s172_84, s172_87, s172_88, s172_90, s172_93, s172_94, s172_97, s172_100, mq_k0s, mq_k1s, mq_k2s, mq_k4s, mq_k5s, mq_k5n, mq_k5as, mq_k6s, mj_pu, mj_lo, mj_br, mj_hr, mj_hw, mq_gf, mq_len, mq_al, mq_pf, mq_ok, mj_re, mq_lkm, mq_lkn, mj_ldi, mj_ldl, mj_lda, mj_ii, mj_ll, mj_li, mj_i1, ms_1, ms_2, f1_n, f1_i, f1_r, f1_u, f1_l, f2_n, f2_i, f2_r, f2_u, f2_l, mj_tg, mj_c1, mj_c2, mj_ar, mj_aw, mq_cb, mq_oi, mj_rm, Value.category, -getElem?_pos, List.getElem?_cons_zero, decide_eq_true, decide_eq_false, nl_lt, nl_le, ln_lt, ln_le, nl_eq, ln_eq, nl_add, ln_add, nl_sub, ln_mul, nI_sub, nI_mul, nI_add, nI_lt_iff, nI_le_iff, nI_inj, nI_num, mq_ix, nI_1, nl_mul, nl_div, x0, v0, w0, nI_m1, w1, on1, narrow]
      | true =>
        rw [hin] at w1
        obtain ⟨wn, rfl, -, hw4, -⟩ := inR_nI (a := 0) (b := 4) hin (by decide) (by decide)
        have s0 := j_seal (d := d + 3) y0 (nI wn)
        have s1 := j_sort (d := d + 3) (a := 46 + 5 * j) (M := M) hw4
        have o0 := z.tp.2.2.2.2.2.1
        by_cases hw0 : wn = 0
        · subst hw0
          rw [if_neg (by simp [nI_0])]
          rw [nI_0] at *
          obtain ⟨M1, p1, z1, g1⟩ := hz_begin (d := d + 2) z 7
          obtain ⟨M2, p2, z2, g2⟩ := hz_addBytes (d := d + 2) (q := 0) (n := m) z1 z1.tp (by unfold hA; omega) (by unfold hA; omega) (by omega) (by simp; omega)
          obtain ⟨M3, p3, z3, g3⟩ := hz_made (d := d) z2 (by simp) hl
          have e : [7] ++ (H.1.drop 0).take m = sl_row h 0 (H.1.take m) := by simp [sl_row]
          rw [e] at p3 z3
          refine ⟨M3, _, ?_, z3, (g1.tr g2).tr g3⟩
          have x1 := z1.ob
          obtain ⟨u1, t1⟩ := z1.o30
          have x2 := z2.ob
          obtain ⟨u2, t2⟩ := z2.o30
          rw [nI_0] at p2
          rw [show sl_sort 0 = 7 from rfl] at s1
          simp (disch := (first | omega | decide)) [c172, s172_0, s172_1, s172_2, s172_5, s172_7, s172_8, s172_9, s172_12, s172_14, s172_16, s172_19, s172_21, s172_22, s172_25, s172_26, s172_27, s172_28, s172_31, s172_34, s172_35, s172_38, s172_40, s172_41, s172_44, s172_47, s172_48, s172_49, s172_50, s172_53, s172_55, s172_56, s172_59, s172_62, s172_63, s172_66, s172_67, s172_70, s172_72, s172_73, s172_76, s172_79, s172_80, s172_83, s172_84, s172_87, s172_88, s172_90, s172_93, s172_94, s172_97, s172_100, mq_k0s, mq_k1s, mq_k2s, mq_k4s, mq_k5s, mq_k5n, mq_k5as, mq_k6s, mj_pu, mj_lo, mj_br, mj_hr, mj_hw, mq_gf, mq_len, mq_al, mq_pf, mq_ok, mj_re, mq_lkm, mq_lkn, mj_ldi, mj_ldl, mj_lda, mj_ii, mj_ll, mj_li, mj_i1, ms_1, ms_2, f1_n, f1_i, f1_r, f1_u, f1_l, f2_n, f2_i, f2_r, f2_u, f2_l, mj_tg, mj_c1, mj_c2, mj_ar, mj_aw, mq_cb, mq_oi, mj_rm, Value.category, -getElem?_pos, List.getElem?_cons_zero, decide_eq_true, decide_eq_false, nl_lt, nl_le, ln_lt, ln_le, nl_eq, ln_eq, nl_add, ln_add, nl_sub, ln_mul, nI_sub, nI_mul, nI_add, nI_lt_iff, nI_le_iff, nI_inj, nI_num, mq_ix, nI_1, nl_mul, nl_div, x0, v0, w0, nI_m1, w1, on1, t0, y0, s1, p1, x1, t1, o0, p2, x2, t2, p3, narrow]
        · have hne : nI wn ≠ 0 := fun e => hw0 ((nl_eq (a := wn) (n := 0) (by omega) rfl).mp e)
          by_cases hsw : sl_with h (nI wn) = 0
          · rw [if_pos (Or.inr ⟨hne, hsw⟩)]
            refine ⟨M, row, ?_, z, hf.rf⟩
            rw [hsw] at s0
            simp (disch := (first | omega | decide)) [c172, s172_0, s172_1, s172_2, s172_5, s172_7, s172_8, s172_9, s172_12, s172_14, s172_16, s172_19, s172_21, s172_22, s172_25, s172_26, s172_27, s172_28, s172_31, s172_34, s172_35, s172_38, s172_40, s172_41, s172_44, s172_47, s172_48, s172_49, s172_50, s172_53, s172_55, s172_56, s172_59, s172_62, s172_63, s172_66, s172_67, s172_70, s172_72, s172_73, s172_76, s172_79, s172_80, s172_83, s172_84, s172_87, s172_88, s172_90, s172_93, s172_94, s172_97, s172_100, mq_k0s, mq_k1s, mq_k2s, mq_k4s, mq_k5s, mq_k5n, mq_k5as, mq_k6s, mj_pu, mj_lo, mj_br, mj_hr, mj_hw, mq_gf, mq_len, mq_al, mq_pf, mq_ok, mj_re, mq_lkm, mq_lkn, mj_ldi, mj_ldl, mj_lda, mj_ii, mj_ll, mj_li, mj_i1, ms_1, ms_2, f1_n, f1_i, f1_r, f1_u, f1_l, f2_n, f2_i, f2_r, f2_u, f2_l, mj_tg, mj_c1, mj_c2, mj_ar, mj_aw, mq_cb, mq_oi, mj_rm, Value.category, -getElem?_pos, List.getElem?_cons_zero, decide_eq_true, decide_eq_false, nl_lt, nl_le, ln_lt, ln_le, nl_eq, ln_eq, nl_add, ln_add, nl_sub, ln_mul, nI_sub, nI_mul, nI_add, nI_lt_iff, nI_le_iff, nI_inj, nI_num, mq_ix, nI_1, nl_mul, nl_div, x0, v0, w0, nI_m1, w1, on1, hw0, y0, s0, narrow]
          · rw [if_neg (by simp [hsw])]
            obtain ⟨M1, p1, z1, g1⟩ := hz_begin (d := d + 2) z (sl_sort wn)
            obtain ⟨M2, p2, z2, g2⟩ := hz_add (d := d + 3) z1 (by simp) (sl_with h (nI wn))
            obtain ⟨M3, p3, z3, g3⟩ := hz_addBytes (d := d + 2) (q := 0) (n := m) z2 z2.tp (by unfold hA; omega) (by unfold hA; omega) (by omega) (by simp; omega)
            obtain ⟨M4, p4, z4, g4⟩ := hz_made (d := d) z3 (by simp) hl
            have e : [sl_sort wn] ++ [sl_with h (nI wn)] ++ (H.1.drop 0).take m = sl_row h (nI wn) (H.1.take m) := by
              rcases (show wn = 1 ∨ wn = 2 ∨ wn = 3 ∨ wn = 4 by omega) with rfl | rfl | rfl | rfl
              · rfl
              · rfl
              · rfl
              · rfl
            rw [e] at p4 z4
            refine ⟨M4, _, ?_, z4, ((g1.tr g2).tr g3).tr g4⟩
            have x1 := z1.ob
            obtain ⟨u1, t1⟩ := z1.o30
            have y1 := (z1.hd j _ hh).ob
            have s2 := j_seal (d := d + 3) y1 (nI wn)
            have x2 := z2.ob
            obtain ⟨u2, t2⟩ := z2.o30
            have o2 := z2.tp.2.2.2.2.2.1
            have x3 := z3.ob
            obtain ⟨u3, t3⟩ := z3.o30
            rw [nI_0] at p3
            simp (disch := (first | omega | decide)) [c172, s172_0, s172_1, s172_2, s172_5, s172_7, s172_8, s172_9, s172_12, s172_14, s172_16, s172_19, s172_21, s172_22, s172_25, s172_26, s172_27, s172_28, s172_31, s172_34, s172_35, s172_38, s172_40, s172_41, s172_44, s172_47, s172_48, s172_49, s172_50, s172_53, s172_55, s172_56, s172_59, s172_62, s172_63, s172_66, s172_67, s172_70, s172_72, s172_73, s172_76, s172_79, s172_80, s172_83, s172_84, s172_87, s172_88, s172_90, s172_93, s172_94, s172_97, s172_100, mq_k0s, mq_k1s, mq_k2s, mq_k4s, mq_k5s, mq_k5n, mq_k5as, mq_k6s, mj_pu, mj_lo, mj_br, mj_hr, mj_hw, mq_gf, mq_len, mq_al, mq_pf, mq_ok, mj_re, mq_lkm, mq_lkn, mj_ldi, mj_ldl, mj_lda, mj_ii, mj_ll, mj_li, mj_i1, ms_1, ms_2, f1_n, f1_i, f1_r, f1_u, f1_l, f2_n, f2_i, f2_r, f2_u, f2_l, mj_tg, mj_c1, mj_c2, mj_ar, mj_aw, mq_cb, mq_oi, mj_rm, Value.category, -getElem?_pos, List.getElem?_cons_zero, decide_eq_true, decide_eq_false, nl_lt, nl_le, ln_lt, ln_le, nl_eq, ln_eq, nl_add, ln_add, nl_sub, ln_mul, nI_sub, nI_mul, nI_add, nI_lt_iff, nI_le_iff, nI_inj, nI_num, mq_ix, nI_1, nl_mul, nl_div, x0, v0, w0, nI_m1, w1, on1, hw0, y0, s0, hsw, t0, s1, p1, x1, t1, y1, s2, p2, x2, t2, o2, p3, x3, t3, p4, narrow]
end HZ
end
/- 9a.h4 -/
section
set_option maxRecDepth 512
/-! Class: the house: hands, the rest. -/
section HZ
variable {M M' : mj_H} {H H' : Ho} {κs πs : List Nat} {row row' : List Int32} {d : Nat} {i : Int32}
theorem h_takeT (z : hz M H κs πs row) {j : Nat} {h : Hd} (hh : H.2.2.2.1[j]? = some h) (t : Int32) : ∃ M', mj_V (d + 3) 177 [.ref 25, .ref (46 + 5 * j), .int t] M = some (some (.int (on1 (decide (tok_ok h H.2.1 t)))), M') ∧ hz M' (H.ht j (tok_h h H.2.1 t, H.2.1)) κs πs row ∧ hf M M' := by
  have x0 := z.ob
  obtain ⟨u0, t0⟩ := z.o30
  have hj := z.hj hh
  have y0 := (z.hd j h hh).ob
  have w0 := tx_part (d := d) z.t t 0
  have w1 := tx_part (d := d) z.t t 1
  have w2 := tx_part (d := d) z.t t 2
  have hs0 : H.2.2.2.1.set j h = H.2.2.2.1 := by
    apply List.ext_getElem?
    intro n
    by_cases hn : j = n
    · subst hn; rw [List.getElem?_set_self (List.getElem?_eq_some_iff.mp hh).1, hh]
    · rw [List.getElem?_set_ne hn]
  have same : H.ht j (h, H.2.1) = H := by unfold Ho.ht; dsimp only; rw [hs0]
  by_cases hok : tok_ok h H.2.1 t
  · obtain ⟨z1, g1⟩ := z.hset (q := tok_h h H.2.1 t) hh (by unfold tok_h; split <;> rfl) (by unfold tok_h; split <;> rfl)
    refine ⟨_, ?_, z1, g1⟩
    obtain ⟨a1, a2, a3⟩ := id hok
    have l0 := mq_lt y0
    have hh5 : ¬ 46 + 5 * j < 25 := by omega
    have eth : tok_h h H.2.1 t = ((h.1, (h.2.1, (h.2.2.1, (h.2.2.2.1, bt_at (tm_row H.2.1.1 t) 2)))) : Hd) := by unfold tok_h; rw [if_pos hok]
    rw [eth]
    simp (disch := (first | omega | decide)) [c177, s177_0, s177_1, s177_4, s177_7, s177_8, s177_11, s177_12, s177_13, s177_16, s177_18, s177_21, s177_22, s177_25, s177_26, s177_27, s177_30, s177_31, s177_34, s177_37, s177_38, s177_39, s177_40, s177_41, s177_44, s177_45, s177_46, s177_49, s177_52, s177_53, mq_k0s, mq_k1s, mq_k2s, mq_k4s, mq_k5s, mq_k5n, mq_k5as, mq_k6s, mj_pu, mj_lo, mj_br, mj_hr, mj_hw, mq_gf, mq_len, mq_al, mq_pf, mq_ok, mj_re, mq_lkm, mq_lkn, mj_ldi, mj_ldl, mj_lda, mj_ii, mj_ll, mj_li, mj_i1, ms_1, ms_2, f1_n, f1_i, f1_r, f1_u, f1_l, f2_n, f2_i, f2_r, f2_u, f2_l, mj_tg, mj_c1, mj_c2, mj_ar, mj_aw, mq_cb, mq_oi, mj_rm, Value.category, -getElem?_pos, List.getElem?_cons_zero, decide_eq_true, decide_eq_false, nl_lt, nl_le, ln_lt, ln_le, nl_eq, ln_eq, nl_add, ln_add, nl_sub, ln_mul, nI_sub, nI_mul, nI_add, nI_lt_iff, nI_le_iff, nI_inj, nI_num, mq_ix, nI_1, nl_mul, nl_div, x0, t0, y0, w0, w1, w2, a1, a2, a3, narrow_b1, mj_E, hh5, l0, hdo, hok, on1, narrow]
  · have eth : tok_h h H.2.1 t = h := by unfold tok_h; rw [if_neg hok]
    rw [eth, same]
    refine ⟨M, ?_, z, hf.rf⟩
    by_cases a1 : h.2.2.2.1 = 0
    · simp (disch := (first | omega | decide)) [c177, s177_0, s177_1, s177_4, s177_7, s177_8, s177_11, s177_12, s177_13, s177_16, s177_18, s177_21, s177_22, s177_25, s177_26, s177_27, s177_30, s177_31, s177_34, s177_37, s177_38, s177_39, s177_40, s177_41, s177_44, s177_45, s177_46, s177_49, s177_52, s177_53, mq_k0s, mq_k1s, mq_k2s, mq_k4s, mq_k5s, mq_k5n, mq_k5as, mq_k6s, mj_pu, mj_lo, mj_br, mj_hr, mj_hw, mq_gf, mq_len, mq_al, mq_pf, mq_ok, mj_re, mq_lkm, mq_lkn, mj_ldi, mj_ldl, mj_lda, mj_ii, mj_ll, mj_li, mj_i1, ms_1, ms_2, f1_n, f1_i, f1_r, f1_u, f1_l, f2_n, f2_i, f2_r, f2_u, f2_l, mj_tg, mj_c1, mj_c2, mj_ar, mj_aw, mq_cb, mq_oi, mj_rm, Value.category, -getElem?_pos, List.getElem?_cons_zero, decide_eq_true, decide_eq_false, nl_lt, nl_le, ln_lt, ln_le, nl_eq, ln_eq, nl_add, ln_add, nl_sub, ln_mul, nI_sub, nI_mul, nI_add, nI_lt_iff, nI_le_iff, nI_inj, nI_num, mq_ix, nI_1, nl_mul, nl_div, x0, t0, y0, a1, hok, on1, narrow_b0]
    by_cases a2 : bt_at (tm_row H.2.1.1 t) 0 = 9
    · have a3 : ¬ bt_at (tm_row H.2.1.1 t) 1 = h.2.2.2.1 := fun a3 => hok ⟨a1, a2, a3⟩
      simp (disch := (first | omega | decide)) [c177, s177_0, s177_1, s177_4, s177_7, s177_8, s177_11, s177_12, s177_13, s177_16, s177_18, s177_21, s177_22, s177_25, s177_26, s177_27, s177_30, s177_31, s177_34, s177_37, s177_38, s177_39, s177_40, s177_41, s177_44, s177_45, s177_46, s177_49, s177_52, s177_53, mq_k0s, mq_k1s, mq_k2s, mq_k4s, mq_k5s, mq_k5n, mq_k5as, mq_k6s, mj_pu, mj_lo, mj_br, mj_hr, mj_hw, mq_gf, mq_len, mq_al, mq_pf, mq_ok, mj_re, mq_lkm, mq_lkn, mj_ldi, mj_ldl, mj_lda, mj_ii, mj_ll, mj_li, mj_i1, ms_1, ms_2, f1_n, f1_i, f1_r, f1_u, f1_l, f2_n, f2_i, f2_r, f2_u, f2_l, mj_tg, mj_c1, mj_c2, mj_ar, mj_aw, mq_cb, mq_oi, mj_rm, Value.category, -getElem?_pos, List.getElem?_cons_zero, decide_eq_true, decide_eq_false, nl_lt, nl_le, ln_lt, ln_le, nl_eq, ln_eq, nl_add, ln_add, nl_sub, ln_mul, nI_sub, nI_mul, nI_add, nI_lt_iff, nI_le_iff, nI_inj, nI_num, mq_ix, nI_1, nl_mul, nl_div, x0, t0, y0, w0, w1, a1, a2, a3, hok, on1, narrow_b0]
    · simp (disch := (first | omega | decide)) [c177, s177_0, s177_1, s177_4, s177_7, s177_8, s177_11, s177_12, s177_13, s177_16, s177_18, s177_21, s177_22, s177_25, s177_26, s177_27, s177_30, s177_31, s177_34, s177_37, s177_38, s177_39, s177_40, s177_41, s177_44, s177_45, s177_46, s177_49, s177_52, s177_53, mq_k0s, mq_k1s, mq_k2s, mq_k4s, mq_k5s, mq_k5n, mq_k5as, mq_k6s, mj_pu, mj_lo, mj_br, mj_hr, mj_hw, mq_gf, mq_len, mq_al, mq_pf, mq_ok, mj_re, mq_lkm, mq_lkn, mj_ldi, mj_ldl, mj_lda, mj_ii, mj_ll, mj_li, mj_i1, ms_1, ms_2, f1_n, f1_i, f1_r, f1_u, f1_l, f2_n, f2_i, f2_r, f2_u, f2_l, mj_tg, mj_c1, mj_c2, mj_ar, mj_aw, mq_cb, mq_oi, mj_rm, Value.category, -getElem?_pos, List.getElem?_cons_zero, decide_eq_true, decide_eq_false, nl_lt, nl_le, ln_lt, ln_le, nl_eq, ln_eq, nl_add, ln_add, nl_sub, ln_mul, nI_sub, nI_mul, nI_add, nI_lt_iff, nI_le_iff, nI_inj, nI_num, mq_ix, nI_1, nl_mul, nl_div, x0, t0, y0, w0, a1, a2, hok, on1, narrow_b0]
theorem h_token (z : hz M H κs πs row) (t : Int32) : ∃ M', mj_V (d + 4) 176 [.ref 25, .int i, .int t] M = some (some (.int (ho_token H i t).1), M') ∧ hz M' (ho_token H i t).2 κs πs row ∧ hf M M' := by
  have x0 := z.ob
  unfold ho_token
  cases hix : ix i 4 with
  | none =>
    have v0 := h_hanN (d := d + 2) z hix
    refine ⟨M, ?_, z, hf.rf⟩
    simp (disch := (first | omega | decide)) [c176, s176_0, s176_1, s176_2, s176_5, s176_6, s176_7, s176_10, s176_11, s176_12, s176_13, s176_16, s176_19, s176_20, s176_23, s176_24, mq_k0s, mq_k1s, mq_k2s, mq_k4s, mq_k5s, mq_k5n, mq_k5as, mq_k6s, mj_pu, mj_lo, mj_br, mj_hr, mj_hw, mq_gf, mq_len, mq_al, mq_pf, mq_ok, mj_re, mq_lkm, mq_lkn, mj_ldi, mj_ldl, mj_lda, mj_ii, mj_ll, mj_li, mj_i1, ms_1, ms_2, f1_n, f1_i, f1_r, f1_u, f1_l, f2_n, f2_i, f2_r, f2_u, f2_l, mj_tg, mj_c1, mj_c2, mj_ar, mj_aw, mq_cb, mq_oi, mj_rm, Value.category, -getElem?_pos, List.getElem?_cons_zero, decide_eq_true, decide_eq_false, nl_lt, nl_le, ln_lt, ln_le, nl_eq, ln_eq, nl_add, ln_add, nl_sub, ln_mul, nI_sub, nI_mul, nI_add, nI_lt_iff, nI_le_iff, nI_inj, nI_num, mq_ix, nI_1, nl_mul, nl_div, x0, v0, narrow_b0]
  | some j =>
    obtain ⟨rfl, hj, -⟩ := ix_some hix
    have hh := List.getElem?_eq_getElem (show j < H.2.2.2.1.length by rw [z.hl]; exact hj)
    have v0 := h_hanS (d := d + 2) z hj
    obtain ⟨M1, p1, z1, g1⟩ := h_takeT (d := d) z hh t
    dsimp only
    rw [hh]
    refine ⟨M1, ?_, z1, g1⟩
    by_cases hok : tok_ok (H.2.2.2.1[j]'(by rw [z.hl]; exact hj)) H.2.1 t
    · simp only [decide_eq_true hok, on1_t] at p1
      simp (disch := (first | omega | decide)) [c176, s176_0, s176_1, s176_2, s176_5, s176_6, s176_7, s176_10, s176_11, s176_12, s176_13, s176_16, s176_19, s176_20, s176_23, s176_24, mq_k0s, mq_k1s, mq_k2s, mq_k4s, mq_k5s, mq_k5n, mq_k5as, mq_k6s, mj_pu, mj_lo, mj_br, mj_hr, mj_hw, mq_gf, mq_len, mq_al, mq_pf, mq_ok, mj_re, mq_lkm, mq_lkn, mj_ldi, mj_ldl, mj_lda, mj_ii, mj_ll, mj_li, mj_i1, ms_1, ms_2, f1_n, f1_i, f1_r, f1_u, f1_l, f2_n, f2_i, f2_r, f2_u, f2_l, mj_tg, mj_c1, mj_c2, mj_ar, mj_aw, mq_cb, mq_oi, mj_rm, Value.category, -getElem?_pos, List.getElem?_cons_zero, decide_eq_true, decide_eq_false, nl_lt, nl_le, ln_lt, ln_le, nl_eq, ln_eq, nl_add, ln_add, nl_sub, ln_mul, nI_sub, nI_mul, nI_add, nI_lt_iff, nI_le_iff, nI_inj, nI_num, mq_ix, nI_1, nl_mul, nl_div, x0, v0, p1, hok, on1, narrow_b1]
    · simp only [decide_eq_false hok, on1_f] at p1
      simp (disch := (first | omega | decide)) [c176, s176_0, s176_1, s176_2, s176_5, s176_6, s176_7, s176_10, s176_11, s176_12, s176_13, s176_16, s176_19, s176_20, s176_23, s176_24, mq_k0s, mq_k1s, mq_k2s, mq_k4s, mq_k5s, mq_k5n, mq_k5as, mq_k6s, mj_pu, mj_lo, mj_br, mj_hr, mj_hw, mq_gf, mq_len, mq_al, mq_pf, mq_ok, mj_re, mq_lkm, mq_lkn, mj_ldi, mj_ldl, mj_lda, mj_ii, mj_ll, mj_li, mj_i1, ms_1, ms_2, f1_n, f1_i, f1_r, f1_u, f1_l, f2_n, f2_i, f2_r, f2_u, f2_l, mj_tg, mj_c1, mj_c2, mj_ar, mj_aw, mq_cb, mq_oi, mj_rm, Value.category, -getElem?_pos, List.getElem?_cons_zero, decide_eq_true, decide_eq_false, nl_lt, nl_le, ln_lt, ln_le, nl_eq, ln_eq, nl_add, ln_add, nl_sub, ln_mul, nI_sub, nI_mul, nI_add, nI_lt_iff, nI_le_iff, nI_inj, nI_num, mq_ix, nI_1, nl_mul, nl_div, x0, v0, p1, hok, on1, narrow_b0]
/-- bytes of a hand out of the tape -/
theorem h_pin (z : hz M H κs πs row) (n : Int32) : ∃ M', mj_V (d + 3) 178 [.ref 25, .int i, .int n] M = some (some (.int (ho_pin H i n).1), M') ∧ hz M' (ho_pin H i n).2 κs πs row ∧ hf M M' := by
  have x0 := z.ob
  have hcap := z.tp.len
  have w0 := j_in (d := d + 1) (v := n) (a := 0) (b := 12) (M := M)
  have w1 := v_size (d := d + 1) z.tp
  have o0 := z.tp.2.2.2.2.2.1
  unfold ho_pin
  cases hix : ix i 4 with
  | none =>
    have v0 := h_hanN (d := d + 1) z hix
    refine ⟨M, ?_, z, hf.rf⟩
    simp (disch := (first | omega | decide)) [c178, s178_0, s178_1, s178_2, s178_5, s178_6, s178_7, s178_10, s178_11, s178_12, s178_14, s178_17, s178_20, s178_21, s178_22, s178_25, s178_28, s178_31, s178_32, s178_33, s178_34, s178_37, s178_40, s178_41, s178_44, s178_45, s178_48, s178_49, s178_50, s178_53, s178_54, mq_k0s, mq_k1s, mq_k2s, mq_k4s, mq_k5s, mq_k5n, mq_k5as, mq_k6s, mj_pu, mj_lo, mj_br, mj_hr, mj_hw, mq_gf, mq_len, mq_al, mq_pf, mq_ok, mj_re, mq_lkm, mq_lkn, mj_ldi, mj_ldl, mj_lda, mj_ii, mj_ll, mj_li, mj_i1, ms_1, ms_2, f1_n, f1_i, f1_r, f1_u, f1_l, f2_n, f2_i, f2_r, f2_u, f2_l, mj_tg, mj_c1, mj_c2, mj_ar, mj_aw, mq_cb, mq_oi, mj_rm, Value.category, -getElem?_pos, List.getElem?_cons_zero, decide_eq_true, decide_eq_false, nl_lt, nl_le, ln_lt, ln_le, nl_eq, ln_eq, nl_add, ln_add, nl_sub, ln_mul, nI_sub, nI_mul, nI_add, nI_lt_iff, nI_le_iff, nI_inj, nI_num, mq_ix, nI_1, nl_mul, nl_div, x0, v0, narrow_b0]
  | some j =>
    obtain ⟨rfl, hj, -⟩ := ix_some hix
    have hh := List.getElem?_eq_getElem (show j < H.2.2.2.1.length by rw [z.hl]; exact hj)
    have v0 := h_hanS (d := d + 1) z hj
    have zh := z.hd j _ hh
    generalize H.2.2.2.1[j]'(by rw [z.hl]; exact hj) = h at *
    dsimp only
    rw [hh]
    dsimp only
    cases hin : inR n 0 12 with
    | false =>
      rw [hin] at w0
      refine ⟨M, ?_, by simpa using z, hf.rf⟩
      simp (disch := (first | omega | decide)) [c178, s178_0, s178_1, s178_2, s178_5, s178_6, s178_7, s178_10, s178_11, s178_12, s178_14, s178_17, s178_20, s178_21, s178_22, s178_25, s178_28, s178_31, s178_32, s178_33, s178_34, s178_37, s178_40, s178_41, s178_44, s178_45, s178_48, s178_49, s178_50, s178_53, s178_54, mq_k0s, mq_k1s, mq_k2s, mq_k4s, mq_k5s, mq_k5n, mq_k5as, mq_k6s, mj_pu, mj_lo, mj_br, mj_hr, mj_hw, mq_gf, mq_len, mq_al, mq_pf, mq_ok, mj_re, mq_lkm, mq_lkn, mj_ldi, mj_ldl, mj_lda, mj_ii, mj_ll, mj_li, mj_i1, ms_1, ms_2, f1_n, f1_i, f1_r, f1_u, f1_l, f2_n, f2_i, f2_r, f2_u, f2_l, mj_tg, mj_c1, mj_c2, mj_ar, mj_aw, mq_cb, mq_oi, mj_rm, Value.category, -getElem?_pos, List.getElem?_cons_zero, decide_eq_true, decide_eq_false, nl_lt, nl_le, ln_lt, ln_le, nl_eq, ln_eq, nl_add, ln_add, nl_sub, ln_mul, nI_sub, nI_mul, nI_add, nI_lt_iff, nI_le_iff, nI_inj, nI_num, mq_ix, nI_1, nl_mul, nl_div, x0, v0, w0, on1, narrow_b0]
    | true =>
      rw [hin] at w0
      obtain ⟨m, rfl, -, hm, hc⟩ := inR_nI (a := 0) (b := 12) hin (by decide) (by decide)
      rw [hc]
      by_cases hl : m ≤ H.1.length
      · rw [if_pos ⟨rfl, hl⟩]
        have y0 := zh.ob
        have b0 := zh.pi.2.2.2.2.2.1
        obtain ⟨M1, p1, b1, f1⟩ := v_clear (d := d + 1) zh.pi
        have hz1 : hdz M1 (46 + 5 * j) (([], (h.2.1, (h.2.2.1, (h.2.2.2.1, h.2.2.2.2)))) : Hd) := (hdz_mk_ ((f1.2 _ (by simp)).trans zh.ob) b1 (zh.pg.fr (f1.2 _ (by simp)) (f1.2 _ (by simp))))
        obtain ⟨z1, g1⟩ := z.hand hj (by intro c hc; simp at hc; omega) hz1 f1 (mj_V_gr p1)
        obtain ⟨M2, p2, b2, f2⟩ := v_pushPart (d := d) (p := 0) (n := m) (by omega) (by omega) (by omega) (by omega) (by omega) b1 z1.tp
        rw [List.drop_zero, bt_app_in (by simp; omega), List.nil_append] at b2
        have hz2 : hdz M2 (46 + 5 * j) ((H.1.take m, (h.2.1, (h.2.2.1, (h.2.2.2.1, h.2.2.2.2)))) : Hd) := (hdz_mk_ ((f2.2 _ (by simp)).trans hz1.ob) b2 (hz1.pg.fr (f2.2 _ (by simp)) (f2.2 _ (by simp))))
        obtain ⟨z2, g2⟩ := z1.hand hj (by intro c hc; simp at hc; omega) hz2 f2 (mj_V_gr p2)
        dsimp only at z2
        rw [List.set_set] at z2
        refine ⟨M2, ?_, z2, g1.tr g2⟩
        have x1 := z1.ob
        have y1 := hz1.ob
        have o1 := z1.tp.2.2.2.2.2.1
        have b1' := b1.2.2.2.2.2.1
        rw [nI_0] at p2
        simp (disch := (first | omega | decide)) [c178, s178_0, s178_1, s178_2, s178_5, s178_6, s178_7, s178_10, s178_11, s178_12, s178_14, s178_17, s178_20, s178_21, s178_22, s178_25, s178_28, s178_31, s178_32, s178_33, s178_34, s178_37, s178_40, s178_41, s178_44, s178_45, s178_48, s178_49, s178_50, s178_53, s178_54, mq_k0s, mq_k1s, mq_k2s, mq_k4s, mq_k5s, mq_k5n, mq_k5as, mq_k6s, mj_pu, mj_lo, mj_br, mj_hr, mj_hw, mq_gf, mq_len, mq_al, mq_pf, mq_ok, mj_re, mq_lkm, mq_lkn, mj_ldi, mj_ldl, mj_lda, mj_ii, mj_ll, mj_li, mj_i1, ms_1, ms_2, f1_n, f1_i, f1_r, f1_u, f1_l, f2_n, f2_i, f2_r, f2_u, f2_l, mj_tg, mj_c1, mj_c2, mj_ar, mj_aw, mq_cb, mq_oi, mj_rm, Value.category, -getElem?_pos, List.getElem?_cons_zero, decide_eq_true, decide_eq_false, nl_lt, nl_le, ln_lt, ln_le, nl_eq, ln_eq, nl_add, ln_add, nl_sub, ln_mul, nI_sub, nI_mul, nI_add, nI_lt_iff, nI_le_iff, nI_inj, nI_num, mq_ix, nI_1, nl_mul, nl_div, x0, v0, w0, on1, o0, w1, hl, y0, b0, p1, x1, y1, b1', o1, p2, narrow_b1]
      · rw [if_neg (fun q => hl q.2)]
        refine ⟨M, ?_, z, hf.rf⟩
        simp (disch := (first | omega | decide)) [c178, s178_0, s178_1, s178_2, s178_5, s178_6, s178_7, s178_10, s178_11, s178_12, s178_14, s178_17, s178_20, s178_21, s178_22, s178_25, s178_28, s178_31, s178_32, s178_33, s178_34, s178_37, s178_40, s178_41, s178_44, s178_45, s178_48, s178_49, s178_50, s178_53, s178_54, mq_k0s, mq_k1s, mq_k2s, mq_k4s, mq_k5s, mq_k5n, mq_k5as, mq_k6s, mj_pu, mj_lo, mj_br, mj_hr, mj_hw, mq_gf, mq_len, mq_al, mq_pf, mq_ok, mj_re, mq_lkm, mq_lkn, mj_ldi, mj_ldl, mj_lda, mj_ii, mj_ll, mj_li, mj_i1, ms_1, ms_2, f1_n, f1_i, f1_r, f1_u, f1_l, f2_n, f2_i, f2_r, f2_u, f2_l, mj_tg, mj_c1, mj_c2, mj_ar, mj_aw, mq_cb, mq_oi, mj_rm, Value.category, -getElem?_pos, List.getElem?_cons_zero, decide_eq_true, decide_eq_false, nl_lt, nl_le, ln_lt, ln_le, nl_eq, ln_eq, nl_add, ln_add, nl_sub, ln_mul, nI_sub, nI_mul, nI_add, nI_lt_iff, nI_le_iff, nI_inj, nI_num, mq_ix, nI_1, nl_mul, nl_div, x0, v0, w0, on1, o0, w1, hl, narrow_b0]
theorem h_page (z : hz M H κs πs row) (n : Int32) : ∃ M', mj_V (d + 3) 179 [.ref 25, .int i, .int n] M = some (some (.int (ho_page H i n).1), M') ∧ hz M' (ho_page H i n).2 κs πs row ∧ hf M M' := by
  have x0 := z.ob
  have hcap := z.tp.len
  have w0 := j_in (d := d + 1) (v := n) (a := 0) (b := 40) (M := M)
  have w1 := v_size (d := d + 1) z.tp
  have o0 := z.tp.2.2.2.2.2.1
  unfold ho_page
  cases hix : ix i 4 with
  | none =>
    have v0 := h_hanN (d := d + 1) z hix
    refine ⟨M, ?_, z, hf.rf⟩
    simp (disch := (first | omega | decide)) [c179, s179_0, s179_1, s179_2, s179_5, s179_6, s179_7, s179_10, s179_11, s179_12, s179_14, s179_17, s179_20, s179_21, s179_22, s179_25, s179_28, s179_31, s179_32, s179_33, s179_34, s179_37, s179_40, s179_41, s179_44, s179_45, s179_48, s179_49, s179_50, s179_53, s179_54, mq_k0s, mq_k1s, mq_k2s, mq_k4s, mq_k5s, mq_k5n, mq_k5as, mq_k6s, mj_pu, mj_lo, mj_br, mj_hr, mj_hw, mq_gf, mq_len, mq_al, mq_pf, mq_ok, mj_re, mq_lkm, mq_lkn, mj_ldi, mj_ldl, mj_lda, mj_ii, mj_ll, mj_li, mj_i1, ms_1, ms_2, f1_n, f1_i, f1_r, f1_u, f1_l, f2_n, f2_i, f2_r, f2_u, f2_l, mj_tg, mj_c1, mj_c2, mj_ar, mj_aw, mq_cb, mq_oi, mj_rm, Value.category, -getElem?_pos, List.getElem?_cons_zero, decide_eq_true, decide_eq_false, nl_lt, nl_le, ln_lt, ln_le, nl_eq, ln_eq, nl_add, ln_add, nl_sub, ln_mul, nI_sub, nI_mul, nI_add, nI_lt_iff, nI_le_iff, nI_inj, nI_num, mq_ix, nI_1, nl_mul, nl_div, x0, v0, narrow_b0]
  | some j =>
    obtain ⟨rfl, hj, -⟩ := ix_some hix
    have hh := List.getElem?_eq_getElem (show j < H.2.2.2.1.length by rw [z.hl]; exact hj)
    have v0 := h_hanS (d := d + 1) z hj
    have zh := z.hd j _ hh
    generalize H.2.2.2.1[j]'(by rw [z.hl]; exact hj) = h at *
    dsimp only
    rw [hh]
    dsimp only
    cases hin : inR n 0 40 with
    | false =>
      rw [hin] at w0
      refine ⟨M, ?_, by simpa using z, hf.rf⟩
      simp (disch := (first | omega | decide)) [c179, s179_0, s179_1, s179_2, s179_5, s179_6, s179_7, s179_10, s179_11, s179_12, s179_14, s179_17, s179_20, s179_21, s179_22, s179_25, s179_28, s179_31, s179_32, s179_33, s179_34, s179_37, s179_40, s179_41, s179_44, s179_45, s179_48, s179_49, s179_50, s179_53, s179_54, mq_k0s, mq_k1s, mq_k2s, mq_k4s, mq_k5s, mq_k5n, mq_k5as, mq_k6s, mj_pu, mj_lo, mj_br, mj_hr, mj_hw, mq_gf, mq_len, mq_al, mq_pf, mq_ok, mj_re, mq_lkm, mq_lkn, mj_ldi, mj_ldl, mj_lda, mj_ii, mj_ll, mj_li, mj_i1, ms_1, ms_2, f1_n, f1_i, f1_r, f1_u, f1_l, f2_n, f2_i, f2_r, f2_u, f2_l, mj_tg, mj_c1, mj_c2, mj_ar, mj_aw, mq_cb, mq_oi, mj_rm, Value.category, -getElem?_pos, List.getElem?_cons_zero, decide_eq_true, decide_eq_false, nl_lt, nl_le, ln_lt, ln_le, nl_eq, ln_eq, nl_add, ln_add, nl_sub, ln_mul, nI_sub, nI_mul, nI_add, nI_lt_iff, nI_le_iff, nI_inj, nI_num, mq_ix, nI_1, nl_mul, nl_div, x0, v0, w0, on1, narrow_b0]
    | true =>
      rw [hin] at w0
      obtain ⟨m, rfl, -, hm, hc⟩ := inR_nI (a := 0) (b := 40) hin (by decide) (by decide)
      rw [hc]
      by_cases hl : m ≤ H.1.length
      · rw [if_pos ⟨rfl, hl⟩]
        have y0 := zh.ob
        have b0 := zh.pg.2.2.2.2.2.1
        obtain ⟨M1, p1, b1, f1⟩ := v_clear (d := d + 1) zh.pg
        have hz1 : hdz M1 (46 + 5 * j) ((h.1, ([], (h.2.2.1, (h.2.2.2.1, h.2.2.2.2)))) : Hd) := (hdz_mk_ ((f1.2 _ (by simp)).trans zh.ob) (zh.pi.fr (f1.2 _ (by simp)) (f1.2 _ (by simp))) b1)
        obtain ⟨z1, g1⟩ := z.hand hj (by intro c hc; simp at hc; omega) hz1 f1 (mj_V_gr p1)
        obtain ⟨M2, p2, b2, f2⟩ := v_pushPart (d := d) (p := 0) (n := m) (by omega) (by omega) (by omega) (by omega) (by omega) b1 z1.tp
        rw [List.drop_zero, bt_app_in (by simp; omega), List.nil_append] at b2
        have hz2 : hdz M2 (46 + 5 * j) ((h.1, (H.1.take m, (h.2.2.1, (h.2.2.2.1, h.2.2.2.2)))) : Hd) := (hdz_mk_ ((f2.2 _ (by simp)).trans hz1.ob) (hz1.pi.fr (f2.2 _ (by simp)) (f2.2 _ (by simp))) b2)
        obtain ⟨z2, g2⟩ := z1.hand hj (by intro c hc; simp at hc; omega) hz2 f2 (mj_V_gr p2)
        dsimp only at z2
        rw [List.set_set] at z2
        refine ⟨M2, ?_, z2, g1.tr g2⟩
        have x1 := z1.ob
        have y1 := hz1.ob
        have o1 := z1.tp.2.2.2.2.2.1
        have b1' := b1.2.2.2.2.2.1
        rw [nI_0] at p2
        simp (disch := (first | omega | decide)) [c179, s179_0, s179_1, s179_2, s179_5, s179_6, s179_7, s179_10, s179_11, s179_12, s179_14, s179_17, s179_20, s179_21, s179_22, s179_25, s179_28, s179_31, s179_32, s179_33, s179_34, s179_37, s179_40, s179_41, s179_44, s179_45, s179_48, s179_49, s179_50, s179_53, s179_54, mq_k0s, mq_k1s, mq_k2s, mq_k4s, mq_k5s, mq_k5n, mq_k5as, mq_k6s, mj_pu, mj_lo, mj_br, mj_hr, mj_hw, mq_gf, mq_len, mq_al, mq_pf, mq_ok, mj_re, mq_lkm, mq_lkn, mj_ldi, mj_ldl, mj_lda, mj_ii, mj_ll, mj_li, mj_i1, ms_1, ms_2, f1_n, f1_i, f1_r, f1_u, f1_l, f2_n, f2_i, f2_r, f2_u, f2_l, mj_tg, mj_c1, mj_c2, mj_ar, mj_aw, mq_cb, mq_oi, mj_rm, Value.category, -getElem?_pos, List.getElem?_cons_zero, decide_eq_true, decide_eq_false, nl_lt, nl_le, ln_lt, ln_le, nl_eq, ln_eq, nl_add, ln_add, nl_sub, ln_mul, nI_sub, nI_mul, nI_add, nI_lt_iff, nI_le_iff, nI_inj, nI_num, mq_ix, nI_1, nl_mul, nl_div, x0, v0, w0, on1, o0, w1, hl, y0, b0, p1, x1, y1, b1', o1, p2, narrow_b1]
      · rw [if_neg (fun q => hl q.2)]
        refine ⟨M, ?_, z, hf.rf⟩
        simp (disch := (first | omega | decide)) [c179, s179_0, s179_1, s179_2, s179_5, s179_6, s179_7, s179_10, s179_11, s179_12, s179_14, s179_17, s179_20, s179_21, s179_22, s179_25, s179_28, s179_31, s179_32, s179_33, s179_34, s179_37, s179_40, s179_41, s179_44, s179_45, s179_48, s179_49, s179_50, s179_53, s179_54, mq_k0s, mq_k1s, mq_k2s, mq_k4s, mq_k5s, mq_k5n, mq_k5as, mq_k6s, mj_pu, mj_lo, mj_br, mj_hr, mj_hw, mq_gf, mq_len, mq_al, mq_pf, mq_ok, mj_re, mq_lkm, mq_lkn, mj_ldi, mj_ldl, mj_lda, mj_ii, mj_ll, mj_li, mj_i1, ms_1, ms_2, f1_n, f1_i, f1_r, f1_u, f1_l, f2_n, f2_i, f2_r, f2_u, f2_l, mj_tg, mj_c1, mj_c2, mj_ar, mj_aw, mq_cb, mq_oi, mj_rm, Value.category, -getElem?_pos, List.getElem?_cons_zero, decide_eq_true, decide_eq_false, nl_lt, nl_le, ln_lt, ln_le, nl_eq, ln_eq, nl_add, ln_add, nl_sub, ln_mul, nI_sub, nI_mul, nI_add, nI_lt_iff, nI_le_iff, nI_inj, nI_num, mq_ix, nI_1, nl_mul, nl_div, x0, v0, w0, on1, o0, w1, hl, narrow_b0]
/-- the bytes of an ENC go to the tape -/
theorem l_open {t l1 : Int32} {a : Nat} (h8 : ∀ v ∈ (tm_row H.2.1.1 t).drop 2, v &&& 255 = v) (hw : (tm_row H.2.1.1 t).length ≤ 402) : ∀ (m j : Nat) (xs : List Int32) (M : mj_H), j + m = (tm_row H.2.1.1 t).length → 2 ≤ j → xs.length + 2 = j → hz M ((xs, (H.2.1, (H.2.2.1, (H.2.2.2.1, H.2.2.2.2)))) : Ho) κs πs row → ∃ M', mj_Rn (d + 2) mj_m175 68 [(5, .int (nI j)), (4, .int (nI (tm_row H.2.1.1 t).length)), (3, .ref a), (0, .ref 25), (1, .int l1), (2, .int t)] [] M = some (some (.int (nI (xs ++ (tm_row H.2.1.1 t).drop j).length)), M') ∧ hz M' ((xs ++ (tm_row H.2.1.1 t).drop j, (H.2.1, (H.2.2.1, (H.2.2.2.1, H.2.2.2.2)))) : Ho) κs πs row ∧ hf M M' := by
  intro m
  induction m with
  | zero =>
    intro j xs M hj h2 hx z
    have x0 := z.ob
    have o0 := z.tp.2.2.2.2.2.1
    have v0 := v_size (d := d + 1) z.tp
    have e : (tm_row H.2.1.1 t).drop j = [] := List.drop_eq_nil_of_le (by omega)
    rw [e, List.append_nil]
    refine ⟨M, ?_, z, hf.rf⟩
    dsimp only at v0 o0
    have hj' : (tm_row H.2.1.1 t).length = j := by omega
    rw [hj']
    simp (disch := (first | omega | decide)) [s175_0, s175_1, s175_2, s175_5, s175_6, s175_7, s175_10, s175_11, s175_14, s175_17, s175_18, s175_21, s175_22, s175_23, s175_26, s175_27, s175_30, s175_31, s175_34, s175_35, s175_36, s175_39, s175_40, s175_43, s175_46, s175_47, s175_48, s175_49, s175_52, s175_55, s175_56, s175_59, s175_60, s175_63, s175_65, s175_66, s175_68, s175_70, s175_72, s175_75, s175_76, s175_79, s175_80, s175_83, s175_84, s175_86, s175_89, s175_92, s175_95, s175_98, s175_99, s175_102, s175_105, mq_k0s, mq_k1s, mq_k2s, mq_k4s, mq_k5s, mq_k5n, mq_k5as, mq_k6s, mj_pu, mj_lo, mj_br, mj_hr, mj_hw, mq_gf, mq_len, mq_al, mq_pf, mq_ok, mj_re, mq_lkm, mq_lkn, mj_ldi, mj_ldl, mj_lda, mj_ii, mj_ll, mj_li, mj_i1, ms_1, ms_2, f1_n, f1_i, f1_r, f1_u, f1_l, f2_n, f2_i, f2_r, f2_u, f2_l, mj_tg, mj_c1, mj_c2, mj_ar, mj_aw, mq_cb, mq_oi, mj_rm, Value.category, -getElem?_pos, List.getElem?_cons_zero, decide_eq_true, decide_eq_false, nl_lt, nl_le, ln_lt, ln_le, nl_eq, ln_eq, nl_add, ln_add, nl_sub, ln_mul, nI_sub, nI_mul, nI_add, nI_lt_iff, nI_le_iff, nI_inj, nI_num, mq_ix, nI_1, nl_mul, nl_div, x0, o0, v0, narrow]
  | succ m ih =>
    intro j xs M hj h2 hx z
    have x0 := z.ob
    have o0 := z.tp.2.2.2.2.2.1
    obtain ⟨u0, t0⟩ := z.o30
    have hjl : j < (tm_row H.2.1.1 t).length := by omega
    have w0 := tx_part (d := d) z.t t (nI j)
    rw [bt_at_nI (by omega), List.getD_eq_getElem?_getD, List.getElem?_eq_getElem hjl, Option.getD_some] at w0
    obtain ⟨M1, p1, b1, f1⟩ := v_push (d := d + 1) z.tp ((tm_row H.2.1.1 t)[j])
    have hby : (tm_row H.2.1.1 t)[j] &&& 255 = (tm_row H.2.1.1 t)[j] := h8 _ (by
      have : (tm_row H.2.1.1 t)[j] = ((tm_row H.2.1.1 t).drop 2)[j - 2]'(by rw [List.length_drop]; omega) := by
        rw [List.getElem_drop]; congr 1; omega
      rw [this]; exact List.getElem_mem _)
    dsimp only at b1
    rw [hby, bt_app_in (by simp; omega)] at b1
    obtain ⟨z1, g1⟩ := z.tape b1 f1 (mj_V_gr p1)
    obtain ⟨M2, p2, z2, g2⟩ := ih (j + 1) (xs ++ [(tm_row H.2.1.1 t)[j]]) M1 (by omega) (by omega) (by simp; omega) z1
    have e : xs ++ [(tm_row H.2.1.1 t)[j]] ++ (tm_row H.2.1.1 t).drop (j + 1) = xs ++ (tm_row H.2.1.1 t).drop j := by
      rw [List.append_assoc, List.singleton_append, ← List.drop_eq_getElem_cons hjl]
    rw [e] at p2 z2
    refine ⟨M2, ?_, z2, g1.tr g2⟩
    rw [s175_68]
    simp only [List.length_append, List.length_drop] at p2
    simp (disch := (first | omega | decide)) [s175_0, s175_1, s175_2, s175_5, s175_6, s175_7, s175_10, s175_11, s175_14, s175_17, s175_18, s175_21, s175_22, s175_23, s175_26, s175_27, s175_30, s175_31, s175_34, s175_35, s175_36, s175_39, s175_40, s175_43, s175_46, s175_47, s175_48, s175_49, s175_52, s175_55, s175_56, s175_59, s175_60, s175_63, s175_65, s175_66, s175_70, s175_72, s175_75, s175_76, s175_79, s175_80, s175_83, s175_84, s175_86, s175_89, s175_92, s175_95, s175_98, s175_99, s175_102, s175_105, mq_k0s, mq_k1s, mq_k2s, mq_k4s, mq_k5s, mq_k5n, mq_k5as, mq_k6s, mj_pu, mj_lo, mj_br, mj_hr, mj_hw, mq_gf, mq_len, mq_al, mq_pf, mq_ok, mj_re, mq_lkm, mq_lkn, mj_ldi, mj_ldl, mj_lda, mj_ii, mj_ll, mj_li, mj_i1, ms_1, ms_2, f1_n, f1_i, f1_r, f1_u, f1_l, f2_n, f2_i, f2_r, f2_u, f2_l, mj_tg, mj_c1, mj_c2, mj_ar, mj_aw, mq_cb, mq_oi, mj_rm, Value.category, -getElem?_pos, List.getElem?_cons_zero, decide_eq_true, decide_eq_false, nl_lt, nl_le, ln_lt, ln_le, nl_eq, ln_eq, nl_add, ln_add, nl_sub, ln_mul, nI_sub, nI_mul, nI_add, nI_lt_iff, nI_le_iff, nI_inj, nI_num, mq_ix, nI_1, nl_mul, nl_div, x0, o0, t0, w0, p1]
    refine mq_wk ?_ p2
    simp [mq_sub, mj_lk]
theorem h_open (z : hz M H κs πs row) (t : Int32) (hrow : ∀ r ∈ H.2.1.1, r.getD 0 0 = 4 → (∀ v ∈ r.drop 2, v &&& 255 = v) ∧ r.length ≤ 402) : ∃ M', mj_V (d + 3) 175 [.ref 25, .int i, .int t] M = some (some (.int (ho_open H i t).1), M') ∧ hz M' (ho_open H i t).2 κs πs row ∧ hf M M' := by
  have x0 := z.ob
  obtain ⟨u0, t0⟩ := z.o30
  have o0 := z.tp.2.2.2.2.2.1
  have w0 := tx_part (d := d) z.t t 0
  have w1 := tx_part (d := d) z.t t 1
  unfold ho_open
  cases hix : ix i 4 with
  | none =>
    have v0 := h_hanN (d := d + 1) z hix
    refine ⟨M, ?_, z, hf.rf⟩
    simp (disch := (first | omega | decide)) [c175, s175_0, s175_1, s175_2, s175_5, s175_6, s175_7, s175_10, s175_11, s175_14, s175_17, s175_18, s175_21, s175_22, s175_23, s175_26, s175_27, s175_30, s175_31, s175_34, s175_35, s175_36, s175_39, s175_40, s175_43, s175_46, s175_47, s175_48, s175_49, s175_52, s175_55, s175_56, s175_59, s175_60, s175_63, s175_65, s175_66, s175_68, s175_70, s175_72, s175_75, s175_76, s175_79, s175_80, s175_83, s175_84, s175_86, s175_89, s175_92, s175_95, s175_98, s175_99, s175_102, s175_105, mq_k0s, mq_k1s, mq_k2s, mq_k4s, mq_k5s, mq_k5n, mq_k5as, mq_k6s, mj_pu, mj_lo, mj_br, mj_hr, mj_hw, mq_gf, mq_len, mq_al, mq_pf, mq_ok, mj_re, mq_lkm, mq_lkn, mj_ldi, mj_ldl, mj_lda, mj_ii, mj_ll, mj_li, mj_i1, ms_1, ms_2, f1_n, f1_i, f1_r, f1_u, f1_l, f2_n, f2_i, f2_r, f2_u, f2_l, mj_tg, mj_c1, mj_c2, mj_ar, mj_aw, mq_cb, mq_oi, mj_rm, Value.category, -getElem?_pos, List.getElem?_cons_zero, decide_eq_true, decide_eq_false, nl_lt, nl_le, ln_lt, ln_le, nl_eq, ln_eq, nl_add, ln_add, nl_sub, ln_mul, nI_sub, nI_mul, nI_add, nI_lt_iff, nI_le_iff, nI_inj, nI_num, mq_ix, nI_1, nl_mul, nl_div, x0, v0, narrow]
  | some j =>
    obtain ⟨rfl, hj, -⟩ := ix_some hix
    have hh := List.getElem?_eq_getElem (show j < H.2.2.2.1.length by rw [z.hl]; exact hj)
    have v0 := h_hanS (d := d + 1) z hj
    have y0 := (z.hd j _ hh).ob
    generalize H.2.2.2.1[j]'(by rw [z.hl]; exact hj) = h at *
    dsimp only
    rw [hh]
    dsimp only
    by_cases hq : h.2.2.2.1 ≠ 0 ∧ bt_at (tm_row H.2.1.1 t) 0 = 4 ∧ bt_at (tm_row H.2.1.1 t) 1 = h.2.2.2.1
    · rw [if_pos hq]
      obtain ⟨q1, q2, q3⟩ := hq
      have hne : 1 ≤ (tm_row H.2.1.1 t).length := by
        cases hr : tm_row H.2.1.1 t with
        | nil => rw [hr] at q2; cases q2
        | cons a b => simp
      have hmem : tm_row H.2.1.1 t ∈ H.2.1.1 := by
        unfold tm_row at hne ⊢
        split
        · next h1 => rw [if_pos h1] at hne; simp at hne
        · next h1 =>
          rw [if_neg h1] at hne
          by_cases hl : t.toNatClampNeg - 1 < H.2.1.1.length
          · rw [List.getD_eq_getElem?_getD, List.getElem?_eq_getElem hl]; exact List.getElem_mem _
          · rw [List.getD_eq_getElem?_getD, List.getElem?_eq_none (by omega)] at hne; simp at hne
      have h4 : (tm_row H.2.1.1 t).getD 0 0 = 4 := by
        rw [show (0 : Int32) = nI 0 from rfl, bt_at_nI (by decide)] at q2
        rw [List.getD_eq_getElem?_getD, List.getElem?_eq_getElem (show 0 < (tm_row H.2.1.1 t).length by omega)] at q2 ⊢
        exact q2
      obtain ⟨h8, hw⟩ := hrow _ hmem h4
      obtain ⟨M1, p1, b1, f1⟩ := v_clear (d := d + 1) z.tp
      obtain ⟨z1, g1⟩ := z.tape b1 (f1.mono (by simp)) (mj_V_gr p1)
      have x1 := z1.ob
      obtain ⟨u1, t1⟩ := z1.o30
      have w2 := tx_width (d := d + 1) z1.t t
      dsimp only at w2
      by_cases hl2 : 2 ≤ (tm_row H.2.1.1 t).length
      · obtain ⟨M2, p2, z2, g2⟩ := l_open (d := d) (t := t) (l1 := nI j) (a := 46 + 5 * j) h8 hw ((tm_row H.2.1.1 t).length - 2) 2 [] M1 (by omega) (by omega) rfl z1
        refine ⟨M2, ?_, z2, g1.tr g2⟩
        rw [show nI 2 = 2 from rfl] at p2
        simp only [List.nil_append, List.length_drop] at p2
        simp (disch := (first | omega | decide)) [c175, s175_0, s175_1, s175_2, s175_5, s175_6, s175_7, s175_10, s175_11, s175_14, s175_17, s175_18, s175_21, s175_22, s175_23, s175_26, s175_27, s175_30, s175_31, s175_34, s175_35, s175_36, s175_39, s175_40, s175_43, s175_46, s175_47, s175_48, s175_49, s175_52, s175_55, s175_56, s175_59, s175_60, s175_63, s175_65, s175_66, s175_70, s175_72, s175_75, s175_76, s175_79, s175_80, s175_83, s175_84, s175_86, s175_89, s175_92, s175_95, s175_98, s175_99, s175_102, s175_105, mq_k0s, mq_k1s, mq_k2s, mq_k4s, mq_k5s, mq_k5n, mq_k5as, mq_k6s, mj_pu, mj_lo, mj_br, mj_hr, mj_hw, mq_gf, mq_len, mq_al, mq_pf, mq_ok, mj_re, mq_lkm, mq_lkn, mj_ldi, mj_ldl, mj_lda, mj_ii, mj_ll, mj_li, mj_i1, ms_1, ms_2, f1_n, f1_i, f1_r, f1_u, f1_l, f2_n, f2_i, f2_r, f2_u, f2_l, mj_tg, mj_c1, mj_c2, mj_ar, mj_aw, mq_cb, mq_oi, mj_rm, Value.category, -getElem?_pos, List.getElem?_cons_zero, decide_eq_true, decide_eq_false, nl_lt, nl_le, ln_lt, ln_le, nl_eq, ln_eq, nl_add, ln_add, nl_sub, ln_mul, nI_sub, nI_mul, nI_add, nI_lt_iff, nI_le_iff, nI_inj, nI_num, mq_ix, nI_1, nl_mul, nl_div, x0, v0, y0, q1, t0, w0, w1, q2, q3, o0, p1, x1, t1, w2]
        refine mq_wk ?_ p2
        simp [mq_sub, mj_lk]
      · have hl1 : (tm_row H.2.1.1 t).length = 1 := by omega
        have e : (tm_row H.2.1.1 t).drop 2 = [] := List.drop_eq_nil_of_le (by omega)
        rw [e]
        refine ⟨M1, ?_, z1, g1⟩
        have o1 := b1.2.2.2.2.2.1
        have v1 := v_size (d := d + 1) b1
        rw [hl1] at w2
        simp (disch := (first | omega | decide)) [c175, s175_0, s175_1, s175_2, s175_5, s175_6, s175_7, s175_10, s175_11, s175_14, s175_17, s175_18, s175_21, s175_22, s175_23, s175_26, s175_27, s175_30, s175_31, s175_34, s175_35, s175_36, s175_39, s175_40, s175_43, s175_46, s175_47, s175_48, s175_49, s175_52, s175_55, s175_56, s175_59, s175_60, s175_63, s175_65, s175_66, s175_68, s175_70, s175_72, s175_75, s175_76, s175_79, s175_80, s175_83, s175_84, s175_86, s175_89, s175_92, s175_95, s175_98, s175_99, s175_102, s175_105, mq_k0s, mq_k1s, mq_k2s, mq_k4s, mq_k5s, mq_k5n, mq_k5as, mq_k6s, mj_pu, mj_lo, mj_br, mj_hr, mj_hw, mq_gf, mq_len, mq_al, mq_pf, mq_ok, mj_re, mq_lkm, mq_lkn, mj_ldi, mj_ldl, mj_lda, mj_ii, mj_ll, mj_li, mj_i1, ms_1, ms_2, f1_n, f1_i, f1_r, f1_u, f1_l, f2_n, f2_i, f2_r, f2_u, f2_l, mj_tg, mj_c1, mj_c2, mj_ar, mj_aw, mq_cb, mq_oi, mj_rm, Value.category, -getElem?_pos, List.getElem?_cons_zero, decide_eq_true, decide_eq_false, nl_lt, nl_le, ln_lt, ln_le, nl_eq, ln_eq, nl_add, ln_add, nl_sub, ln_mul, nI_sub, nI_mul, nI_add, nI_lt_iff, nI_le_iff, nI_inj, nI_num, mq_ix, nI_1, nl_mul, nl_div, x0, v0, y0, q1, t0, w0, w1, q2, q3, o0, p1, x1, t1, w2, o1, v1, narrow]
    · rw [if_neg hq]
      refine ⟨M, ?_, z, hf.rf⟩
      by_cases q1 : h.2.2.2.1 = 0
      · simp (disch := (first | omega | decide)) [c175, s175_0, s175_1, s175_2, s175_5, s175_6, s175_7, s175_10, s175_11, s175_14, s175_17, s175_18, s175_21, s175_22, s175_23, s175_26, s175_27, s175_30, s175_31, s175_34, s175_35, s175_36, s175_39, s175_40, s175_43, s175_46, s175_47, s175_48, s175_49, s175_52, s175_55, s175_56, s175_59, s175_60, s175_63, s175_65, s175_66, s175_68, s175_70, s175_72, s175_75, s175_76, s175_79, s175_80, s175_83, s175_84, s175_86, s175_89, s175_92, s175_95, s175_98, s175_99, s175_102, s175_105, mq_k0s, mq_k1s, mq_k2s, mq_k4s, mq_k5s, mq_k5n, mq_k5as, mq_k6s, mj_pu, mj_lo, mj_br, mj_hr, mj_hw, mq_gf, mq_len, mq_al, mq_pf, mq_ok, mj_re, mq_lkm, mq_lkn, mj_ldi, mj_ldl, mj_lda, mj_ii, mj_ll, mj_li, mj_i1, ms_1, ms_2, f1_n, f1_i, f1_r, f1_u, f1_l, f2_n, f2_i, f2_r, f2_u, f2_l, mj_tg, mj_c1, mj_c2, mj_ar, mj_aw, mq_cb, mq_oi, mj_rm, Value.category, -getElem?_pos, List.getElem?_cons_zero, decide_eq_true, decide_eq_false, nl_lt, nl_le, ln_lt, ln_le, nl_eq, ln_eq, nl_add, ln_add, nl_sub, ln_mul, nI_sub, nI_mul, nI_add, nI_lt_iff, nI_le_iff, nI_inj, nI_num, mq_ix, nI_1, nl_mul, nl_div, x0, v0, y0, q1, narrow]
      by_cases q2 : bt_at (tm_row H.2.1.1 t) 0 = 4
      · have q3 : ¬ bt_at (tm_row H.2.1.1 t) 1 = h.2.2.2.1 := fun q3 => hq ⟨q1, q2, q3⟩
        simp (disch := (first | omega | decide)) [c175, s175_0, s175_1, s175_2, s175_5, s175_6, s175_7, s175_10, s175_11, s175_14, s175_17, s175_18, s175_21, s175_22, s175_23, s175_26, s175_27, s175_30, s175_31, s175_34, s175_35, s175_36, s175_39, s175_40, s175_43, s175_46, s175_47, s175_48, s175_49, s175_52, s175_55, s175_56, s175_59, s175_60, s175_63, s175_65, s175_66, s175_68, s175_70, s175_72, s175_75, s175_76, s175_79, s175_80, s175_83, s175_84, s175_86, s175_89, s175_92, s175_95, s175_98, s175_99, s175_102, s175_105, mq_k0s, mq_k1s, mq_k2s, mq_k4s, mq_k5s, mq_k5n, mq_k5as, mq_k6s, mj_pu, mj_lo, mj_br, mj_hr, mj_hw, mq_gf, mq_len, mq_al, mq_pf, mq_ok, mj_re, mq_lkm, mq_lkn, mj_ldi, mj_ldl, mj_lda, mj_ii, mj_ll, mj_li, mj_i1, ms_1, ms_2, f1_n, f1_i, f1_r, f1_u, f1_l, f2_n, f2_i, f2_r, f2_u, f2_l, mj_tg, mj_c1, mj_c2, mj_ar, mj_aw, mq_cb, mq_oi, mj_rm, Value.category, -getElem?_pos, List.getElem?_cons_zero, decide_eq_true, decide_eq_false, nl_lt, nl_le, ln_lt, ln_le, nl_eq, ln_eq, nl_add, ln_add, nl_sub, ln_mul, nI_sub, nI_mul, nI_add, nI_lt_iff, nI_le_iff, nI_inj, nI_num, mq_ix, nI_1, nl_mul, nl_div, x0, v0, y0, q1, t0, w0, w1, q2, q3, narrow]
      · simp (disch := (first | omega | decide)) [c175, s175_0, s175_1, s175_2, s175_5, s175_6, s175_7, s175_10, s175_11, s175_14, s175_17, s175_18, s175_21, s175_22, s175_23, s175_26, s175_27, s175_30, s175_31, s175_34, s175_35, s175_36, s175_39, s175_40, s175_43, s175_46, s175_47, s175_48, s175_49, s175_52, s175_55, s175_56, s175_59, s175_60, s175_63, s175_65, s175_66, s175_68, s175_70, s175_72, s175_75, s175_76, s175_79, s175_80, s175_83, s175_84, s175_86, s175_89, s175_92, s175_95, s175_98, s175_99, s175_102, s175_105, mq_k0s, mq_k1s, mq_k2s, mq_k4s, mq_k5s, mq_k5n, mq_k5as, mq_k6s, mj_pu, mj_lo, mj_br, mj_hr, mj_hw, mq_gf, mq_len, mq_al, mq_pf, mq_ok, mj_re, mq_lkm, mq_lkn, mj_ldi, mj_ldl, mj_lda, mj_ii, mj_ll, mj_li, mj_i1, ms_1, ms_2, f1_n, f1_i, f1_r, f1_u, f1_l, f2_n, f2_i, f2_r, f2_u, f2_l, mj_tg, mj_c1, mj_c2, mj_ar, mj_aw, mq_cb, mq_oi, mj_rm, Value.category, -getElem?_pos, List.getElem?_cons_zero, decide_eq_true, decide_eq_false, nl_lt, nl_le, ln_lt, ln_le, nl_eq, ln_eq, nl_add, ln_add, nl_sub, ln_mul, nI_sub, nI_mul, nI_add, nI_lt_iff, nI_le_iff, nI_inj, nI_num, mq_ix, nI_1, nl_mul, nl_div, x0, v0, y0, q1, t0, w0, q2, narrow]
end HZ
end
/- 9b.h5 -/
section
set_option maxRecDepth 512
/-! Class: the house: messages of clients. -/
/- 181 PasskeyHouse.writeAgreeing()V -/
theorem s181_0 {d : Nat} {ls : mj_L} {st : List Value} {M : mj_H} : mj_Rn d mj_m181 0 ls st M = mq_k0 d mj_m181 1 ls M (mj_lda (mj_lk ls 0) st) := mj_R0 (r := (.aload_n 0, 1, 0, 0, 0)) rfl rfl
theorem s181_1 {d : Nat} {ls : mj_L} {st : List Value} {M : mj_H} : mj_Rn d mj_m181 1 ls st M = mq_k0 d mj_m181 4 ls M (mq_gf 10 1 st M) := (mj_R3 (r := (.getfield 18, 3, 10, 1, 8488)) rfl rfl).trans (congrArg (mq_k0 d mj_m181 4 ls M) mq_gf_eq)
theorem s181_4 {d : Nat} {ls : mj_L} {st : List Value} {M : mj_H} : mj_Rn (d + 1) mj_m181 4 ls st M = mq_k5a (d + 1) mj_m181 7 ls M 12 (mq_cb 0 0 1 st M) := mj_R5e (r := (.invokevirtual 73, 3, 0, 12, 4290)) (z := mj_m12) rfl rfl (by decide) (by decide) rfl
theorem s181_7 {d : Nat} {ls : mj_L} {st : List Value} {M : mj_H} : mj_Rn d mj_m181 7 ls st M = mq_k0 d mj_m181 8 ls M (mj_lda (mj_lk ls 0) st) := mj_R0 (r := (.aload_n 0, 1, 0, 0, 0)) rfl rfl
theorem s181_8 {d : Nat} {ls : mj_L} {st : List Value} {M : mj_H} : mj_Rn d mj_m181 8 ls st M = mq_k0 d mj_m181 11 ls M (mq_gf 10 1 st M) := (mj_R3 (r := (.getfield 18, 3, 10, 1, 8488)) rfl rfl).trans (congrArg (mq_k0 d mj_m181 11 ls M) mq_gf_eq)
theorem s181_11 {d : Nat} {ls : mj_L} {st : List Value} {M : mj_H} : mj_Rn d mj_m181 11 ls st M = mj_Rn d mj_m181 13 ls (.int 6 :: st) M := mj_R0 (r := (.bipush 6, 2, 0, 0, 0)) rfl rfl
theorem s181_13 {d : Nat} {ls : mj_L} {st : List Value} {M : mj_H} : mj_Rn (d + 1) mj_m181 13 ls st M = mq_k5a (d + 1) mj_m181 16 ls M 45 (mq_cb 0 1 1 st M) := mj_R5e (r := (.invokevirtual 190, 3, 0, 45, 20603)) (z := mj_m45) rfl rfl (by decide) (by decide) rfl
theorem s181_16 {d : Nat} {ls : mj_L} {st : List Value} {M : mj_H} : mj_Rn d mj_m181 16 ls st M = mq_k0 d mj_m181 17 ls M (mj_lda (mj_lk ls 0) st) := mj_R0 (r := (.aload_n 0, 1, 0, 0, 0)) rfl rfl
theorem s181_17 {d : Nat} {ls : mj_L} {st : List Value} {M : mj_H} : mj_Rn d mj_m181 17 ls st M = mq_k0 d mj_m181 20 ls M (mq_gf 10 1 st M) := (mj_R3 (r := (.getfield 18, 3, 10, 1, 8488)) rfl rfl).trans (congrArg (mq_k0 d mj_m181 20 ls M) mq_gf_eq)
theorem s181_20 {d : Nat} {ls : mj_L} {st : List Value} {M : mj_H} : mj_Rn d mj_m181 20 ls st M = mj_Rn d mj_m181 21 ls (.int 5 :: st) M := mj_R0 (r := (.iconst 5, 1, 0, 0, 0)) rfl rfl
theorem s181_21 {d : Nat} {ls : mj_L} {st : List Value} {M : mj_H} : mj_Rn d mj_m181 21 ls st M = mj_Rn d mj_m181 22 ls (.int 2 :: st) M := mj_R0 (r := (.iconst 2, 1, 0, 0, 0)) rfl rfl
theorem s181_22 {d : Nat} {ls : mj_L} {st : List Value} {M : mj_H} : mj_Rn (d + 1) mj_m181 22 ls st M = mq_k5a (d + 1) mj_m181 25 ls M 131 (mq_cb 0 2 1 st M) := mj_R5e (r := (.invokevirtual 353, 3, 0, 131, 20628)) (z := mj_m131) rfl rfl (by decide) (by decide) rfl
theorem s181_25 {d : Nat} {ls : mj_L} {st : List Value} {M : mj_H} : mj_Rn d mj_m181 25 ls st M = mq_k0 d mj_m181 26 ls M (mj_lda (mj_lk ls 0) st) := mj_R0 (r := (.aload_n 0, 1, 0, 0, 0)) rfl rfl
theorem s181_26 {d : Nat} {ls : mj_L} {st : List Value} {M : mj_H} : mj_Rn d mj_m181 26 ls st M = mq_k0 d mj_m181 29 ls M (mq_gf 10 1 st M) := (mj_R3 (r := (.getfield 18, 3, 10, 1, 8488)) rfl rfl).trans (congrArg (mq_k0 d mj_m181 29 ls M) mq_gf_eq)
theorem s181_29 {d : Nat} {ls : mj_L} {st : List Value} {M : mj_H} : mj_Rn d mj_m181 29 ls st M = mj_Rn d mj_m181 30 ls (.int 1 :: st) M := mj_R0 (r := (.iconst 1, 1, 0, 0, 0)) rfl rfl
theorem s181_30 {d : Nat} {ls : mj_L} {st : List Value} {M : mj_H} : mj_Rn (d + 1) mj_m181 30 ls st M = mq_k5a (d + 1) mj_m181 33 ls M 45 (mq_cb 0 1 1 st M) := mj_R5e (r := (.invokevirtual 190, 3, 0, 45, 20603)) (z := mj_m45) rfl rfl (by decide) (by decide) rfl
theorem s181_33 {d : Nat} {ls : mj_L} {st : List Value} {M : mj_H} : mj_Rn d mj_m181 33 ls st M = mq_k0 d mj_m181 34 ls M (mj_lda (mj_lk ls 0) st) := mj_R0 (r := (.aload_n 0, 1, 0, 0, 0)) rfl rfl
theorem s181_34 {d : Nat} {ls : mj_L} {st : List Value} {M : mj_H} : mj_Rn d mj_m181 34 ls st M = mq_k0 d mj_m181 37 ls M (mq_gf 10 1 st M) := (mj_R3 (r := (.getfield 18, 3, 10, 1, 8488)) rfl rfl).trans (congrArg (mq_k0 d mj_m181 37 ls M) mq_gf_eq)
theorem s181_37 {d : Nat} {ls : mj_L} {st : List Value} {M : mj_H} : mj_Rn d mj_m181 37 ls st M = mj_Rn d mj_m181 38 ls (.int 1 :: st) M := mj_R0 (r := (.iconst 1, 1, 0, 0, 0)) rfl rfl
theorem s181_38 {d : Nat} {ls : mj_L} {st : List Value} {M : mj_H} : mj_Rn (d + 1) mj_m181 38 ls st M = mq_k5a (d + 1) mj_m181 41 ls M 45 (mq_cb 0 1 1 st M) := mj_R5e (r := (.invokevirtual 190, 3, 0, 45, 20603)) (z := mj_m45) rfl rfl (by decide) (by decide) rfl
theorem s181_41 {d : Nat} {ls : mj_L} {st : List Value} {M : mj_H} : mj_Rn d mj_m181 41 ls st M = mq_k0 d mj_m181 42 ls M (mj_lda (mj_lk ls 0) st) := mj_R0 (r := (.aload_n 0, 1, 0, 0, 0)) rfl rfl
theorem s181_42 {d : Nat} {ls : mj_L} {st : List Value} {M : mj_H} : mj_Rn d mj_m181 42 ls st M = mq_k0 d mj_m181 45 ls M (mq_gf 10 1 st M) := (mj_R3 (r := (.getfield 18, 3, 10, 1, 8488)) rfl rfl).trans (congrArg (mq_k0 d mj_m181 45 ls M) mq_gf_eq)
theorem s181_45 {d : Nat} {ls : mj_L} {st : List Value} {M : mj_H} : mj_Rn d mj_m181 45 ls st M = mj_Rn d mj_m181 46 ls (.int 2 :: st) M := mj_R0 (r := (.iconst 2, 1, 0, 0, 0)) rfl rfl
theorem s181_46 {d : Nat} {ls : mj_L} {st : List Value} {M : mj_H} : mj_Rn (d + 1) mj_m181 46 ls st M = mq_k5a (d + 1) mj_m181 49 ls M 45 (mq_cb 0 1 1 st M) := mj_R5e (r := (.invokevirtual 190, 3, 0, 45, 20603)) (z := mj_m45) rfl rfl (by decide) (by decide) rfl
theorem s181_49 {d : Nat} {ls : mj_L} {st : List Value} {M : mj_H} : mj_Rn d mj_m181 49 ls st M = mq_k0 d mj_m181 50 ls M (mj_lda (mj_lk ls 0) st) := mj_R0 (r := (.aload_n 0, 1, 0, 0, 0)) rfl rfl
theorem s181_50 {d : Nat} {ls : mj_L} {st : List Value} {M : mj_H} : mj_Rn d mj_m181 50 ls st M = mq_k0 d mj_m181 53 ls M (mq_gf 10 1 st M) := (mj_R3 (r := (.getfield 18, 3, 10, 1, 8488)) rfl rfl).trans (congrArg (mq_k0 d mj_m181 53 ls M) mq_gf_eq)
theorem s181_53 {d : Nat} {ls : mj_L} {st : List Value} {M : mj_H} : mj_Rn d mj_m181 53 ls st M = mj_Rn d mj_m181 54 ls (.int 2 :: st) M := mj_R0 (r := (.iconst 2, 1, 0, 0, 0)) rfl rfl
theorem s181_54 {d : Nat} {ls : mj_L} {st : List Value} {M : mj_H} : mj_Rn (d + 1) mj_m181 54 ls st M = mq_k5a (d + 1) mj_m181 57 ls M 45 (mq_cb 0 1 1 st M) := mj_R5e (r := (.invokevirtual 190, 3, 0, 45, 20603)) (z := mj_m45) rfl rfl (by decide) (by decide) rfl
theorem s181_57 {d : Nat} {ls : mj_L} {st : List Value} {M : mj_H} : mj_Rn d mj_m181 57 ls st M = mq_k6 M (mj_re none (.return_) st) := mj_R6 (r := (.return_, 1, 0, 0, 0)) rfl rfl
/- 182 PasskeyHouse.agreeWithAnswer(LPasskeyHouse$Hand;LPasskeyHouse$Bytes;)V -/
theorem s182_0 {d : Nat} {ls : mj_L} {st : List Value} {M : mj_H} : mj_Rn d mj_m182 0 ls st M = mq_k0 d mj_m182 1 ls M (mj_lda (mj_lk ls 0) st) := mj_R0 (r := (.aload_n 0, 1, 0, 0, 0)) rfl rfl
theorem s182_1 {d : Nat} {ls : mj_L} {st : List Value} {M : mj_H} : mj_Rn d mj_m182 1 ls st M = mq_k0 d mj_m182 2 ls M (mj_lda (mj_lk ls 1) st) := mj_R0 (r := (.aload_n 1, 1, 0, 0, 0)) rfl rfl
theorem s182_2 {d : Nat} {ls : mj_L} {st : List Value} {M : mj_H} : mj_Rn d mj_m182 2 ls st M = mq_k0 d mj_m182 3 ls M (mj_lda (mj_lk ls 0) st) := mj_R0 (r := (.aload_n 0, 1, 0, 0, 0)) rfl rfl
theorem s182_3 {d : Nat} {ls : mj_L} {st : List Value} {M : mj_H} : mj_Rn d mj_m182 3 ls st M = mq_k0 d mj_m182 6 ls M (mq_gf 10 2 st M) := (mj_R3 (r := (.getfield 24, 3, 10, 2, 8490)) rfl rfl).trans (congrArg (mq_k0 d mj_m182 6 ls M) mq_gf_eq)
theorem s182_6 {d : Nat} {ls : mj_L} {st : List Value} {M : mj_H} : mj_Rn d mj_m182 6 ls st M = mq_k0 d mj_m182 7 ls M (mj_lda (mj_lk ls 2) st) := mj_R0 (r := (.aload_n 2, 1, 0, 0, 0)) rfl rfl
theorem s182_7 {d : Nat} {ls : mj_L} {st : List Value} {M : mj_H} : mj_Rn d mj_m182 7 ls st M = mj_Rn d mj_m182 8 ls (.int 4 :: st) M := mj_R0 (r := (.iconst 4, 1, 0, 0, 0)) rfl rfl
theorem s182_8 {d : Nat} {ls : mj_L} {st : List Value} {M : mj_H} : mj_Rn (d + 1) mj_m182 8 ls st M = mq_k5a (d + 1) mj_m182 11 ls M 53 (mq_cb 0 1 1 st M) := mj_R5e (r := (.invokevirtual 228, 3, 0, 53, 20633)) (z := mj_m53) rfl rfl (by decide) (by decide) rfl
theorem s182_11 {d : Nat} {ls : mj_L} {st : List Value} {M : mj_H} : mj_Rn (d + 1) mj_m182 11 ls st M = mq_k5a (d + 1) mj_m182 14 ls M 145 (mq_cb 0 1 9 st M) := mj_R5e (r := (.invokevirtual 157, 3, 0, 145, 20576)) (z := mj_m145) rfl rfl (by decide) (by decide) rfl
theorem s182_14 {d : Nat} {ls : mj_L} {st : List Value} {M : mj_H} : mj_Rn (d + 1) mj_m182 14 ls st M = mq_k5a (d + 1) mj_m182 17 ls M 171 (mq_cb 0 2 10 st M) := mj_R5e (r := (.invokevirtual 163, 3, 0, 171, 20577)) (z := mj_m171) rfl rfl (by decide) (by decide) rfl
theorem s182_17 {d : Nat} {ls : mj_L} {st : List Value} {M : mj_H} : mj_Rn d mj_m182 17 ls st M = mq_k6 M (mj_re none (.return_) st) := mj_R6 (r := (.return_, 1, 0, 0, 0)) rfl rfl
/- 183 PasskeyHouse.encrypted(LPasskeyHouse$Hand;LPasskeyHouse$Bytes;I)I -/
theorem s183_0 {d : Nat} {ls : mj_L} {st : List Value} {M : mj_H} : mj_Rn d mj_m183 0 ls st M = mq_k0 d mj_m183 1 ls M (mj_lda (mj_lk ls 0) st) := mj_R0 (r := (.aload_n 0, 1, 0, 0, 0)) rfl rfl
theorem s183_1 {d : Nat} {ls : mj_L} {st : List Value} {M : mj_H} : mj_Rn d mj_m183 1 ls st M = mq_k0 d mj_m183 4 ls M (mq_gf 10 2 st M) := (mj_R3 (r := (.getfield 24, 3, 10, 2, 8490)) rfl rfl).trans (congrArg (mq_k0 d mj_m183 4 ls M) mq_gf_eq)
theorem s183_4 {d : Nat} {ls : mj_L} {st : List Value} {M : mj_H} : mj_Rn d mj_m183 4 ls st M = mj_Rn d mj_m183 5 ls (.int 4 :: st) M := mj_R0 (r := (.iconst 4, 1, 0, 0, 0)) rfl rfl
theorem s183_5 {d : Nat} {ls : mj_L} {st : List Value} {M : mj_H} : mj_Rn (d + 1) mj_m183 5 ls st M = mq_k5a (d + 1) mj_m183 8 ls M 28 (mq_cb 0 1 9 st M) := mj_R5e (r := (.invokevirtual 173, 3, 0, 28, 20595)) (z := mj_m28) rfl rfl (by decide) (by decide) rfl
theorem s183_8 {d : Nat} {ls : mj_L} {st : List Value} {M : mj_H} : mj_Rn d mj_m183 8 ls st M = mq_k0 d mj_m183 9 ls M (mj_lda (mj_lk ls 0) st) := mj_R0 (r := (.aload_n 0, 1, 0, 0, 0)) rfl rfl
theorem s183_9 {d : Nat} {ls : mj_L} {st : List Value} {M : mj_H} : mj_Rn d mj_m183 9 ls st M = mq_k0 d mj_m183 12 ls M (mq_gf 10 2 st M) := (mj_R3 (r := (.getfield 24, 3, 10, 2, 8490)) rfl rfl).trans (congrArg (mq_k0 d mj_m183 12 ls M) mq_gf_eq)
theorem s183_12 {d : Nat} {ls : mj_L} {st : List Value} {M : mj_H} : mj_Rn d mj_m183 12 ls st M = mq_k0 d mj_m183 13 ls M (mj_lda (mj_lk ls 1) st) := mj_R0 (r := (.aload_n 1, 1, 0, 0, 0)) rfl rfl
theorem s183_13 {d : Nat} {ls : mj_L} {st : List Value} {M : mj_H} : mj_Rn d mj_m183 13 ls st M = mq_k0 d mj_m183 16 ls M (mq_gf 3 3 st M) := (mj_R3 (r := (.getfield 184, 3, 3, 3, 8455)) rfl rfl).trans (congrArg (mq_k0 d mj_m183 16 ls M) mq_gf_eq)
theorem s183_16 {d : Nat} {ls : mj_L} {st : List Value} {M : mj_H} : mj_Rn (d + 1) mj_m183 16 ls st M = mq_k5a (d + 1) mj_m183 19 ls M 29 (mq_cb 0 1 9 st M) := mj_R5e (r := (.invokevirtual 175, 3, 0, 29, 20596)) (z := mj_m29) rfl rfl (by decide) (by decide) rfl
theorem s183_19 {d : Nat} {ls : mj_L} {st : List Value} {M : mj_H} : mj_Rn d mj_m183 19 ls st M = mq_k0 d mj_m183 20 ls M (mj_lda (mj_lk ls 0) st) := mj_R0 (r := (.aload_n 0, 1, 0, 0, 0)) rfl rfl
theorem s183_20 {d : Nat} {ls : mj_L} {st : List Value} {M : mj_H} : mj_Rn d mj_m183 20 ls st M = mq_k0 d mj_m183 23 ls M (mq_gf 10 2 st M) := (mj_R3 (r := (.getfield 24, 3, 10, 2, 8490)) rfl rfl).trans (congrArg (mq_k0 d mj_m183 23 ls M) mq_gf_eq)
theorem s183_23 {d : Nat} {ls : mj_L} {st : List Value} {M : mj_H} : mj_Rn d mj_m183 23 ls st M = mq_k0 d mj_m183 24 ls M (mj_lda (mj_lk ls 2) st) := mj_R0 (r := (.aload_n 2, 1, 0, 0, 0)) rfl rfl
theorem s183_24 {d : Nat} {ls : mj_L} {st : List Value} {M : mj_H} : mj_Rn d mj_m183 24 ls st M = mj_Rn d mj_m183 25 ls (.int 0 :: st) M := mj_R0 (r := (.iconst 0, 1, 0, 0, 0)) rfl rfl
theorem s183_25 {d : Nat} {ls : mj_L} {st : List Value} {M : mj_H} : mj_Rn d mj_m183 25 ls st M = mq_k0 d mj_m183 26 ls M (mj_ldi (mj_lk ls 3) st) := mj_R0 (r := (.iload_n 3, 1, 0, 0, 0)) rfl rfl
theorem s183_26 {d : Nat} {ls : mj_L} {st : List Value} {M : mj_H} : mj_Rn (d + 1) mj_m183 26 ls st M = mq_k5a (d + 1) mj_m183 29 ls M 113 (mq_cb 0 3 9 st M) := mj_R5e (r := (.invokevirtual 178, 3, 0, 113, 20597)) (z := mj_m113) rfl rfl (by decide) (by decide) rfl
theorem s183_29 {d : Nat} {ls : mj_L} {st : List Value} {M : mj_H} : mj_Rn d mj_m183 29 ls st M = mq_k0 d mj_m183 30 ls M (mj_lda (mj_lk ls 0) st) := mj_R0 (r := (.aload_n 0, 1, 0, 0, 0)) rfl rfl
theorem s183_30 {d : Nat} {ls : mj_L} {st : List Value} {M : mj_H} : mj_Rn d mj_m183 30 ls st M = mq_k0 d mj_m183 33 ls M (mq_gf 10 2 st M) := (mj_R3 (r := (.getfield 24, 3, 10, 2, 8490)) rfl rfl).trans (congrArg (mq_k0 d mj_m183 33 ls M) mq_gf_eq)
theorem s183_33 {d : Nat} {ls : mj_L} {st : List Value} {M : mj_H} : mj_Rn (d + 1) mj_m183 33 ls st M = mq_k5a (d + 1) mj_m183 36 ls M 30 (mq_cb 0 0 9 st M) := mj_R5e (r := (.invokevirtual 181, 3, 0, 30, 20582)) (z := mj_m30) rfl rfl (by decide) (by decide) rfl
theorem s183_36 {d : Nat} {ls : mj_L} {st : List Value} {M : mj_H} : mj_Rn d mj_m183 36 ls st M = mq_k6 M (mj_re (some .int) (.ireturn) st) := mj_R6 (r := (.ireturn, 1, 0, 0, 0)) rfl rfl
/- 184 PasskeyHouse.proofOf(LPasskeyHouse$Hand;II)I -/
theorem s184_0 {d : Nat} {ls : mj_L} {st : List Value} {M : mj_H} : mj_Rn d mj_m184 0 ls st M = mq_k0 d mj_m184 1 ls M (mj_lda (mj_lk ls 0) st) := mj_R0 (r := (.aload_n 0, 1, 0, 0, 0)) rfl rfl
theorem s184_1 {d : Nat} {ls : mj_L} {st : List Value} {M : mj_H} : mj_Rn d mj_m184 1 ls st M = mq_k0 d mj_m184 4 ls M (mq_gf 10 2 st M) := (mj_R3 (r := (.getfield 24, 3, 10, 2, 8490)) rfl rfl).trans (congrArg (mq_k0 d mj_m184 4 ls M) mq_gf_eq)
theorem s184_4 {d : Nat} {ls : mj_L} {st : List Value} {M : mj_H} : mj_Rn d mj_m184 4 ls st M = mj_Rn d mj_m184 5 ls (.int 5 :: st) M := mj_R0 (r := (.iconst 5, 1, 0, 0, 0)) rfl rfl
theorem s184_5 {d : Nat} {ls : mj_L} {st : List Value} {M : mj_H} : mj_Rn (d + 1) mj_m184 5 ls st M = mq_k5a (d + 1) mj_m184 8 ls M 28 (mq_cb 0 1 9 st M) := mj_R5e (r := (.invokevirtual 173, 3, 0, 28, 20595)) (z := mj_m28) rfl rfl (by decide) (by decide) rfl
theorem s184_8 {d : Nat} {ls : mj_L} {st : List Value} {M : mj_H} : mj_Rn d mj_m184 8 ls st M = mq_k0 d mj_m184 9 ls M (mj_lda (mj_lk ls 0) st) := mj_R0 (r := (.aload_n 0, 1, 0, 0, 0)) rfl rfl
theorem s184_9 {d : Nat} {ls : mj_L} {st : List Value} {M : mj_H} : mj_Rn d mj_m184 9 ls st M = mq_k0 d mj_m184 12 ls M (mq_gf 10 2 st M) := (mj_R3 (r := (.getfield 24, 3, 10, 2, 8490)) rfl rfl).trans (congrArg (mq_k0 d mj_m184 12 ls M) mq_gf_eq)
theorem s184_12 {d : Nat} {ls : mj_L} {st : List Value} {M : mj_H} : mj_Rn d mj_m184 12 ls st M = mq_k0 d mj_m184 13 ls M (mj_lda (mj_lk ls 1) st) := mj_R0 (r := (.aload_n 1, 1, 0, 0, 0)) rfl rfl
theorem s184_13 {d : Nat} {ls : mj_L} {st : List Value} {M : mj_H} : mj_Rn d mj_m184 13 ls st M = mq_k0 d mj_m184 16 ls M (mq_gf 3 3 st M) := (mj_R3 (r := (.getfield 184, 3, 3, 3, 8455)) rfl rfl).trans (congrArg (mq_k0 d mj_m184 16 ls M) mq_gf_eq)
theorem s184_16 {d : Nat} {ls : mj_L} {st : List Value} {M : mj_H} : mj_Rn (d + 1) mj_m184 16 ls st M = mq_k5a (d + 1) mj_m184 19 ls M 29 (mq_cb 0 1 9 st M) := mj_R5e (r := (.invokevirtual 175, 3, 0, 29, 20596)) (z := mj_m29) rfl rfl (by decide) (by decide) rfl
theorem s184_19 {d : Nat} {ls : mj_L} {st : List Value} {M : mj_H} : mj_Rn d mj_m184 19 ls st M = mq_k0 d mj_m184 20 ls M (mj_lda (mj_lk ls 0) st) := mj_R0 (r := (.aload_n 0, 1, 0, 0, 0)) rfl rfl
theorem s184_20 {d : Nat} {ls : mj_L} {st : List Value} {M : mj_H} : mj_Rn d mj_m184 20 ls st M = mq_k0 d mj_m184 23 ls M (mq_gf 10 2 st M) := (mj_R3 (r := (.getfield 24, 3, 10, 2, 8490)) rfl rfl).trans (congrArg (mq_k0 d mj_m184 23 ls M) mq_gf_eq)
theorem s184_23 {d : Nat} {ls : mj_L} {st : List Value} {M : mj_H} : mj_Rn d mj_m184 23 ls st M = mq_k0 d mj_m184 24 ls M (mj_ldi (mj_lk ls 2) st) := mj_R0 (r := (.iload_n 2, 1, 0, 0, 0)) rfl rfl
theorem s184_24 {d : Nat} {ls : mj_L} {st : List Value} {M : mj_H} : mj_Rn (d + 1) mj_m184 24 ls st M = mq_k5a (d + 1) mj_m184 27 ls M 122 (mq_cb 0 1 9 st M) := mj_R5e (r := (.invokevirtual 356, 3, 0, 122, 20642)) (z := mj_m122) rfl rfl (by decide) (by decide) rfl
theorem s184_27 {d : Nat} {ls : mj_L} {st : List Value} {M : mj_H} : mj_Rn d mj_m184 27 ls st M = mq_k0 d mj_m184 28 ls M (mj_ldi (mj_lk ls 3) st) := mj_R0 (r := (.iload_n 3, 1, 0, 0, 0)) rfl rfl
theorem s184_28 {d : Nat} {ls : mj_L} {st : List Value} {M : mj_H} : mj_Rn d mj_m184 28 ls st M = mq_k2 d mj_m184 ls M (mj_br (.ifCond .eq 11) 28 st) := mj_R2 (r := (.ifCond .eq 11, 3, 0, 0, 0)) rfl rfl
theorem s184_31 {d : Nat} {ls : mj_L} {st : List Value} {M : mj_H} : mj_Rn d mj_m184 31 ls st M = mq_k0 d mj_m184 32 ls M (mj_lda (mj_lk ls 0) st) := mj_R0 (r := (.aload_n 0, 1, 0, 0, 0)) rfl rfl
theorem s184_32 {d : Nat} {ls : mj_L} {st : List Value} {M : mj_H} : mj_Rn d mj_m184 32 ls st M = mq_k0 d mj_m184 35 ls M (mq_gf 10 2 st M) := (mj_R3 (r := (.getfield 24, 3, 10, 2, 8490)) rfl rfl).trans (congrArg (mq_k0 d mj_m184 35 ls M) mq_gf_eq)
theorem s184_35 {d : Nat} {ls : mj_L} {st : List Value} {M : mj_H} : mj_Rn d mj_m184 35 ls st M = mq_k0 d mj_m184 36 ls M (mj_ldi (mj_lk ls 3) st) := mj_R0 (r := (.iload_n 3, 1, 0, 0, 0)) rfl rfl
theorem s184_36 {d : Nat} {ls : mj_L} {st : List Value} {M : mj_H} : mj_Rn (d + 1) mj_m184 36 ls st M = mq_k5a (d + 1) mj_m184 39 ls M 122 (mq_cb 0 1 9 st M) := mj_R5e (r := (.invokevirtual 356, 3, 0, 122, 20642)) (z := mj_m122) rfl rfl (by decide) (by decide) rfl
theorem s184_39 {d : Nat} {ls : mj_L} {st : List Value} {M : mj_H} : mj_Rn d mj_m184 39 ls st M = mq_k0 d mj_m184 40 ls M (mj_lda (mj_lk ls 0) st) := mj_R0 (r := (.aload_n 0, 1, 0, 0, 0)) rfl rfl
theorem s184_40 {d : Nat} {ls : mj_L} {st : List Value} {M : mj_H} : mj_Rn d mj_m184 40 ls st M = mq_k0 d mj_m184 43 ls M (mq_gf 10 2 st M) := (mj_R3 (r := (.getfield 24, 3, 10, 2, 8490)) rfl rfl).trans (congrArg (mq_k0 d mj_m184 43 ls M) mq_gf_eq)
theorem s184_43 {d : Nat} {ls : mj_L} {st : List Value} {M : mj_H} : mj_Rn (d + 1) mj_m184 43 ls st M = mq_k5a (d + 1) mj_m184 46 ls M 30 (mq_cb 0 0 9 st M) := mj_R5e (r := (.invokevirtual 181, 3, 0, 30, 20582)) (z := mj_m30) rfl rfl (by decide) (by decide) rfl
theorem s184_46 {d : Nat} {ls : mj_L} {st : List Value} {M : mj_H} : mj_Rn d mj_m184 46 ls st M = mq_k6 M (mj_re (some .int) (.ireturn) st) := mj_R6 (r := (.ireturn, 1, 0, 0, 0)) rfl rfl
/- 185 PasskeyHouse.beginPinMessage(III)V -/
theorem s185_0 {d : Nat} {ls : mj_L} {st : List Value} {M : mj_H} : mj_Rn d mj_m185 0 ls st M = mq_k0 d mj_m185 1 ls M (mj_lda (mj_lk ls 0) st) := mj_R0 (r := (.aload_n 0, 1, 0, 0, 0)) rfl rfl
theorem s185_1 {d : Nat} {ls : mj_L} {st : List Value} {M : mj_H} : mj_Rn d mj_m185 1 ls st M = mq_k0 d mj_m185 4 ls M (mq_gf 10 1 st M) := (mj_R3 (r := (.getfield 18, 3, 10, 1, 8488)) rfl rfl).trans (congrArg (mq_k0 d mj_m185 4 ls M) mq_gf_eq)
theorem s185_4 {d : Nat} {ls : mj_L} {st : List Value} {M : mj_H} : mj_Rn (d + 1) mj_m185 4 ls st M = mq_k5a (d + 1) mj_m185 7 ls M 12 (mq_cb 0 0 1 st M) := mj_R5e (r := (.invokevirtual 73, 3, 0, 12, 4290)) (z := mj_m12) rfl rfl (by decide) (by decide) rfl
theorem s185_7 {d : Nat} {ls : mj_L} {st : List Value} {M : mj_H} : mj_Rn d mj_m185 7 ls st M = mq_k0 d mj_m185 8 ls M (mj_lda (mj_lk ls 0) st) := mj_R0 (r := (.aload_n 0, 1, 0, 0, 0)) rfl rfl
theorem s185_8 {d : Nat} {ls : mj_L} {st : List Value} {M : mj_H} : mj_Rn d mj_m185 8 ls st M = mq_k0 d mj_m185 11 ls M (mq_gf 10 1 st M) := (mj_R3 (r := (.getfield 18, 3, 10, 1, 8488)) rfl rfl).trans (congrArg (mq_k0 d mj_m185 11 ls M) mq_gf_eq)
theorem s185_11 {d : Nat} {ls : mj_L} {st : List Value} {M : mj_H} : mj_Rn d mj_m185 11 ls st M = mj_Rn d mj_m185 13 ls (.int 6 :: st) M := mj_R0 (r := (.bipush 6, 2, 0, 0, 0)) rfl rfl
theorem s185_13 {d : Nat} {ls : mj_L} {st : List Value} {M : mj_H} : mj_Rn (d + 1) mj_m185 13 ls st M = mq_k5a (d + 1) mj_m185 16 ls M 45 (mq_cb 0 1 1 st M) := mj_R5e (r := (.invokevirtual 190, 3, 0, 45, 20603)) (z := mj_m45) rfl rfl (by decide) (by decide) rfl
theorem s185_16 {d : Nat} {ls : mj_L} {st : List Value} {M : mj_H} : mj_Rn d mj_m185 16 ls st M = mq_k0 d mj_m185 17 ls M (mj_lda (mj_lk ls 0) st) := mj_R0 (r := (.aload_n 0, 1, 0, 0, 0)) rfl rfl
theorem s185_17 {d : Nat} {ls : mj_L} {st : List Value} {M : mj_H} : mj_Rn d mj_m185 17 ls st M = mq_k0 d mj_m185 20 ls M (mq_gf 10 1 st M) := (mj_R3 (r := (.getfield 18, 3, 10, 1, 8488)) rfl rfl).trans (congrArg (mq_k0 d mj_m185 20 ls M) mq_gf_eq)
theorem s185_20 {d : Nat} {ls : mj_L} {st : List Value} {M : mj_H} : mj_Rn d mj_m185 20 ls st M = mj_Rn d mj_m185 21 ls (.int 5 :: st) M := mj_R0 (r := (.iconst 5, 1, 0, 0, 0)) rfl rfl
theorem s185_21 {d : Nat} {ls : mj_L} {st : List Value} {M : mj_H} : mj_Rn d mj_m185 21 ls st M = mq_k0 d mj_m185 22 ls M (mj_ldi (mj_lk ls 3) st) := mj_R0 (r := (.iload_n 3, 1, 0, 0, 0)) rfl rfl
theorem s185_22 {d : Nat} {ls : mj_L} {st : List Value} {M : mj_H} : mj_Rn (d + 1) mj_m185 22 ls st M = mq_k5a (d + 1) mj_m185 25 ls M 131 (mq_cb 0 2 1 st M) := mj_R5e (r := (.invokevirtual 353, 3, 0, 131, 20628)) (z := mj_m131) rfl rfl (by decide) (by decide) rfl
theorem s185_25 {d : Nat} {ls : mj_L} {st : List Value} {M : mj_H} : mj_Rn d mj_m185 25 ls st M = mq_k0 d mj_m185 26 ls M (mj_lda (mj_lk ls 0) st) := mj_R0 (r := (.aload_n 0, 1, 0, 0, 0)) rfl rfl
theorem s185_26 {d : Nat} {ls : mj_L} {st : List Value} {M : mj_H} : mj_Rn d mj_m185 26 ls st M = mq_k0 d mj_m185 29 ls M (mq_gf 10 1 st M) := (mj_R3 (r := (.getfield 18, 3, 10, 1, 8488)) rfl rfl).trans (congrArg (mq_k0 d mj_m185 29 ls M) mq_gf_eq)
theorem s185_29 {d : Nat} {ls : mj_L} {st : List Value} {M : mj_H} : mj_Rn d mj_m185 29 ls st M = mj_Rn d mj_m185 30 ls (.int 1 :: st) M := mj_R0 (r := (.iconst 1, 1, 0, 0, 0)) rfl rfl
theorem s185_30 {d : Nat} {ls : mj_L} {st : List Value} {M : mj_H} : mj_Rn (d + 1) mj_m185 30 ls st M = mq_k5a (d + 1) mj_m185 33 ls M 45 (mq_cb 0 1 1 st M) := mj_R5e (r := (.invokevirtual 190, 3, 0, 45, 20603)) (z := mj_m45) rfl rfl (by decide) (by decide) rfl
theorem s185_33 {d : Nat} {ls : mj_L} {st : List Value} {M : mj_H} : mj_Rn d mj_m185 33 ls st M = mq_k0 d mj_m185 34 ls M (mj_lda (mj_lk ls 0) st) := mj_R0 (r := (.aload_n 0, 1, 0, 0, 0)) rfl rfl
theorem s185_34 {d : Nat} {ls : mj_L} {st : List Value} {M : mj_H} : mj_Rn d mj_m185 34 ls st M = mq_k0 d mj_m185 37 ls M (mq_gf 10 1 st M) := (mj_R3 (r := (.getfield 18, 3, 10, 1, 8488)) rfl rfl).trans (congrArg (mq_k0 d mj_m185 37 ls M) mq_gf_eq)
theorem s185_37 {d : Nat} {ls : mj_L} {st : List Value} {M : mj_H} : mj_Rn d mj_m185 37 ls st M = mj_Rn d mj_m185 38 ls (.int 1 :: st) M := mj_R0 (r := (.iconst 1, 1, 0, 0, 0)) rfl rfl
theorem s185_38 {d : Nat} {ls : mj_L} {st : List Value} {M : mj_H} : mj_Rn (d + 1) mj_m185 38 ls st M = mq_k5a (d + 1) mj_m185 41 ls M 45 (mq_cb 0 1 1 st M) := mj_R5e (r := (.invokevirtual 190, 3, 0, 45, 20603)) (z := mj_m45) rfl rfl (by decide) (by decide) rfl
theorem s185_41 {d : Nat} {ls : mj_L} {st : List Value} {M : mj_H} : mj_Rn d mj_m185 41 ls st M = mq_k0 d mj_m185 42 ls M (mj_lda (mj_lk ls 0) st) := mj_R0 (r := (.aload_n 0, 1, 0, 0, 0)) rfl rfl
theorem s185_42 {d : Nat} {ls : mj_L} {st : List Value} {M : mj_H} : mj_Rn d mj_m185 42 ls st M = mq_k0 d mj_m185 45 ls M (mq_gf 10 1 st M) := (mj_R3 (r := (.getfield 18, 3, 10, 1, 8488)) rfl rfl).trans (congrArg (mq_k0 d mj_m185 45 ls M) mq_gf_eq)
theorem s185_45 {d : Nat} {ls : mj_L} {st : List Value} {M : mj_H} : mj_Rn d mj_m185 45 ls st M = mj_Rn d mj_m185 46 ls (.int 2 :: st) M := mj_R0 (r := (.iconst 2, 1, 0, 0, 0)) rfl rfl
theorem s185_46 {d : Nat} {ls : mj_L} {st : List Value} {M : mj_H} : mj_Rn (d + 1) mj_m185 46 ls st M = mq_k5a (d + 1) mj_m185 49 ls M 45 (mq_cb 0 1 1 st M) := mj_R5e (r := (.invokevirtual 190, 3, 0, 45, 20603)) (z := mj_m45) rfl rfl (by decide) (by decide) rfl
theorem s185_49 {d : Nat} {ls : mj_L} {st : List Value} {M : mj_H} : mj_Rn d mj_m185 49 ls st M = mq_k0 d mj_m185 50 ls M (mj_lda (mj_lk ls 0) st) := mj_R0 (r := (.aload_n 0, 1, 0, 0, 0)) rfl rfl
theorem s185_50 {d : Nat} {ls : mj_L} {st : List Value} {M : mj_H} : mj_Rn d mj_m185 50 ls st M = mq_k0 d mj_m185 53 ls M (mq_gf 10 1 st M) := (mj_R3 (r := (.getfield 18, 3, 10, 1, 8488)) rfl rfl).trans (congrArg (mq_k0 d mj_m185 53 ls M) mq_gf_eq)
theorem s185_53 {d : Nat} {ls : mj_L} {st : List Value} {M : mj_H} : mj_Rn d mj_m185 53 ls st M = mq_k0 d mj_m185 54 ls M (mj_ldi (mj_lk ls 1) st) := mj_R0 (r := (.iload_n 1, 1, 0, 0, 0)) rfl rfl
theorem s185_54 {d : Nat} {ls : mj_L} {st : List Value} {M : mj_H} : mj_Rn (d + 1) mj_m185 54 ls st M = mq_k5a (d + 1) mj_m185 57 ls M 45 (mq_cb 0 1 1 st M) := mj_R5e (r := (.invokevirtual 190, 3, 0, 45, 20603)) (z := mj_m45) rfl rfl (by decide) (by decide) rfl
theorem s185_57 {d : Nat} {ls : mj_L} {st : List Value} {M : mj_H} : mj_Rn d mj_m185 57 ls st M = mq_k0 d mj_m185 58 ls M (mj_lda (mj_lk ls 0) st) := mj_R0 (r := (.aload_n 0, 1, 0, 0, 0)) rfl rfl
theorem s185_58 {d : Nat} {ls : mj_L} {st : List Value} {M : mj_H} : mj_Rn d mj_m185 58 ls st M = mq_k0 d mj_m185 61 ls M (mq_gf 10 1 st M) := (mj_R3 (r := (.getfield 18, 3, 10, 1, 8488)) rfl rfl).trans (congrArg (mq_k0 d mj_m185 61 ls M) mq_gf_eq)
theorem s185_61 {d : Nat} {ls : mj_L} {st : List Value} {M : mj_H} : mj_Rn d mj_m185 61 ls st M = mj_Rn d mj_m185 62 ls (.int 3 :: st) M := mj_R0 (r := (.iconst 3, 1, 0, 0, 0)) rfl rfl
theorem s185_62 {d : Nat} {ls : mj_L} {st : List Value} {M : mj_H} : mj_Rn (d + 1) mj_m185 62 ls st M = mq_k5a (d + 1) mj_m185 65 ls M 45 (mq_cb 0 1 1 st M) := mj_R5e (r := (.invokevirtual 190, 3, 0, 45, 20603)) (z := mj_m45) rfl rfl (by decide) (by decide) rfl
theorem s185_65 {d : Nat} {ls : mj_L} {st : List Value} {M : mj_H} : mj_Rn d mj_m185 65 ls st M = mq_k0 d mj_m185 66 ls M (mj_lda (mj_lk ls 0) st) := mj_R0 (r := (.aload_n 0, 1, 0, 0, 0)) rfl rfl
theorem s185_66 {d : Nat} {ls : mj_L} {st : List Value} {M : mj_H} : mj_Rn d mj_m185 66 ls st M = mq_k0 d mj_m185 69 ls M (mq_gf 10 1 st M) := (mj_R3 (r := (.getfield 18, 3, 10, 1, 8488)) rfl rfl).trans (congrArg (mq_k0 d mj_m185 69 ls M) mq_gf_eq)
theorem s185_69 {d : Nat} {ls : mj_L} {st : List Value} {M : mj_H} : mj_Rn d mj_m185 69 ls st M = mq_k0 d mj_m185 70 ls M (mj_ldi (mj_lk ls 2) st) := mj_R0 (r := (.iload_n 2, 1, 0, 0, 0)) rfl rfl
theorem s185_70 {d : Nat} {ls : mj_L} {st : List Value} {M : mj_H} : mj_Rn (d + 1) mj_m185 70 ls st M = mq_k5a (d + 1) mj_m185 73 ls M 134 (mq_cb 0 1 1 st M) := mj_R5e (r := (.invokevirtual 222, 3, 0, 134, 20647)) (z := mj_m134) rfl rfl (by decide) (by decide) rfl
theorem s185_73 {d : Nat} {ls : mj_L} {st : List Value} {M : mj_H} : mj_Rn d mj_m185 73 ls st M = mq_k6 M (mj_re none (.return_) st) := mj_R6 (r := (.return_, 1, 0, 0, 0)) rfl rfl
/- 187 PasskeyHouse.encryptedHash(LPasskeyHouse$Hand;)I -/
theorem s187_0 {d : Nat} {ls : mj_L} {st : List Value} {M : mj_H} : mj_Rn d mj_m187 0 ls st M = mq_k0 d mj_m187 1 ls M (mj_lda (mj_lk ls 0) st) := mj_R0 (r := (.aload_n 0, 1, 0, 0, 0)) rfl rfl
theorem s187_1 {d : Nat} {ls : mj_L} {st : List Value} {M : mj_H} : mj_Rn d mj_m187 1 ls st M = mq_k0 d mj_m187 4 ls M (mq_gf 10 2 st M) := (mj_R3 (r := (.getfield 24, 3, 10, 2, 8490)) rfl rfl).trans (congrArg (mq_k0 d mj_m187 4 ls M) mq_gf_eq)
theorem s187_4 {d : Nat} {ls : mj_L} {st : List Value} {M : mj_H} : mj_Rn d mj_m187 4 ls st M = mj_Rn d mj_m187 6 ls (.int 7 :: st) M := mj_R0 (r := (.bipush 7, 2, 0, 0, 0)) rfl rfl
theorem s187_6 {d : Nat} {ls : mj_L} {st : List Value} {M : mj_H} : mj_Rn (d + 1) mj_m187 6 ls st M = mq_k5a (d + 1) mj_m187 9 ls M 28 (mq_cb 0 1 9 st M) := mj_R5e (r := (.invokevirtual 173, 3, 0, 28, 20595)) (z := mj_m28) rfl rfl (by decide) (by decide) rfl
theorem s187_9 {d : Nat} {ls : mj_L} {st : List Value} {M : mj_H} : mj_Rn d mj_m187 9 ls st M = mq_k0 d mj_m187 10 ls M (mj_lda (mj_lk ls 0) st) := mj_R0 (r := (.aload_n 0, 1, 0, 0, 0)) rfl rfl
theorem s187_10 {d : Nat} {ls : mj_L} {st : List Value} {M : mj_H} : mj_Rn d mj_m187 10 ls st M = mq_k0 d mj_m187 13 ls M (mq_gf 10 2 st M) := (mj_R3 (r := (.getfield 24, 3, 10, 2, 8490)) rfl rfl).trans (congrArg (mq_k0 d mj_m187 13 ls M) mq_gf_eq)
theorem s187_13 {d : Nat} {ls : mj_L} {st : List Value} {M : mj_H} : mj_Rn d mj_m187 13 ls st M = mq_k0 d mj_m187 14 ls M (mj_lda (mj_lk ls 1) st) := mj_R0 (r := (.aload_n 1, 1, 0, 0, 0)) rfl rfl
theorem s187_14 {d : Nat} {ls : mj_L} {st : List Value} {M : mj_H} : mj_Rn d mj_m187 14 ls st M = mq_k0 d mj_m187 17 ls M (mq_gf 3 0 st M) := (mj_R3 (r := (.getfield 197, 3, 3, 0, 8443)) rfl rfl).trans (congrArg (mq_k0 d mj_m187 17 ls M) mq_gf_eq)
theorem s187_17 {d : Nat} {ls : mj_L} {st : List Value} {M : mj_H} : mj_Rn d mj_m187 17 ls st M = mj_Rn d mj_m187 18 ls (.int 0 :: st) M := mj_R0 (r := (.iconst 0, 1, 0, 0, 0)) rfl rfl
theorem s187_18 {d : Nat} {ls : mj_L} {st : List Value} {M : mj_H} : mj_Rn d mj_m187 18 ls st M = mq_k0 d mj_m187 19 ls M (mj_lda (mj_lk ls 1) st) := mj_R0 (r := (.aload_n 1, 1, 0, 0, 0)) rfl rfl
theorem s187_19 {d : Nat} {ls : mj_L} {st : List Value} {M : mj_H} : mj_Rn d mj_m187 19 ls st M = mq_k0 d mj_m187 22 ls M (mq_gf 3 0 st M) := (mj_R3 (r := (.getfield 197, 3, 3, 0, 8443)) rfl rfl).trans (congrArg (mq_k0 d mj_m187 22 ls M) mq_gf_eq)
theorem s187_22 {d : Nat} {ls : mj_L} {st : List Value} {M : mj_H} : mj_Rn (d + 1) mj_m187 22 ls st M = mq_k5a (d + 1) mj_m187 25 ls M 9 (mq_cb 0 0 1 st M) := mj_R5e (r := (.invokevirtual 65, 3, 0, 9, 4278)) (z := mj_m9) rfl rfl (by decide) (by decide) rfl
theorem s187_25 {d : Nat} {ls : mj_L} {st : List Value} {M : mj_H} : mj_Rn (d + 1) mj_m187 25 ls st M = mq_k5a (d + 1) mj_m187 28 ls M 113 (mq_cb 0 3 9 st M) := mj_R5e (r := (.invokevirtual 178, 3, 0, 113, 20597)) (z := mj_m113) rfl rfl (by decide) (by decide) rfl
theorem s187_28 {d : Nat} {ls : mj_L} {st : List Value} {M : mj_H} : mj_Rn d mj_m187 28 ls st M = mq_k0 d mj_m187 29 ls M (mj_lda (mj_lk ls 0) st) := mj_R0 (r := (.aload_n 0, 1, 0, 0, 0)) rfl rfl
theorem s187_29 {d : Nat} {ls : mj_L} {st : List Value} {M : mj_H} : mj_Rn d mj_m187 29 ls st M = mq_k0 d mj_m187 32 ls M (mq_gf 10 2 st M) := (mj_R3 (r := (.getfield 24, 3, 10, 2, 8490)) rfl rfl).trans (congrArg (mq_k0 d mj_m187 32 ls M) mq_gf_eq)
theorem s187_32 {d : Nat} {ls : mj_L} {st : List Value} {M : mj_H} : mj_Rn (d + 1) mj_m187 32 ls st M = mq_k5a (d + 1) mj_m187 35 ls M 30 (mq_cb 0 0 9 st M) := mj_R5e (r := (.invokevirtual 181, 3, 0, 30, 20582)) (z := mj_m30) rfl rfl (by decide) (by decide) rfl
theorem s187_35 {d : Nat} {ls : mj_L} {st : List Value} {M : mj_H} : mj_Rn d mj_m187 35 ls st M = mq_k1 d mj_m187 36 M (mj_lo 3 (.istore 2) ls st) := (mj_R1 (r := (.istore_n 2, 1, 0, 0, 0)) rfl rfl).trans (congrArg (mq_k1 d mj_m187 36 M) (mq_sti (k := 2)))
theorem s187_36 {d : Nat} {ls : mj_L} {st : List Value} {M : mj_H} : mj_Rn d mj_m187 36 ls st M = mq_k0 d mj_m187 37 ls M (mj_lda (mj_lk ls 0) st) := mj_R0 (r := (.aload_n 0, 1, 0, 0, 0)) rfl rfl
theorem s187_37 {d : Nat} {ls : mj_L} {st : List Value} {M : mj_H} : mj_Rn d mj_m187 37 ls st M = mq_k0 d mj_m187 40 ls M (mq_gf 10 2 st M) := (mj_R3 (r := (.getfield 24, 3, 10, 2, 8490)) rfl rfl).trans (congrArg (mq_k0 d mj_m187 40 ls M) mq_gf_eq)
theorem s187_40 {d : Nat} {ls : mj_L} {st : List Value} {M : mj_H} : mj_Rn d mj_m187 40 ls st M = mj_Rn d mj_m187 41 ls (.int 4 :: st) M := mj_R0 (r := (.iconst 4, 1, 0, 0, 0)) rfl rfl
theorem s187_41 {d : Nat} {ls : mj_L} {st : List Value} {M : mj_H} : mj_Rn (d + 1) mj_m187 41 ls st M = mq_k5a (d + 1) mj_m187 44 ls M 28 (mq_cb 0 1 9 st M) := mj_R5e (r := (.invokevirtual 173, 3, 0, 28, 20595)) (z := mj_m28) rfl rfl (by decide) (by decide) rfl
theorem s187_44 {d : Nat} {ls : mj_L} {st : List Value} {M : mj_H} : mj_Rn d mj_m187 44 ls st M = mq_k0 d mj_m187 45 ls M (mj_lda (mj_lk ls 0) st) := mj_R0 (r := (.aload_n 0, 1, 0, 0, 0)) rfl rfl
theorem s187_45 {d : Nat} {ls : mj_L} {st : List Value} {M : mj_H} : mj_Rn d mj_m187 45 ls st M = mq_k0 d mj_m187 48 ls M (mq_gf 10 2 st M) := (mj_R3 (r := (.getfield 24, 3, 10, 2, 8490)) rfl rfl).trans (congrArg (mq_k0 d mj_m187 48 ls M) mq_gf_eq)
theorem s187_48 {d : Nat} {ls : mj_L} {st : List Value} {M : mj_H} : mj_Rn d mj_m187 48 ls st M = mq_k0 d mj_m187 49 ls M (mj_lda (mj_lk ls 1) st) := mj_R0 (r := (.aload_n 1, 1, 0, 0, 0)) rfl rfl
theorem s187_49 {d : Nat} {ls : mj_L} {st : List Value} {M : mj_H} : mj_Rn d mj_m187 49 ls st M = mq_k0 d mj_m187 52 ls M (mq_gf 3 3 st M) := (mj_R3 (r := (.getfield 184, 3, 3, 3, 8455)) rfl rfl).trans (congrArg (mq_k0 d mj_m187 52 ls M) mq_gf_eq)
theorem s187_52 {d : Nat} {ls : mj_L} {st : List Value} {M : mj_H} : mj_Rn (d + 1) mj_m187 52 ls st M = mq_k5a (d + 1) mj_m187 55 ls M 29 (mq_cb 0 1 9 st M) := mj_R5e (r := (.invokevirtual 175, 3, 0, 29, 20596)) (z := mj_m29) rfl rfl (by decide) (by decide) rfl
theorem s187_55 {d : Nat} {ls : mj_L} {st : List Value} {M : mj_H} : mj_Rn d mj_m187 55 ls st M = mq_k0 d mj_m187 56 ls M (mj_lda (mj_lk ls 0) st) := mj_R0 (r := (.aload_n 0, 1, 0, 0, 0)) rfl rfl
theorem s187_56 {d : Nat} {ls : mj_L} {st : List Value} {M : mj_H} : mj_Rn d mj_m187 56 ls st M = mq_k0 d mj_m187 59 ls M (mq_gf 10 2 st M) := (mj_R3 (r := (.getfield 24, 3, 10, 2, 8490)) rfl rfl).trans (congrArg (mq_k0 d mj_m187 59 ls M) mq_gf_eq)
theorem s187_59 {d : Nat} {ls : mj_L} {st : List Value} {M : mj_H} : mj_Rn d mj_m187 59 ls st M = mq_k0 d mj_m187 60 ls M (mj_ldi (mj_lk ls 2) st) := mj_R0 (r := (.iload_n 2, 1, 0, 0, 0)) rfl rfl
theorem s187_60 {d : Nat} {ls : mj_L} {st : List Value} {M : mj_H} : mj_Rn (d + 1) mj_m187 60 ls st M = mq_k5a (d + 1) mj_m187 63 ls M 122 (mq_cb 0 1 9 st M) := mj_R5e (r := (.invokevirtual 356, 3, 0, 122, 20642)) (z := mj_m122) rfl rfl (by decide) (by decide) rfl
theorem s187_63 {d : Nat} {ls : mj_L} {st : List Value} {M : mj_H} : mj_Rn d mj_m187 63 ls st M = mq_k0 d mj_m187 64 ls M (mj_lda (mj_lk ls 0) st) := mj_R0 (r := (.aload_n 0, 1, 0, 0, 0)) rfl rfl
theorem s187_64 {d : Nat} {ls : mj_L} {st : List Value} {M : mj_H} : mj_Rn d mj_m187 64 ls st M = mq_k0 d mj_m187 67 ls M (mq_gf 10 2 st M) := (mj_R3 (r := (.getfield 24, 3, 10, 2, 8490)) rfl rfl).trans (congrArg (mq_k0 d mj_m187 67 ls M) mq_gf_eq)
theorem s187_67 {d : Nat} {ls : mj_L} {st : List Value} {M : mj_H} : mj_Rn (d + 1) mj_m187 67 ls st M = mq_k5a (d + 1) mj_m187 70 ls M 30 (mq_cb 0 0 9 st M) := mj_R5e (r := (.invokevirtual 181, 3, 0, 30, 20582)) (z := mj_m30) rfl rfl (by decide) (by decide) rfl
theorem s187_70 {d : Nat} {ls : mj_L} {st : List Value} {M : mj_H} : mj_Rn d mj_m187 70 ls st M = mq_k6 M (mj_re (some .int) (.ireturn) st) := mj_R6 (r := (.ireturn, 1, 0, 0, 0)) rfl rfl
theorem c181 {d : Nat} {a0 : Nat} {M : mj_H} : mj_V (d + 1) 181 [.ref a0] M = mj_Rn d mj_m181 0 [(0, .ref a0)] [] M := mj_V_go rfl (Nat.le_of_ble_eq_true rfl)
theorem c182 {d : Nat} {a0 : Nat} {a1 : Nat} {a2 : Nat} {M : mj_H} : mj_V (d + 1) 182 [.ref a0, .ref a1, .ref a2] M = mj_Rn d mj_m182 0 [(0, .ref a0), (1, .ref a1), (2, .ref a2)] [] M := mj_V_go rfl (Nat.le_of_ble_eq_true rfl)
theorem c183 {d : Nat} {a0 : Nat} {a1 : Nat} {a2 : Nat} {x3 : Int32} {M : mj_H} : mj_V (d + 1) 183 [.ref a0, .ref a1, .ref a2, .int x3] M = mj_Rn d mj_m183 0 [(0, .ref a0), (1, .ref a1), (2, .ref a2), (3, .int x3)] [] M := mj_V_go rfl (Nat.le_of_ble_eq_true rfl)
theorem c184 {d : Nat} {a0 : Nat} {a1 : Nat} {x2 : Int32} {x3 : Int32} {M : mj_H} : mj_V (d + 1) 184 [.ref a0, .ref a1, .int x2, .int x3] M = mj_Rn d mj_m184 0 [(0, .ref a0), (1, .ref a1), (2, .int x2), (3, .int x3)] [] M := mj_V_go rfl (Nat.le_of_ble_eq_true rfl)
theorem c185 {d : Nat} {a0 : Nat} {x1 : Int32} {x2 : Int32} {x3 : Int32} {M : mj_H} : mj_V (d + 1) 185 [.ref a0, .int x1, .int x2, .int x3] M = mj_Rn d mj_m185 0 [(0, .ref a0), (1, .int x1), (2, .int x2), (3, .int x3)] [] M := mj_V_go rfl (Nat.le_of_ble_eq_true rfl)
theorem c187 {d : Nat} {a0 : Nat} {a1 : Nat} {M : mj_H} : mj_V (d + 1) 187 [.ref a0, .ref a1] M = mj_Rn d mj_m187 0 [(0, .ref a0), (1, .ref a1)] [] M := mj_V_go rfl (Nat.le_of_ble_eq_true rfl)
theorem h_56 : bt_hd 5 6 = [166] := by decide
theorem h_44 : bt_hd 4 4 = [132] := by decide
theorem aa_7 : (7 : Int32) &&& 255 = 7 := by decide
theorem aa_8 : (8 : Int32) &&& 255 = 8 := by decide
theorem aa_9 : (9 : Int32) &&& 255 = 9 := by decide
/-- the house with a message -/
def hm (M : mj_H) (H : Ho) (κs πs : List Nat) (row ms : List Int32) : Prop := (hz M H κs πs row) ∧ (bb M 28 29 400 ms)
theorem hm.z {M : mj_H} {H : Ho} {κs πs : List Nat} {row ms : List Int32} (hh_ : hm M H κs πs row ms) : hz M H κs πs row := hh_.1
theorem hm.b {M : mj_H} {H : Ho} {κs πs : List Nat} {row ms : List Int32} (hh_ : hm M H κs πs row ms) : bb M 28 29 400 ms := hh_.2
theorem hm_mk_ {M : mj_H} {H : Ho} {κs πs : List Nat} {row ms : List Int32} (f_0_ : hz M H κs πs row) (f_1_ : bb M 28 29 400 ms) : hm M H κs πs row ms := And.intro f_0_ f_1_
section HZ
variable {M M' : mj_H} {H H' : Ho} {κs πs : List Nat} {row row' ms : List Int32} {d : Nat} {i : Int32}
theorem hm.fa (z : hm M H κs πs row ms) : M[25]? = some (10, [.ref 26, .ref 28, .ref 30, .ref 36, .ref 44, .ref 45, .ref 66, .int (nI H.2.2.1.length), .int (nI H.2.2.2.2.length)]) ∧ M[28]? = some (1, [.ref 29, .int (nI ms.length)]) := ⟨z.z.ob, z.b.2.2.2.2.2.1⟩
theorem hm_clear (z : hm M H κs πs row ms) : ∃ M', mj_V (d + 1) 12 [.ref 28] M = some (none, M') ∧ hm M' H κs πs row [] ∧ hf M M' := by
  obtain ⟨M1, p1, b1, f1⟩ := v_clear (d := d) z.b
  obtain ⟨z1, g1⟩ := z.z.mess b1 (f1.mono (by simp)) (mj_V_gr p1)
  exact ⟨M1, p1, (hm_mk_ z1 b1), g1⟩
theorem hm_pushX (z : hm M H κs πs row ms) (v : Int32) (xs : List Int32) (hx : ms ++ [v &&& 255] = xs) (hl : xs.length ≤ 400) : ∃ M', mj_V (d + 1) 45 [.ref 28, .int v] M = some (none, M') ∧ hm M' H κs πs row xs ∧ hf M M' := by
  obtain ⟨M1, p1, b1, f1⟩ := v_push (d := d) z.b v
  rw [bt_app_in (by rw [← hx] at hl; simpa using hl), hx] at b1
  obtain ⟨z1, g1⟩ := z.z.mess b1 f1 (mj_V_gr p1)
  exact ⟨M1, p1, (hm_mk_ z1 b1), g1⟩
theorem hm_headX (z : hm M H κs πs row ms) (s n : Int32) (xs : List Int32) (hx : ms ++ bt_hd s n = xs) (hl : xs.length ≤ 400) : ∃ M', mj_V (d + 2) 131 [.ref 28, .int s, .int n] M = some (none, M') ∧ hm M' H κs πs row xs ∧ hf M M' := by
  obtain ⟨M1, p1, b1, f1⟩ := v_head (d := d) z.b s n
  rw [bt_app_in (by rw [← hx] at hl; simpa using hl), hx] at b1
  obtain ⟨z1, g1⟩ := z.z.mess b1 f1 (mj_V_gr p1)
  exact ⟨M1, p1, (hm_mk_ z1 b1), g1⟩
theorem hm_termX (z : hm M H κs πs row ms) (t : Int32) (xs : List Int32) (hx : ms ++ (68 :: b4 t) = xs) (hl : xs.length ≤ 400) : ∃ M', mj_V (d + 3) 134 [.ref 28, .int t] M = some (none, M') ∧ hm M' H κs πs row xs ∧ hf M M' := by
  obtain ⟨M1, p1, b1, f1⟩ := v_term (d := d) z.b t
  rw [b4_low, bt_app_in (by rw [← hx] at hl; simpa using hl), hx] at b1
  obtain ⟨z1, g1⟩ := z.z.mess b1 f1 (mj_V_gr p1)
  exact ⟨M1, p1, (hm_mk_ z1 b1), g1⟩
theorem hm_textX {j a : Nat} (z : hm M H κs πs row ms) (hj : j < 11) (xs : List Int32) (ha : 3 + 2 * j = a) (hx : ms ++ (bt_hd 3 (nI (mj_str.getD j []).length) ++ mj_str.getD j []) = xs) (hl : xs.length ≤ 400) : ∃ M', mj_V (d + 5) 132 [.ref 28, .ref a] M = some (none, M') ∧ hm M' H κs πs row xs ∧ hf M M' := by
  subst ha
  obtain ⟨M1, p1, b1, f1⟩ := v_text (d := d) z.b (z.z.str j hj) (by omega)
  rw [bt_app_in (by rw [← hx] at hl; simpa using hl), hx] at b1
  obtain ⟨z1, g1⟩ := z.z.mess b1 f1 (mj_V_gr p1)
  exact ⟨M1, p1, (hm_mk_ z1 b1), g1⟩
theorem hm_partX {n : Nat} {ys : List Int32} (z : hm M H κs πs row ms) (xs : List Int32) (hn : n ≤ H.1.length) (hy : H.1.take n = ys) (hx : ms ++ ys = xs) (hl : xs.length ≤ 400) : ∃ M', mj_V (d + 2) 77 [.ref 28, .ref 26, .int 0, .int (nI n)] M = some (none, M') ∧ hm M' H κs πs row xs ∧ hf M M' := by
  have hc := z.z.tp.len
  obtain ⟨M1, p1, b1, f1⟩ := v_pushPart (d := d) (p := 0) (n := n) (by omega) (by omega) (by omega) (by omega) (by omega) z.b z.z.tp
  rw [List.drop_zero, hy, bt_app_in (by rw [← hx] at hl; simpa using hl), hx] at b1
  rw [nI_0] at p1
  obtain ⟨z1, g1⟩ := z.z.mess b1 f1 (mj_V_gr p1)
  exact ⟨M1, p1, (hm_mk_ z1 b1), g1⟩
theorem hm_lowX {m : Nat} {w : Int64} {ys : List Int32} (z : hm M H κs πs row ms) (xs : List Int32) (hy : bt_low w m = ys) (hx : ms ++ ys = xs) (hl : xs.length ≤ 400) (hm : m < 100) : ∃ M', mj_V (d + 1) 10 [.ref 28, .long w, .int (nI m)] M = some (none, M') ∧ Jvm.Pilot.CPasskeyHouseLaw_law_r9910_d8a7ca.hm M' H κs πs row xs ∧ hf M M' := by
  obtain ⟨M1, p1, b1, f1⟩ := v_pushLow (d := d) (w := w) (m := m) (by omega) z.b
  rw [hy, bt_app_in (by rw [← hx] at hl; simpa using hl), hx] at b1
  obtain ⟨z1, g1⟩ := z.z.mess b1 f1 (mj_V_gr p1)
  exact ⟨M1, p1, (hm_mk_ z1 b1), g1⟩
/-- what a hand and a key say first -/
theorem h_wag (z : hz M H κs πs row) : ∃ M', mj_V (d + 3) 181 [.ref 25] M = some (none, M') ∧ hm M' H κs πs row agMsg ∧ hf M M' := by
  obtain ⟨ms, hb⟩ := z.ms
  have z0 : hm M H κs πs row ms := (hm_mk_ z hb)
  obtain ⟨x0, y0⟩ := z0.fa
  obtain ⟨M1, p1, z1, g1⟩ := hm_clear (d := d + 1) z0
  obtain ⟨x1, y1⟩ := z1.fa
  obtain ⟨M2, p2, z2, g2⟩ := hm_pushX (d := d + 1) z1 6 ([] ++ [6]) (by simp only [List.append_assoc, List.cons_append, List.nil_append, List.append_nil, h_53, h_54, h_55, h_52, h_51, h_41, h_217, h_29, h_22, h_16, h_721, h_720, h_0400, aa_1, aa_2, aa_3, aa_4, aa_5, aa_6, tx_0, tx_1, tx_2, tx_3, tx_5, tx_6, tx_7, tx_8, tx_9, tx_10, h_56, h_44, aa_7, aa_8, aa_9]) (by simp [b4_len] <;> omega)
  obtain ⟨x2, y2⟩ := z2.fa
  obtain ⟨M3, p3, z3, g3⟩ := hm_headX (d := d) z2 5 2 (([] ++ [6]) ++ [162]) (by simp only [List.append_assoc, List.cons_append, List.nil_append, List.append_nil, h_53, h_54, h_55, h_52, h_51, h_41, h_217, h_29, h_22, h_16, h_721, h_720, h_0400, aa_1, aa_2, aa_3, aa_4, aa_5, aa_6, tx_0, tx_1, tx_2, tx_3, tx_5, tx_6, tx_7, tx_8, tx_9, tx_10, h_56, h_44, aa_7, aa_8, aa_9]) (by simp [b4_len] <;> omega)
  obtain ⟨x3, y3⟩ := z3.fa
  obtain ⟨M4, p4, z4, g4⟩ := hm_pushX (d := d + 1) z3 1 ((([] ++ [6]) ++ [162]) ++ [1]) (by simp only [List.append_assoc, List.cons_append, List.nil_append, List.append_nil, h_53, h_54, h_55, h_52, h_51, h_41, h_217, h_29, h_22, h_16, h_721, h_720, h_0400, aa_1, aa_2, aa_3, aa_4, aa_5, aa_6, tx_0, tx_1, tx_2, tx_3, tx_5, tx_6, tx_7, tx_8, tx_9, tx_10, h_56, h_44, aa_7, aa_8, aa_9]) (by simp [b4_len] <;> omega)
  obtain ⟨x4, y4⟩ := z4.fa
  obtain ⟨M5, p5, z5, g5⟩ := hm_pushX (d := d + 1) z4 1 (((([] ++ [6]) ++ [162]) ++ [1]) ++ [1]) (by simp only [List.append_assoc, List.cons_append, List.nil_append, List.append_nil, h_53, h_54, h_55, h_52, h_51, h_41, h_217, h_29, h_22, h_16, h_721, h_720, h_0400, aa_1, aa_2, aa_3, aa_4, aa_5, aa_6, tx_0, tx_1, tx_2, tx_3, tx_5, tx_6, tx_7, tx_8, tx_9, tx_10, h_56, h_44, aa_7, aa_8, aa_9]) (by simp [b4_len] <;> omega)
  obtain ⟨x5, y5⟩ := z5.fa
  obtain ⟨M6, p6, z6, g6⟩ := hm_pushX (d := d + 1) z5 2 ((((([] ++ [6]) ++ [162]) ++ [1]) ++ [1]) ++ [2]) (by simp only [List.append_assoc, List.cons_append, List.nil_append, List.append_nil, h_53, h_54, h_55, h_52, h_51, h_41, h_217, h_29, h_22, h_16, h_721, h_720, h_0400, aa_1, aa_2, aa_3, aa_4, aa_5, aa_6, tx_0, tx_1, tx_2, tx_3, tx_5, tx_6, tx_7, tx_8, tx_9, tx_10, h_56, h_44, aa_7, aa_8, aa_9]) (by simp [b4_len] <;> omega)
  obtain ⟨x6, y6⟩ := z6.fa
  obtain ⟨M7, p7, z7, g7⟩ := hm_pushX (d := d + 1) z6 2 (((((([] ++ [6]) ++ [162]) ++ [1]) ++ [1]) ++ [2]) ++ [2]) (by simp only [List.append_assoc, List.cons_append, List.nil_append, List.append_nil, h_53, h_54, h_55, h_52, h_51, h_41, h_217, h_29, h_22, h_16, h_721, h_720, h_0400, aa_1, aa_2, aa_3, aa_4, aa_5, aa_6, tx_0, tx_1, tx_2, tx_3, tx_5, tx_6, tx_7, tx_8, tx_9, tx_10, h_56, h_44, aa_7, aa_8, aa_9]) (by simp [b4_len] <;> omega)
  obtain ⟨x7, y7⟩ := z7.fa
  refine ⟨M7, ?_, z7, (((((((g1).tr g2).tr g3).tr g4).tr g5).tr g6).tr g7)⟩
  simp (disch := (first | omega | decide)) [c181, s181_0, s181_1, s181_4, s181_7, s181_8, s181_11, s181_13, s181_16, s181_17, s181_20, s181_21, s181_22, s181_25, s181_26, s181_29, s181_30, s181_33, s181_34, s181_37, s181_38, s181_41, s181_42, s181_45, s181_46, s181_49, s181_50, s181_53, s181_54, s181_57, mq_k0s, mq_k1s, mq_k2s, mq_k4s, mq_k5s, mq_k5n, mq_k5as, mq_k6s, mj_pu, mj_lo, mj_br, mj_hr, mj_hw, mq_gf, mq_len, mq_al, mq_pf, mq_ok, mj_re, mq_lkm, mq_lkn, mj_ldi, mj_ldl, mj_lda, mj_ii, mj_ll, mj_li, mj_i1, ms_1, ms_2, f1_n, f1_i, f1_r, f1_u, f1_l, f2_n, f2_i, f2_r, f2_u, f2_l, mj_tg, mj_c1, mj_c2, mj_ar, mj_aw, mq_cb, mq_oi, mj_rm, Value.category, -getElem?_pos, List.getElem?_cons_zero, decide_eq_true, decide_eq_false, nl_lt, nl_le, ln_lt, ln_le, nl_eq, ln_eq, nl_add, ln_add, nl_sub, ln_mul, nI_sub, nI_mul, nI_add, nI_lt_iff, nI_le_iff, nI_inj, nI_num, mq_ix, nI_1, nl_mul, nl_div, x0, y0, p1, x1, y1, p2, x2, y2, p3, x3, y3, p4, x4, y4, p5, x5, y5, p6, x6, y6, p7]
theorem h_bpm (z : hz M H κs πs row) (step own members map : Int32) (hs : step &&& 255 = step) (hmm : bt_hd 5 members = [map]) : ∃ M', mj_V (d + 4) 185 [.ref 25, .int step, .int own, .int members] M = some (none, M') ∧ hm M' H κs πs row (pnMsg map step own []) ∧ hf M M' := by
  obtain ⟨ms, hb⟩ := z.ms
  have z0 : hm M H κs πs row ms := (hm_mk_ z hb)
  obtain ⟨x0, y0⟩ := z0.fa
  obtain ⟨M1, p1, z1, g1⟩ := hm_clear (d := d + 2) z0
  obtain ⟨x1, y1⟩ := z1.fa
  obtain ⟨M2, p2, z2, g2⟩ := hm_pushX (d := d + 2) z1 6 ([] ++ [6]) (by simp only [List.append_assoc, List.cons_append, List.nil_append, List.append_nil, h_53, h_54, h_55, h_52, h_51, h_41, h_217, h_29, h_22, h_16, h_721, h_720, h_0400, aa_1, aa_2, aa_3, aa_4, aa_5, aa_6, tx_0, tx_1, tx_2, tx_3, tx_5, tx_6, tx_7, tx_8, tx_9, tx_10, h_56, h_44, aa_7, aa_8, aa_9]) (by simp [b4_len] <;> omega)
  obtain ⟨x2, y2⟩ := z2.fa
  obtain ⟨M3, p3, z3, g3⟩ := hm_headX (d := d + 1) z2 5 members ([] ++ [6] ++ [map]) (by rw [hmm]) (by simp)
  obtain ⟨x3, y3⟩ := z3.fa
  obtain ⟨M4, p4, z4, g4⟩ := hm_pushX (d := d + 2) z3 1 (([] ++ [6] ++ [map]) ++ [1]) (by simp only [List.append_assoc, List.cons_append, List.nil_append, List.append_nil, h_53, h_54, h_55, h_52, h_51, h_41, h_217, h_29, h_22, h_16, h_721, h_720, h_0400, aa_1, aa_2, aa_3, aa_4, aa_5, aa_6, tx_0, tx_1, tx_2, tx_3, tx_5, tx_6, tx_7, tx_8, tx_9, tx_10, h_56, h_44, aa_7, aa_8, aa_9]) (by simp [b4_len] <;> omega)
  obtain ⟨x4, y4⟩ := z4.fa
  obtain ⟨M5, p5, z5, g5⟩ := hm_pushX (d := d + 2) z4 1 ((([] ++ [6] ++ [map]) ++ [1]) ++ [1]) (by simp only [List.append_assoc, List.cons_append, List.nil_append, List.append_nil, h_53, h_54, h_55, h_52, h_51, h_41, h_217, h_29, h_22, h_16, h_721, h_720, h_0400, aa_1, aa_2, aa_3, aa_4, aa_5, aa_6, tx_0, tx_1, tx_2, tx_3, tx_5, tx_6, tx_7, tx_8, tx_9, tx_10, h_56, h_44, aa_7, aa_8, aa_9]) (by simp [b4_len] <;> omega)
  obtain ⟨x5, y5⟩ := z5.fa
  obtain ⟨M6, p6, z6, g6⟩ := hm_pushX (d := d + 2) z5 2 (((([] ++ [6] ++ [map]) ++ [1]) ++ [1]) ++ [2]) (by simp only [List.append_assoc, List.cons_append, List.nil_append, List.append_nil, h_53, h_54, h_55, h_52, h_51, h_41, h_217, h_29, h_22, h_16, h_721, h_720, h_0400, aa_1, aa_2, aa_3, aa_4, aa_5, aa_6, tx_0, tx_1, tx_2, tx_3, tx_5, tx_6, tx_7, tx_8, tx_9, tx_10, h_56, h_44, aa_7, aa_8, aa_9]) (by simp [b4_len] <;> omega)
  obtain ⟨x6, y6⟩ := z6.fa
  obtain ⟨M7, p7, z7, g7⟩ := hm_pushX (d := d + 2) z6 step ((((([] ++ [6] ++ [map]) ++ [1]) ++ [1]) ++ [2]) ++ [step]) (by rw [hs]) (by simp [b4_len] <;> omega)
  obtain ⟨x7, y7⟩ := z7.fa
  obtain ⟨M8, p8, z8, g8⟩ := hm_pushX (d := d + 2) z7 3 (((((([] ++ [6] ++ [map]) ++ [1]) ++ [1]) ++ [2]) ++ [step]) ++ [3]) (by simp only [List.append_assoc, List.cons_append, List.nil_append, List.append_nil, h_53, h_54, h_55, h_52, h_51, h_41, h_217, h_29, h_22, h_16, h_721, h_720, h_0400, aa_1, aa_2, aa_3, aa_4, aa_5, aa_6, tx_0, tx_1, tx_2, tx_3, tx_5, tx_6, tx_7, tx_8, tx_9, tx_10, h_56, h_44, aa_7, aa_8, aa_9]) (by simp [b4_len] <;> omega)
  obtain ⟨x8, y8⟩ := z8.fa
  obtain ⟨M9, p9, z9, g9⟩ := hm_termX (d := d) z8 own ((((((([] ++ [6] ++ [map]) ++ [1]) ++ [1]) ++ [2]) ++ [step]) ++ [3]) ++ (68 :: b4 own)) rfl (by simp [b4_len] <;> omega)
  obtain ⟨x9, y9⟩ := z9.fa
  have e : [] ++ [6] ++ [map] ++ [1] ++ [1] ++ [2] ++ [step] ++ [3] ++ (68 :: b4 own) = pnMsg map step own [] := by simp [pnMsg]
  rw [e] at z9
  refine ⟨M9, ?_, z9, (((((((((g1).tr g2).tr g3).tr g4).tr g5).tr g6).tr g7).tr g8).tr g9)⟩
  simp (disch := (first | omega | decide)) [c185, s185_0, s185_1, s185_4, s185_7, s185_8, s185_11, s185_13, s185_16, s185_17, s185_20, s185_21, s185_22, s185_25, s185_26, s185_29, s185_30, s185_33, s185_34, s185_37, s185_38, s185_41, s185_42, s185_45, s185_46, s185_49, s185_50, s185_53, s185_54, s185_57, s185_58, s185_61, s185_62, s185_65, s185_66, s185_69, s185_70, s185_73, mq_k0s, mq_k1s, mq_k2s, mq_k4s, mq_k5s, mq_k5n, mq_k5as, mq_k6s, mj_pu, mj_lo, mj_br, mj_hr, mj_hw, mq_gf, mq_len, mq_al, mq_pf, mq_ok, mj_re, mq_lkm, mq_lkn, mj_ldi, mj_ldl, mj_lda, mj_ii, mj_ll, mj_li, mj_i1, ms_1, ms_2, f1_n, f1_i, f1_r, f1_u, f1_l, f2_n, f2_i, f2_r, f2_u, f2_l, mj_tg, mj_c1, mj_c2, mj_ar, mj_aw, mq_cb, mq_oi, mj_rm, Value.category, -getElem?_pos, List.getElem?_cons_zero, decide_eq_true, decide_eq_false, nl_lt, nl_le, ln_lt, ln_le, nl_eq, ln_eq, nl_add, ln_add, nl_sub, ln_mul, nI_sub, nI_mul, nI_add, nI_lt_iff, nI_le_iff, nI_inj, nI_num, mq_ix, nI_1, nl_mul, nl_div, x0, y0, p1, x1, y1, p2, x2, y2, p3, x3, y3, p4, x4, y4, p5, x5, y5, p6, x6, y6, p7, x7, y7, p8, x8, y8, p9]
theorem h_awa (z : hz M H κs πs row) {j a b : Nat} {h : Hd} {re : List Int32} (hh : H.2.2.2.1[j]? = some h) (hb : bb M a b 400 re) (h8 : 8 ≤ re.length) (hl : H.2.1.1.length < 1000) : ∃ M' row', mj_V (d + 6) 182 [.ref 25, .ref (46 + 5 * j), .ref a] M = some (none, M') ∧ hz M' (H.ht j (agr_h h H.2.1 (tm_sec H.2.1.1 (w4a re 4)), agr_T h H.2.1 (tm_sec H.2.1.1 (w4a re 4)))) κs πs row' ∧ hf M M' := by
  have x0 := z.ob
  obtain ⟨u0, t0⟩ := z.o30
  have o0 := hb.2.2.2.2.2.1
  obtain ⟨w, v0, hw⟩ := v_four (d := d + 3) hb (p := 4) (by omega)
  have hw := hw (by omega)
  have hwe : w = w4a re 4 := by
    rw [hw, w4_lo _ (sl_by hb.2.2.2.2.1 _ _) (by rw [sl_len (by omega)]; omega)]; rfl
  subst hwe
  have v1 := tx_secretOf (d := d + 2) z.t (w4a re 4)
  obtain ⟨M1, row1, p1, z1, g1⟩ := h_agreeW (d := d) z hh (tm_sec H.2.1.1 (w4a re 4)) hl
  refine ⟨M1, row1, ?_, z1, g1⟩
  rw [show nI 4 = 4 from rfl] at v0
  simp (disch := (first | omega | decide)) [c182, s182_0, s182_1, s182_2, s182_3, s182_6, s182_7, s182_8, s182_11, s182_14, s182_17, mq_k0s, mq_k1s, mq_k2s, mq_k4s, mq_k5s, mq_k5n, mq_k5as, mq_k6s, mj_pu, mj_lo, mj_br, mj_hr, mj_hw, mq_gf, mq_len, mq_al, mq_pf, mq_ok, mj_re, mq_lkm, mq_lkn, mj_ldi, mj_ldl, mj_lda, mj_ii, mj_ll, mj_li, mj_i1, ms_1, ms_2, f1_n, f1_i, f1_r, f1_u, f1_l, f2_n, f2_i, f2_r, f2_u, f2_l, mj_tg, mj_c1, mj_c2, mj_ar, mj_aw, mq_cb, mq_oi, mj_rm, Value.category, -getElem?_pos, List.getElem?_cons_zero, decide_eq_true, decide_eq_false, nl_lt, nl_le, ln_lt, ln_le, nl_eq, ln_eq, nl_add, ln_add, nl_sub, ln_mul, nI_sub, nI_mul, nI_add, nI_lt_iff, nI_le_iff, nI_inj, nI_num, mq_ix, nI_1, nl_mul, nl_div, x0, t0, o0, v0, v1, p1]
theorem h_enc (z : hz M H κs πs row) {j a b cap n : Nat} {h : Hd} {ys : List Int32} (hh : H.2.2.2.1[j]? = some h) (hb : bb M a b cap ys) (ha : hA κs πs a) (hb2 : hA κs πs b) (hn : n ≤ ys.length) (hn4 : n ≤ 400) (hl : H.2.1.1.length < 1000) : ∃ M' row', mj_V (d + 5) 183 [.ref 25, .ref (46 + 5 * j), .ref a, .int (nI n)] M = some (some (.int (nI (tm_no H.2.1 (enc_row h (ys.take n))))), M') ∧ hz M' ((H.1, (tm_mk H.2.1 (enc_row h (ys.take n)), (H.2.2.1, (H.2.2.2.1, H.2.2.2.2)))) : Ho) κs πs row' ∧ hf M M' := by
  have x0 := z.ob
  obtain ⟨u0, t0⟩ := z.o30
  obtain ⟨M1, p1, z1, g1⟩ := hz_begin (d := d + 2) z 4
  have x1 := z1.ob
  obtain ⟨u1, t1⟩ := z1.o30
  have y1 := (z1.hd j h hh).ob
  obtain ⟨M2, p2, z2, g2⟩ := hz_add (d := d + 3) z1 (by simp) h.2.2.2.1
  have x2 := z2.ob
  obtain ⟨u2, t2⟩ := z2.o30
  obtain ⟨N1, n1, w1, f1⟩ := tx_begin (d := d + 2) z.t 4
  have eN : M1 = N1 := by rw [p1] at n1; cases n1; rfl
  subst eN
  obtain ⟨N2, n2, w2, f2⟩ := tx_add (d := d + 3) w1 (by simp) h.2.2.2.1
  have eN : M2 = N2 := by rw [p2] at n2; cases n2; rfl
  subst eN
  have e : ∀ c, hA κs πs c → M2[c]? = M[c]? := fun c hc => (f2.same c (Nat.lt_of_lt_of_le (z.lt hc) f1.gr.len) (fun q => q hc)).trans (f1.same c (z.lt hc) (fun q => q hc))
  have hb' := hb.fr (e a ha) (e b hb2)
  obtain ⟨M3, p3, z3, g3⟩ := hz_addBytes (d := d + 2) (q := 0) (n := n) z2 hb' ha hb2 (by omega) (by simp; omega)
  have x3 := z3.ob
  obtain ⟨u3, t3⟩ := z3.o30
  obtain ⟨M4, p4, z4, g4⟩ := hz_made (d := d) z3 (by simp) hl
  have er : [4] ++ [h.2.2.2.1] ++ (ys.drop 0).take n = enc_row h (ys.take n) := by simp [enc_row]
  rw [er] at p4 z4
  refine ⟨M4, _, ?_, z4, ((((g1).tr g2).tr g3).tr g4)⟩
  rw [nI_0] at p3
  simp (disch := (first | omega | decide)) [c183, s183_0, s183_1, s183_4, s183_5, s183_8, s183_9, s183_12, s183_13, s183_16, s183_19, s183_20, s183_23, s183_24, s183_25, s183_26, s183_29, s183_30, s183_33, s183_36, mq_k0s, mq_k1s, mq_k2s, mq_k4s, mq_k5s, mq_k5n, mq_k5as, mq_k6s, mj_pu, mj_lo, mj_br, mj_hr, mj_hw, mq_gf, mq_len, mq_al, mq_pf, mq_ok, mj_re, mq_lkm, mq_lkn, mj_ldi, mj_ldl, mj_lda, mj_ii, mj_ll, mj_li, mj_i1, ms_1, ms_2, f1_n, f1_i, f1_r, f1_u, f1_l, f2_n, f2_i, f2_r, f2_u, f2_l, mj_tg, mj_c1, mj_c2, mj_ar, mj_aw, mq_cb, mq_oi, mj_rm, Value.category, -getElem?_pos, List.getElem?_cons_zero, decide_eq_true, decide_eq_false, nl_lt, nl_le, ln_lt, ln_le, nl_eq, ln_eq, nl_add, ln_add, nl_sub, ln_mul, nI_sub, nI_mul, nI_add, nI_lt_iff, nI_le_iff, nI_inj, nI_num, mq_ix, nI_1, nl_mul, nl_div, x0, t0, p1, x1, t1, y1, p2, x2, t2, p3, x3, t3, p4, narrow]
theorem h_ech (z : hz M H κs πs row) {j : Nat} {h : Hd} (hh : H.2.2.2.1[j]? = some h) (hl : H.2.1.1.length + 1 < 1000) : ∃ M' row', mj_V (d + 5) 187 [.ref 25, .ref (46 + 5 * j)] M = some (some (.int (eh_n h H.2.1)), M') ∧ hz M' ((H.1, (eh_T h H.2.1, (H.2.2.1, (H.2.2.2.1, H.2.2.2.2)))) : Ho) κs πs row' ∧ hf M M' := by
  have hj := z.hj hh
  have x0 := z.ob
  obtain ⟨u0, t0⟩ := z.o30
  obtain ⟨M1, p1, z1, g1⟩ := hz_begin (d := d + 2) z 7
  have x1 := z1.ob
  obtain ⟨u1, t1⟩ := z1.o30
  have zh1 := z1.hd j h hh
  have y1 := zh1.ob
  have o1 := zh1.pi.2.2.2.2.2.1
  have v1 := v_size (d := d + 3) zh1.pi
  have hpl := zh1.pi.len
  obtain ⟨M2, p2, z2, g2⟩ := hz_addBytes (d := d + 2) (q := 0) (n := h.1.length) z1 zh1.pi (by unfold hA; omega) (by unfold hA; omega) (by omega) (by simp; omega)
  have x2 := z2.ob
  obtain ⟨u2, t2⟩ := z2.o30
  obtain ⟨M3, p3, z3, g3⟩ := hz_made (d := d) z2 (by simp) (by omega)
  have er : [7] ++ (h.1.drop 0).take h.1.length = 7 :: h.1 := by simp
  rw [er] at p3 z3
  have x3 := z3.ob
  obtain ⟨u3, t3⟩ := z3.o30
  obtain ⟨M4, p4, z4, g4⟩ := hz_begin (d := d + 2) z3 4
  have x4 := z4.ob
  obtain ⟨u4, t4⟩ := z4.o30
  have y4 := (z4.hd j h hh).ob
  obtain ⟨M5, p5, z5, g5⟩ := hz_add (d := d + 3) z4 (by simp) h.2.2.2.1
  have x5 := z5.ob
  obtain ⟨u5, t5⟩ := z5.o30
  obtain ⟨M6, p6, z6, g6⟩ := hz_addFour (d := d + 2) z5 (by simp) (nI (tm_no H.2.1 (7 :: h.1)))
  have x6 := z6.ob
  obtain ⟨u6, t6⟩ := z6.o30
  have hml := tm_mk_len H.2.1 (7 :: h.1)
  obtain ⟨M7, p7, z7, g7⟩ := hz_made (d := d) z6 (by simp) (by show (tm_mk H.2.1 (7 :: h.1)).1.length < 1000; omega)
  have er2 : [4] ++ [h.2.2.2.1] ++ b4 (nI (tm_no H.2.1 (7 :: h.1))) = enc_row h (b4 (nI (tm_no H.2.1 (7 :: h.1)))) := by simp [enc_row]
  rw [er2] at p7 z7
  refine ⟨M7, _, ?_, z7, (((((((g1).tr g2).tr g3).tr g4).tr g5).tr g6).tr g7)⟩
  rw [nI_0] at p2
  change mj_V (d + 4) 30 [.ref 30] M6 = some (some (.int (eh_n h H.2.1)), M7) at p7
  simp (disch := (first | omega | decide)) [c187, s187_0, s187_1, s187_4, s187_6, s187_9, s187_10, s187_13, s187_14, s187_17, s187_18, s187_19, s187_22, s187_25, s187_28, s187_29, s187_32, s187_35, s187_36, s187_37, s187_40, s187_41, s187_44, s187_45, s187_48, s187_49, s187_52, s187_55, s187_56, s187_59, s187_60, s187_63, s187_64, s187_67, s187_70, mq_k0s, mq_k1s, mq_k2s, mq_k4s, mq_k5s, mq_k5n, mq_k5as, mq_k6s, mj_pu, mj_lo, mj_br, mj_hr, mj_hw, mq_gf, mq_len, mq_al, mq_pf, mq_ok, mj_re, mq_lkm, mq_lkn, mj_ldi, mj_ldl, mj_lda, mj_ii, mj_ll, mj_li, mj_i1, ms_1, ms_2, f1_n, f1_i, f1_r, f1_u, f1_l, f2_n, f2_i, f2_r, f2_u, f2_l, mj_tg, mj_c1, mj_c2, mj_ar, mj_aw, mq_cb, mq_oi, mj_rm, Value.category, -getElem?_pos, List.getElem?_cons_zero, decide_eq_true, decide_eq_false, nl_lt, nl_le, ln_lt, ln_le, nl_eq, ln_eq, nl_add, ln_add, nl_sub, ln_mul, nI_sub, nI_mul, nI_add, nI_lt_iff, nI_le_iff, nI_inj, nI_num, mq_ix, nI_1, nl_mul, nl_div, x0, t0, p1, x1, t1, y1, o1, v1, p2, x2, t2, p3, x3, t3, p4, x4, t4, y4, p5, x5, t5, p6, x6, t6, p7, narrow]
theorem h_prf (z : hz M H κs πs row) {j : Nat} {h : Hd} (hh : H.2.2.2.1[j]? = some h) (a b : Int32) (hl : H.2.1.1.length < 1000) : ∃ M' row', mj_V (d + 5) 184 [.ref 25, .ref (46 + 5 * j), .int a, .int b] M = some (some (.int (nI (tm_no H.2.1 (mac_row h (b4 a ++ if b = 0 then [] else b4 b))))), M') ∧ hz M' ((H.1, (tm_mk H.2.1 (mac_row h (b4 a ++ if b = 0 then [] else b4 b)), (H.2.2.1, (H.2.2.2.1, H.2.2.2.2)))) : Ho) κs πs row' ∧ hf M M' := by
  have x0 := z.ob
  obtain ⟨u0, t0⟩ := z.o30
  obtain ⟨M1, p1, z1, g1⟩ := hz_begin (d := d + 2) z 5
  have x1 := z1.ob
  obtain ⟨u1, t1⟩ := z1.o30
  have y1 := (z1.hd j h hh).ob
  obtain ⟨M2, p2, z2, g2⟩ := hz_add (d := d + 3) z1 (by simp) h.2.2.2.1
  have x2 := z2.ob
  obtain ⟨u2, t2⟩ := z2.o30
  obtain ⟨M3, p3, z3, g3⟩ := hz_addFour (d := d + 2) z2 (by simp) a
  have x3 := z3.ob
  obtain ⟨u3, t3⟩ := z3.o30
  by_cases hb : b = 0
  · obtain ⟨M4, p4, z4, g4⟩ := hz_made (d := d) z3 (by simp) hl
    have er : [5] ++ [h.2.2.2.1] ++ b4 a = mac_row h (b4 a ++ if b = 0 then [] else b4 b) := by simp [mac_row, hb]
    rw [er] at p4 z4
    refine ⟨M4, _, ?_, z4, ((((g1).tr g2).tr g3).tr g4)⟩
    simp (disch := (first | omega | decide)) [c184, s184_0, s184_1, s184_4, s184_5, s184_8, s184_9, s184_12, s184_13, s184_16, s184_19, s184_20, s184_23, s184_24, s184_27, s184_28, s184_31, s184_32, s184_35, s184_36, s184_39, s184_40, s184_43, s184_46, mq_k0s, mq_k1s, mq_k2s, mq_k4s, mq_k5s, mq_k5n, mq_k5as, mq_k6s, mj_pu, mj_lo, mj_br, mj_hr, mj_hw, mq_gf, mq_len, mq_al, mq_pf, mq_ok, mj_re, mq_lkm, mq_lkn, mj_ldi, mj_ldl, mj_lda, mj_ii, mj_ll, mj_li, mj_i1, ms_1, ms_2, f1_n, f1_i, f1_r, f1_u, f1_l, f2_n, f2_i, f2_r, f2_u, f2_l, mj_tg, mj_c1, mj_c2, mj_ar, mj_aw, mq_cb, mq_oi, mj_rm, Value.category, -getElem?_pos, List.getElem?_cons_zero, decide_eq_true, decide_eq_false, nl_lt, nl_le, ln_lt, ln_le, nl_eq, ln_eq, nl_add, ln_add, nl_sub, ln_mul, nI_sub, nI_mul, nI_add, nI_lt_iff, nI_le_iff, nI_inj, nI_num, mq_ix, nI_1, nl_mul, nl_div, x0, t0, p1, x1, t1, y1, p2, x2, t2, p3, x3, t3, hb, p4, narrow]
  · obtain ⟨M4, p4, z4, g4⟩ := hz_addFour (d := d + 2) z3 (by simp [b4_len]) b
    have x4 := z4.ob
    obtain ⟨u4, t4⟩ := z4.o30
    obtain ⟨M5, p5, z5, g5⟩ := hz_made (d := d) z4 (by simp) hl
    have er : [5] ++ [h.2.2.2.1] ++ b4 a ++ b4 b = mac_row h (b4 a ++ if b = 0 then [] else b4 b) := by simp [mac_row, hb]
    rw [er] at p5 z5
    refine ⟨M5, _, ?_, z5, (((((g1).tr g2).tr g3).tr g4).tr g5)⟩
    simp (disch := (first | omega | decide)) [c184, s184_0, s184_1, s184_4, s184_5, s184_8, s184_9, s184_12, s184_13, s184_16, s184_19, s184_20, s184_23, s184_24, s184_27, s184_28, s184_31, s184_32, s184_35, s184_36, s184_39, s184_40, s184_43, s184_46, mq_k0s, mq_k1s, mq_k2s, mq_k4s, mq_k5s, mq_k5n, mq_k5as, mq_k6s, mj_pu, mj_lo, mj_br, mj_hr, mj_hw, mq_gf, mq_len, mq_al, mq_pf, mq_ok, mj_re, mq_lkm, mq_lkn, mj_ldi, mj_ldl, mj_lda, mj_ii, mj_ll, mj_li, mj_i1, ms_1, ms_2, f1_n, f1_i, f1_r, f1_u, f1_l, f2_n, f2_i, f2_r, f2_u, f2_l, mj_tg, mj_c1, mj_c2, mj_ar, mj_aw, mq_cb, mq_oi, mj_rm, Value.category, -getElem?_pos, List.getElem?_cons_zero, decide_eq_true, decide_eq_false, nl_lt, nl_le, ln_lt, ln_le, nl_eq, ln_eq, nl_add, ln_add, nl_sub, ln_mul, nI_sub, nI_mul, nI_add, nI_lt_iff, nI_le_iff, nI_inj, nI_num, mq_ix, nI_1, nl_mul, nl_div, x0, t0, p1, x1, t1, y1, p2, x2, t2, p3, x3, t3, hb, p4, x4, t4, p5, narrow]
end HZ
end
/- 9c.ag -/
section
set_option maxRecDepth 512
/-! What a key answers to a hand: pure. -/
theorem ag_i : cbI agMsg 4 1 = some 6 := by decide +kernel
theorem ag_s : cbS agMsg 1 = 5 := by decide +kernel
theorem ag_0 : cbB agMsg 0 = 6 := by decide +kernel
theorem ag_m1 : mem agMsg 1 = some 3 := by decide +kernel
theorem ag_m2 : mem agMsg 2 = some 5 := by decide +kernel
theorem ag_m3 : mem agMsg 3 = none := by decide +kernel
theorem ag_m4 : mem agMsg 4 = none := by decide +kernel
theorem ag_m5 : mem agMsg 5 = none := by decide +kernel
theorem ag_m6 : mem agMsg 6 = none := by decide +kernel
theorem ag_f1 : oFit agMsg 0 (some 3) = true := by decide +kernel
theorem ag_f2 : oFit agMsg 0 (some 5) = true := by decide +kernel
theorem ag_v1 : oVn agMsg (some 3) = 1 := by decide +kernel
theorem ag_v2 : oVn agMsg (some 5) = 2 := by decide +kernel
theorem ag_form : ky_form agMsg = 0 := by
  unfold ky_form
  rw [if_neg (by decide), ag_0, if_neg (by decide), if_pos (by decide), show agMsg.length = 6 from rfl, if_pos ag_i, if_pos ag_s]
theorem ag_fault (T : Tm) : pnFault T agMsg 2 = 0 := by
  unfold pnFault
  have h : pnFit agMsg = true := by unfold pnFit; rw [ag_m1, ag_m2, ag_m3, ag_m4, ag_m5, ag_m6, ag_f1, ag_f2]; rfl
  rw [h, ag_m1, ag_m2, ag_v1]
  simp
def ag_rep (k : Ky) (T : Tm) : List Int32 := [0] ++ (161 :: nI 1 :: 68 :: b4 (nI (tm_no T [2, nI k.1.2.2.2])))
/-- the key tells its public, or is off -/
theorem recv_ag (k : Ky) (T : Tm) : ky_recv agMsg k T = if k.1.1.1.1.2.1 = false then (-3, (((((k.1.1.1.1, []), (k.1.1.2.1, k.1.1.2.2)), ((k.1.2.1.1, k.1.2.1.2), (k.1.2.2.1, k.1.2.2.2))), (((k.2.1.1.1, k.2.1.1.2), (k.2.1.2.1, k.2.1.2.2)), ((k.2.2.1.1, k.2.2.1.2), k.2.2.2))) : Ky), T) else (0, (((((k.1.1.1.1, ag_rep k T), (k.1.1.2.1, k.1.1.2.2)), ((k.1.2.1.1, k.1.2.1.2), (k.1.2.2.1 + 1, k.1.2.2.2))), (((k.2.1.1.1, k.2.1.1.2), (true, 0)), ((k.2.2.1.1, k.2.2.1.2), k.2.2.2))) : Ky), tm_mk T [2, nI k.1.2.2.2]) := by
  unfold ky_recv
  split
  · rfl
  · next hon =>
    have hr : ky_r2 agMsg k T = (0, (((((k.1.1.1.1, ag_rep k T), (k.1.1.2.1, k.1.1.2.2)), ((k.1.2.1.1, k.1.2.1.2), (k.1.2.2.1, k.1.2.2.2))), (((k.2.1.1.1, k.2.1.1.2), (k.2.1.2.1, 0)), ((k.2.2.1.1, k.2.2.1.2), k.2.2.2))) : Ky), tm_mk T [2, nI k.1.2.2.2]) := by
      unfold ky_r2
      rw [if_neg (by rw [ag_form]; decide)]
      unfold ky_cmd
      rw [ag_0, if_neg (by decide), if_neg (by decide), if_neg (by decide), if_pos rfl]
      unfold ky_doPin
      rw [ag_m2, ag_v2, if_neg (by rw [ag_fault]; decide), if_neg (by decide), if_pos rfl]
      unfold ky_r1 ag_rep
      rw [ag_0, if_neg (by decide)]
    rw [hr]
    unfold st_end ky_end
    dsimp only
    rw [if_neg hon, if_neg hon, if_pos rfl]
theorem ag_st (h : Hd) (k : Ky) (T : Tm) (h0 : (ag_k h k T).1 = 0) : k.1.1.1.1.2.1 = true ∧ ag_k h k T = (0, (((((k.1.1.1.1, ag_rep k (own_T T)), (k.1.1.2.1, k.1.1.2.2)), ((k.1.2.1.1, k.1.2.1.2), (k.1.2.2.1 + 1, k.1.2.2.2))), (((k.2.1.1.1, k.2.1.1.2), (true, 0)), ((k.2.2.1.1, k.2.2.1.2), k.2.2.2))) : Ky), tm_mk (own_T T) [2, nI k.1.2.2.2]) := by
  unfold ag_k at h0 ⊢
  rw [recv_ag] at h0 ⊢
  by_cases hon : k.1.1.1.1.2.1 = false
  · rw [if_pos hon] at h0; cases h0
  · rw [if_neg hon]
    exact ⟨by simpa using hon, rfl⟩
theorem ag_kg {h : Hd} {k : Ky} {T : Tm} (hg : kg k) : kg (ag_k h k T).2.1 := by
  unfold ag_k
  rw [recv_ag]
  split
  · exact (kg_mk_ hg.w hg.g hg.p hg.x hg.l)
  · exact (kg_mk_ hg.w hg.g hg.p hg.x (Nat.zero_le _))
theorem own_len1 (T : Tm) : (own_T T).1.length ≤ T.1.length + 1 := tm_mk_len (own_T1 T) _
theorem ag_len (h : Hd) (k : Ky) (T : Tm) : (ag_k h k T).2.2.1.length ≤ T.1.length + 2 := by
  have := own_len1 T
  unfold ag_k
  rw [recv_ag]
  split
  · dsimp only; omega
  · have := tm_mk_len (own_T T) [2, nI k.1.2.2.2]
    dsimp only; omega
theorem agT_len (h : Hd) (k : Ky) (T : Tm) : (ag_T h k T).1.length ≤ T.1.length + 3 := by
  have := ag_len h k T
  have := tm_mk_len (ag_k h k T).2.2 (tm_agr (own_h h T).2.2.1 (tm_sec (ag_k h k T).2.2.1 (w4a (ag_k h k T).2.1.1.1.1.2 4)))
  show (tm_mk _ _).1.length ≤ _
  omega
theorem ag_r8 (h : Hd) (k : Ky) (T : Tm) (h0 : (ag_k h k T).1 = 0) : (ag_k h k T).2.1.1.1.1.2.length = 8 := by
  rw [(ag_st h k T h0).2]
  rfl
/-- the asking for a token -/
def ulMsg (a b c d e f g h : Int32) : List Int32 := [6, 164, 1, 1, 2, 5, 3, 68, a, b, c, d, 6, 68, e, f, g, h]
theorem lf_n {ms : List Int32} {p v : Nat} (h : cbB ms p = v) (hv : v < 24) : cbS ms p = 0 ∧ cbX ms p = v ∧ cbV ms p = v ∧ cbC ms p = p + 1 := by
  have h1 : cbS ms p = 0 := by unfold cbS; omega
  have h2 : cbX ms p = v := by unfold cbX; omega
  refine ⟨h1, h2, ?_, ?_⟩
  · unfold cbV; rw [h2, if_pos hv]
  · unfold cbC cbN; rw [h2, if_pos hv]
theorem lf_i {ms : List Int32} {r p v : Nat} (h : cbB ms p = v) (hv : v < 24) (hp : p < ms.length) : cbI ms r p = some (p + 1) := by
  obtain ⟨h1, h2, h3, h4⟩ := lf_n h hv
  have hok : cbOk ms p := ⟨hp, by omega, by omega, by omega, by omega, by omega, by omega, by omega⟩
  cases r <;> (unfold cbI; rw [if_neg (not_not_intro hok), if_neg (by omega), if_neg (by omega), h4])
theorem l4_n {ms : List Int32} {p : Nat} (h : cbB ms p = 68) : cbS ms p = 2 ∧ cbX ms p = 4 ∧ cbV ms p = 4 ∧ cbC ms p = p + 1 := by
  have h1 : cbS ms p = 2 := by unfold cbS; omega
  have h2 : cbX ms p = 4 := by unfold cbX; omega
  refine ⟨h1, h2, ?_, ?_⟩
  · unfold cbV; rw [h2, if_pos (by omega)]
  · unfold cbC cbN; rw [h2, if_pos (by omega)]
theorem l4_i {ms : List Int32} {r p : Nat} (h : cbB ms p = 68) (hp : p + 5 ≤ ms.length) : cbI ms r p = some (p + 5) := by
  obtain ⟨h1, h2, h3, h4⟩ := l4_n h
  have hok : cbOk ms p := ⟨by omega, by omega, by omega, by omega, by omega, by omega, by omega, by omega⟩
  cases r <;> (unfold cbI; rw [if_neg (not_not_intro hok), if_pos (by omega), h4, h3])
theorem q_step {I : Nat → Option Nat} {ms : List Int32} {n : Nat} {k : Option (Nat × Nat)} {p q q2 : Nat} (h1 : I p = some q) (hk : cbKy ms k p q = true) (h2 : I q = some q2) : cbQ I ms true (n + 1) k p = cbQ I ms true n (some (p, q)) q2 := by
  conv => lhs; unfold cbQ
  rw [if_pos rfl, h1]
  dsimp only
  rw [if_pos hk, h2]
theorem ky_first0 {ms : List Int32} {p q v : Nat} (h : cbB ms p = v) (hv : v < 24) : cbKy ms none p q = true := by
  unfold cbKy; rw [(lf_n h hv).1]; rfl
theorem ky_step {ms : List Int32} {a p v w : Nat} (ha : cbB ms a = v) (h : cbB ms p = w) (hv : v < w) (hw : w < 24) : cbKy ms (some (a, a + 1)) p (p + 1) = true := by
  unfold cbKy
  rw [(lf_n h hw).1]
  show (true && cbLt ms a (a + 1) p (p + 1)) = true
  unfold cbLt
  rw [(lf_n h hw).1, (lf_n ha (by omega)).1, if_neg (by omega), if_neg (by omega)]
  rw [show p + 1 - p = 1 from by omega]
  unfold cbLx
  rw [ha, h, if_neg (by omega)]
  simp; omega
theorem mp_n {ms : List Int32} {p n : Nat} (h : cbB ms p = 160 + n) (hn : n < 24) : cbS ms p = 5 ∧ cbX ms p = n ∧ cbV ms p = n ∧ cbC ms p = p + 1 := by
  have h1 : cbS ms p = 5 := by unfold cbS; omega
  have h2 : cbX ms p = n := by unfold cbX; omega
  refine ⟨h1, h2, ?_, ?_⟩
  · unfold cbV; rw [h2, if_pos hn]
  · unfold cbC cbN; rw [h2, if_pos hn]
theorem mp_i {ms : List Int32} {r p n q : Nat} (h : cbB ms p = 160 + n) (hn : n < 24) (hp : p < ms.length) (hq : cbQ (cbI ms r) ms true n none (p + 1) = some q) : cbI ms (r + 1) p = some q := by
  obtain ⟨h1, h2, h3, h4⟩ := mp_n h hn
  have hok : cbOk ms p := ⟨hp, by omega, by omega, by omega, by omega, by omega, by omega, by omega⟩
  unfold cbI
  rw [if_neg (not_not_intro hok), if_neg (by omega), if_pos (by omega), h1, h3, h4]
  exact hq
theorem mm_step {ms : List Int32} {f : Nat → Bool} {n p q q2 : Nat} (h1 : cbE ms p = q) (h2 : cbE ms q = q2) : cbMem ms f (n + 1) p = if f p then some q else cbMem ms f n q2 := by
  conv => lhs; unfold cbMem
  rw [h1, h2]
section UL
variable (a b c d e f g h : Int32)
theorem ul_1 : cbB (ulMsg a b c d e f g h) 1 = 164 := rfl
theorem ul_2' : cbB (ulMsg a b c d e f g h) 2 = 1 := rfl
theorem ul_3 : cbB (ulMsg a b c d e f g h) 3 = 1 := rfl
theorem ul_4 : cbB (ulMsg a b c d e f g h) 4 = 2 := rfl
theorem ul_5 : cbB (ulMsg a b c d e f g h) 5 = 5 := rfl
theorem ul_6 : cbB (ulMsg a b c d e f g h) 6 = 3 := rfl
theorem ul_7 : cbB (ulMsg a b c d e f g h) 7 = 68 := rfl
theorem ul_12 : cbB (ulMsg a b c d e f g h) 12 = 6 := rfl
theorem ul_13 : cbB (ulMsg a b c d e f g h) 13 = 68 := rfl
theorem ul_0 : cbB (ulMsg a b c d e f g h) 0 = 6 := rfl
theorem ul_len : (ulMsg a b c d e f g h).length = 18 := rfl
theorem ul_i : cbI (ulMsg a b c d e f g h) 4 1 = some 18 := by
  refine mp_i (n := 4) (ul_1 ..) (by omega) (by rw [ul_len]; omega) ?_
  rw [q_step (lf_i (ul_2' ..) (by omega) (by rw [ul_len]; omega)) (ky_first0 (ul_2' ..) (by omega)) (lf_i (ul_3 ..) (by omega) (by rw [ul_len]; omega))]
  rw [q_step (lf_i (ul_4 ..) (by omega) (by rw [ul_len]; omega)) (ky_step (ul_2' ..) (ul_4 ..) (by omega) (by omega)) (lf_i (ul_5 ..) (by omega) (by rw [ul_len]; omega))]
  rw [q_step (lf_i (ul_6 ..) (by omega) (by rw [ul_len]; omega)) (ky_step (ul_4 ..) (ul_6 ..) (by omega) (by omega)) (l4_i (ul_7 ..) (by rw [ul_len]; omega))]
  rw [q_step (lf_i (ul_12 ..) (by omega) (by rw [ul_len]; omega)) (ky_step (ul_6 ..) (ul_12 ..) (by omega) (by omega)) (l4_i (ul_13 ..) (by rw [ul_len]; omega))]
  rfl
theorem ul_e2 : cbE (ulMsg a b c d e f g h) 2 = 3 := cbE_eq (lf_i (r := 0) (ul_2' ..) (by omega) (by rw [ul_len]; omega)) (by omega)
theorem ul_e3 : cbE (ulMsg a b c d e f g h) 3 = 4 := cbE_eq (lf_i (r := 0) (ul_3 ..) (by omega) (by rw [ul_len]; omega)) (by omega)
theorem ul_e4 : cbE (ulMsg a b c d e f g h) 4 = 5 := cbE_eq (lf_i (r := 0) (ul_4 ..) (by omega) (by rw [ul_len]; omega)) (by omega)
theorem ul_e5 : cbE (ulMsg a b c d e f g h) 5 = 6 := cbE_eq (lf_i (r := 0) (ul_5 ..) (by omega) (by rw [ul_len]; omega)) (by omega)
theorem ul_e6 : cbE (ulMsg a b c d e f g h) 6 = 7 := cbE_eq (lf_i (r := 0) (ul_6 ..) (by omega) (by rw [ul_len]; omega)) (by omega)
theorem ul_e7 : cbE (ulMsg a b c d e f g h) 7 = 12 := cbE_eq (l4_i (r := 0) (ul_7 ..) (by rw [ul_len]; omega)) (by omega)
theorem ul_e12 : cbE (ulMsg a b c d e f g h) 12 = 13 := cbE_eq (lf_i (r := 0) (ul_12 ..) (by omega) (by rw [ul_len]; omega)) (by omega)
theorem ul_e13 : cbE (ulMsg a b c d e f g h) 13 = 18 := cbE_eq (l4_i (r := 0) (ul_13 ..) (by rw [ul_len]; omega)) (by omega)
theorem ul_mem (num : Nat) : mem (ulMsg a b c d e f g h) num = if num = 1 then some 3 else if num = 2 then some 5 else if num = 3 then some 7 else if num = 6 then some 13 else none := by
  unfold mem cbMb
  have h1 := mp_n (n := 4) (ul_1 a b c d e f g h) (by omega)
  dsimp only
  rw [if_pos h1.1, h1.2.2.1, h1.2.2.2]
  rw [mm_step (ul_e2 ..) (ul_e3 ..), mm_step (ul_e4 ..) (ul_e5 ..), mm_step (ul_e6 ..) (ul_e7 ..), mm_step (ul_e12 ..) (ul_e13 ..)]
  have i2 := lf_n (ul_2' a b c d e f g h) (by omega)
  have i4 := lf_n (ul_4 a b c d e f g h) (by omega)
  have i6 := lf_n (ul_6 a b c d e f g h) (by omega)
  have i12 := lf_n (ul_12 a b c d e f g h) (by omega)
  simp only [cbIs, i2.1, i2.2.2.1, i4.1, i4.2.2.1, i6.1, i6.2.2.1, i12.1, i12.2.2.1, decide_true, Bool.true_and, decide_eq_true_eq, cbMem, eq_comm (a := num)]
theorem ul_v2 : oVn (ulMsg a b c d e f g h) (some 5) = 5 := (lf_n (ul_5 ..) (by omega)).2.2.1
end UL
end
/- 9d.ul -/
section
set_option maxRecDepth 512
/-! The answer to an asking for a token: pure. -/
theorem ul_msg (own x : Int32) : pnMsg 164 5 own (mbr 6 x) = ulMsg (nI (uN own / 16777216 % 256)) (nI (uN own / 65536 % 256)) (nI (uN own / 256 % 256)) (nI (uN own % 256)) (nI (uN x / 16777216 % 256)) (nI (uN x / 65536 % 256)) (nI (uN x / 256 % 256)) (nI (uN x % 256)) := rfl
theorem try_0 {ms : List Int32} {k : Ky} {T : Tm} {sh : Int32} (h0 : (ky_tryPin ms k T sh).1 = 0) (hon : (ky_tryPin ms k T sh).2.1.1.1.1.1.2.1 = true) : (ky_tryPin ms k T sh).2.1 = ((((((ky_w (pn_k1 k) (rcn 3 8 0)).1.1.1.1, (ky_w (pn_k1 k) (rcn 3 8 0)).1.1.1.2), ((ky_w (pn_k1 k) (rcn 3 8 0)).1.1.2.1, (ky_w (pn_k1 k) (rcn 3 8 0)).1.1.2.2)), (((ky_w (pn_k1 k) (rcn 3 8 0)).1.2.1.1, (ky_w (pn_k1 k) (rcn 3 8 0)).1.2.1.2), ((ky_w (pn_k1 k) (rcn 3 8 0)).1.2.2.1, (ky_w (pn_k1 k) (rcn 3 8 0)).1.2.2.2))), ((((ky_w (pn_k1 k) (rcn 3 8 0)).2.1.1.1, 0), ((ky_w (pn_k1 k) (rcn 3 8 0)).2.1.2.1, (ky_w (pn_k1 k) (rcn 3 8 0)).2.1.2.2)), (((ky_w (pn_k1 k) (rcn 3 8 0)).2.2.1.1, (ky_w (pn_k1 k) (rcn 3 8 0)).2.2.1.2), (ky_w (pn_k1 k) (rcn 3 8 0)).2.2.2))) : Ky) ∧ (ky_tryPin ms k T sh).2.2 = T := by
  unfold ky_tryPin at h0 hon ⊢
  by_cases h1 : (fs_wr (rcn 3 (k.1.1.1.1.2.2.2.2.2.2.2.2.2.1 - 1) 0) k.1.1.1.1).2 = false
  · rw [if_pos h1] at hon
    rcases fs_wr_onk (rcn 3 (k.1.1.1.1.2.2.2.2.2.2.2.2.2.1 - 1) 0) k.1.1.1.1 with h | h
    · rw [h1] at h; cases h.1
    · exact absurd hon (by show ¬ (pn_k1 k).1.1.1.1.2.1 = true; rw [show (pn_k1 k).1.1.1.1.2.1 = false from h.2]; decide)
  · rw [if_neg h1] at h0 ⊢
    by_cases h2 : kn_as T (4 :: sh :: b4 (pn_k1 k).1.1.1.1.2.2.2.2.2.2.2.2.1) (o4 ms (mem ms 6)) = true
    · rw [if_pos h2]; exact ⟨rfl, rfl⟩
    · rw [if_neg h2] at h0
      dsimp only at h0
      split at h0
      · cases h0
      · split at h0 <;> cases h0
/-- a status of 0 of a message that is received -/
theorem recv_0 {ms : List Int32} {k : Ky} {T : Tm} (h : (ky_recv ms k T).1 = 0) : k.1.1.1.1.2.1 = true ∧ ky_form ms = 0 ∧ (ky_cmd ms (ky_r1 ms k) T).1 = 0 ∧ (ky_cmd ms (ky_r1 ms k) T).2.1.1.1.1.1.2.1 = true ∧ (ky_recv ms k T).2.1 = (((((((ky_cmd ms (ky_r1 ms k) T).2.1).1.1.1.1, ((ky_cmd ms (ky_r1 ms k) T).2.1).1.1.1.2), (((ky_cmd ms (ky_r1 ms k) T).2.1).1.1.2.1, ((ky_cmd ms (ky_r1 ms k) T).2.1).1.1.2.2)), ((((ky_cmd ms (ky_r1 ms k) T).2.1).1.2.1.1, ((ky_cmd ms (ky_r1 ms k) T).2.1).1.2.1.2), ((ky_cmd ms (ky_r1 ms k) T).2.1.1.2.2.1 + 1, ((ky_cmd ms (ky_r1 ms k) T).2.1).1.2.2.2))), (((((ky_cmd ms (ky_r1 ms k) T).2.1).2.1.1.1, ((ky_cmd ms (ky_r1 ms k) T).2.1).2.1.1.2), (true, ((ky_cmd ms (ky_r1 ms k) T).2.1).2.1.2.2)), ((((ky_cmd ms (ky_r1 ms k) T).2.1).2.2.1.1, ((ky_cmd ms (ky_r1 ms k) T).2.1).2.2.1.2), ((ky_cmd ms (ky_r1 ms k) T).2.1).2.2.2))) : Ky) ∧ (ky_recv ms k T).2.2 = (ky_cmd ms (ky_r1 ms k) T).2.2 := by
  unfold ky_recv at h ⊢
  by_cases hon : k.1.1.1.1.2.1 = false
  · rw [if_pos hon] at h; cases h
  rw [if_neg hon] at h ⊢
  by_cases hfm : ky_form ms = 0
  · have e : ky_r2 ms k T = ky_cmd ms (ky_r1 ms k) T := by unfold ky_r2; rw [if_neg (by simp [hfm])]
    rw [e] at h ⊢
    dsimp only at h ⊢
    unfold st_end at h
    by_cases h2 : ((((((((ky_cmd ms (ky_r1 ms k) T).2.1).1.1.1.1, ((ky_cmd ms (ky_r1 ms k) T).2.1).1.1.1.2), (((ky_cmd ms (ky_r1 ms k) T).2.1).1.1.2.1, ((ky_cmd ms (ky_r1 ms k) T).2.1).1.1.2.2)), ((((ky_cmd ms (ky_r1 ms k) T).2.1).1.2.1.1, ((ky_cmd ms (ky_r1 ms k) T).2.1).1.2.1.2), (((ky_cmd ms (ky_r1 ms k) T).2.1).1.2.2.1, ((ky_cmd ms (ky_r1 ms k) T).2.1).1.2.2.2))), (((((ky_cmd ms (ky_r1 ms k) T).2.1).2.1.1.1, ((ky_cmd ms (ky_r1 ms k) T).2.1).2.1.1.2), (true, ((ky_cmd ms (ky_r1 ms k) T).2.1).2.1.2.2)), ((((ky_cmd ms (ky_r1 ms k) T).2.1).2.2.1.1, ((ky_cmd ms (ky_r1 ms k) T).2.1).2.2.1.2), ((ky_cmd ms (ky_r1 ms k) T).2.1).2.2.2))) : Ky) : Ky).1.1.1.1.2.1 = false
    · rw [if_pos h2] at h; cases h
    · rw [if_neg h2] at h
      have h3 : (ky_cmd ms (ky_r1 ms k) T).2.1.1.1.1.1.2.1 = true := by simpa using h2
      refine ⟨by simpa using hon, hfm, h, h3, ?_, rfl⟩
      unfold ky_end
      rw [if_neg h2, if_pos h]
  · have e : ky_r2 ms k T = (ky_form ms, ky_r1 ms k, T) := by unfold ky_r2; rw [if_pos hfm]
    rw [e] at h
    dsimp only at h
    unfold st_end at h
    split at h
    · cases h
    · exact absurd h hfm
theorem ul_ok {k : Ky} {T : Tm} {own x : Int32} (h : (ky_recv (pnMsg 164 5 own (mbr 6 x)) k T).1 = 0) :
    (ky_recv (pnMsg 164 5 own (mbr 6 x)) k T).2.1.1.1.1.2 = [0] ++ (161 :: nI 2 :: 68 :: b4 (nI (tm_no T [9, nI (pn_sh k T (pnMsg 164 5 own (mbr 6 x))), nI k.2.1.1.1]))) ∧ (ky_recv (pnMsg 164 5 own (mbr 6 x)) k T).2.2 = tm_mk T [9, nI (pn_sh k T (pnMsg 164 5 own (mbr 6 x))), nI k.2.1.1.1] := by
  obtain ⟨hon, hfm, h0, h1, h2, h3⟩ := recv_0 h
  rw [h2, h3]
  rw [ul_msg] at *
  generalize hms : ulMsg _ _ _ _ _ _ _ _ = ms at *
  have e0 : cbB ms 0 = 6 := by rw [← hms]; rfl
  have e2 : oVn ms (mem ms 2) = 5 := by rw [← hms, ul_mem]; exact ul_v2 ..
  unfold ky_cmd at h0 h1 ⊢
  rw [e0, if_neg (by decide), if_neg (by decide), if_neg (by decide), if_pos rfl] at h0 h1 ⊢
  have esh : pn_sh (ky_r1 ms k) T ms = pn_sh k T ms := rfl
  unfold ky_doPin at h0 h1 ⊢
  by_cases hf : pnFault T ms (oVn ms (mem ms 2)) = 0; rotate_left
  · rw [if_pos hf] at h0; exact absurd h0 hf
  rw [if_neg (by simp [hf]), e2, if_neg (by decide), if_neg (by decide), esh] at h0 h1 ⊢
  unfold pn_late at h0 h1 ⊢
  rw [if_neg (show ¬ 5 = 3 by decide), if_neg (show ¬ 5 = 3 by decide)] at h0 h1 ⊢
  by_cases hp : pn_try (ky_r1 ms k) = 0; rotate_left
  · rw [if_pos hp] at h0; exact absurd h0 hp
  rw [if_neg (by simp [hp]), if_neg (by simp)] at h0 h1 ⊢
  unfold pn_then at h0 h1 ⊢
  by_cases ht : (ky_tryPin ms (ky_r1 ms k) T (nI (pn_sh k T ms))).1 ≠ 0 ∨ (ky_tryPin ms (ky_r1 ms k) T (nI (pn_sh k T ms))).2.1.1.1.1.1.2.1 = false
  · rw [if_pos ht] at h0 h1
    rcases ht with ht | ht
    · exact absurd h0 ht
    · rw [ht] at h1; cases h1
  rw [if_neg ht, if_neg (by decide)] at h0 h1 ⊢
  simp only [not_or, ne_eq, Decidable.not_not, Bool.not_eq_false] at ht
  obtain ⟨t1, t2⟩ := try_0 ht.1 ht.2
  unfold pn_tok
  rw [t1, t2]
  exact ⟨rfl, rfl⟩
end
/- 9e.h6 -/
section
set_option maxRecDepth 512
/-! Class: the house: setPin, changePin, unlock. -/
/- 180 PasskeyHouse.setPin(II)I -/
theorem s180_0 {d : Nat} {ls : mj_L} {st : List Value} {M : mj_H} : mj_Rn d mj_m180 0 ls st M = mq_k0 d mj_m180 1 ls M (mj_lda (mj_lk ls 0) st) := mj_R0 (r := (.aload_n 0, 1, 0, 0, 0)) rfl rfl
theorem s180_1 {d : Nat} {ls : mj_L} {st : List Value} {M : mj_H} : mj_Rn d mj_m180 1 ls st M = mq_k0 d mj_m180 2 ls M (mj_ldi (mj_lk ls 1) st) := mj_R0 (r := (.iload_n 1, 1, 0, 0, 0)) rfl rfl
theorem s180_2 {d : Nat} {ls : mj_L} {st : List Value} {M : mj_H} : mj_Rn (d + 1) mj_m180 2 ls st M = mq_k5a (d + 1) mj_m180 5 ls M 168 (mq_cb 0 1 10 st M) := mj_R5e (r := (.invokevirtual 149, 3, 0, 168, 20562)) (z := mj_m168) rfl rfl (by decide) (by decide) rfl
theorem s180_5 {d : Nat} {ls : mj_L} {st : List Value} {M : mj_H} : mj_Rn d mj_m180 5 ls st M = mq_k1 d mj_m180 6 M (mj_lo 9 (.astore 3) ls st) := (mj_R1 (r := (.astore_n 3, 1, 0, 0, 0)) rfl rfl).trans (congrArg (mq_k1 d mj_m180 6 M) (mq_sta (k := 3)))
theorem s180_6 {d : Nat} {ls : mj_L} {st : List Value} {M : mj_H} : mj_Rn d mj_m180 6 ls st M = mq_k0 d mj_m180 7 ls M (mj_lda (mj_lk ls 0) st) := mj_R0 (r := (.aload_n 0, 1, 0, 0, 0)) rfl rfl
theorem s180_7 {d : Nat} {ls : mj_L} {st : List Value} {M : mj_H} : mj_Rn d mj_m180 7 ls st M = mq_k0 d mj_m180 8 ls M (mj_ldi (mj_lk ls 2) st) := mj_R0 (r := (.iload_n 2, 1, 0, 0, 0)) rfl rfl
theorem s180_8 {d : Nat} {ls : mj_L} {st : List Value} {M : mj_H} : mj_Rn (d + 1) mj_m180 8 ls st M = mq_k5a (d + 1) mj_m180 11 ls M 68 (mq_cb 0 1 10 st M) := mj_R5e (r := (.invokevirtual 97, 3, 0, 68, 12393)) (z := mj_m68) rfl rfl (by decide) (by decide) rfl
theorem s180_11 {d : Nat} {ls : mj_L} {st : List Value} {M : mj_H} : mj_Rn d mj_m180 11 ls st M = mq_k1 d mj_m180 13 M (mj_lo 9 (.astore 4) ls st) := mj_R1 (r := (.astore 4, 2, 0, 0, 0)) rfl rfl
theorem s180_13 {d : Nat} {ls : mj_L} {st : List Value} {M : mj_H} : mj_Rn d mj_m180 13 ls st M = mq_k0 d mj_m180 14 ls M (mj_lda (mj_lk ls 3) st) := mj_R0 (r := (.aload_n 3, 1, 0, 0, 0)) rfl rfl
theorem s180_14 {d : Nat} {ls : mj_L} {st : List Value} {M : mj_H} : mj_Rn d mj_m180 14 ls st M = mq_k2 d mj_m180 ls M (mj_br (.ifnull 8) 14 st) := mj_R2 (r := (.ifnull 8, 3, 0, 0, 0)) rfl rfl
theorem s180_17 {d : Nat} {ls : mj_L} {st : List Value} {M : mj_H} : mj_Rn d mj_m180 17 ls st M = mq_k0 d mj_m180 19 ls M (mj_lda (mj_lk ls 4) st) := mj_R0 (r := (.aload 4, 2, 0, 0, 0)) rfl rfl
theorem s180_19 {d : Nat} {ls : mj_L} {st : List Value} {M : mj_H} : mj_Rn d mj_m180 19 ls st M = mq_k2 d mj_m180 ls M (mj_br (.ifnonnull 5) 19 st) := mj_R2 (r := (.ifnonnull 5, 3, 0, 0, 0)) rfl rfl
theorem s180_22 {d : Nat} {ls : mj_L} {st : List Value} {M : mj_H} : mj_Rn d mj_m180 22 ls st M = mj_Rn d mj_m180 23 ls (.int (-1) :: st) M := mj_R0 (r := (.iconst (-1), 1, 0, 0, 0)) rfl rfl
theorem s180_23 {d : Nat} {ls : mj_L} {st : List Value} {M : mj_H} : mj_Rn d mj_m180 23 ls st M = mq_k6 M (mj_re (some .int) (.ireturn) st) := mj_R6 (r := (.ireturn, 1, 0, 0, 0)) rfl rfl
theorem s180_24 {d : Nat} {ls : mj_L} {st : List Value} {M : mj_H} : mj_Rn d mj_m180 24 ls st M = mq_k0 d mj_m180 25 ls M (mj_lda (mj_lk ls 0) st) := mj_R0 (r := (.aload_n 0, 1, 0, 0, 0)) rfl rfl
theorem s180_25 {d : Nat} {ls : mj_L} {st : List Value} {M : mj_H} : mj_Rn d mj_m180 25 ls st M = mq_k0 d mj_m180 26 ls M (mj_lda (mj_lk ls 3) st) := mj_R0 (r := (.aload_n 3, 1, 0, 0, 0)) rfl rfl
theorem s180_26 {d : Nat} {ls : mj_L} {st : List Value} {M : mj_H} : mj_Rn (d + 1) mj_m180 26 ls st M = mq_k5a (d + 1) mj_m180 29 ls M 169 (mq_cb 0 1 10 st M) := mj_R5e (r := (.invokevirtual 153, 3, 0, 169, 20566)) (z := mj_m169) rfl rfl (by decide) (by decide) rfl
theorem s180_29 {d : Nat} {ls : mj_L} {st : List Value} {M : mj_H} : mj_Rn d mj_m180 29 ls st M = mq_k1 d mj_m180 31 M (mj_lo 9 (.istore 5) ls st) := mj_R1 (r := (.istore 5, 2, 0, 0, 0)) rfl rfl
theorem s180_31 {d : Nat} {ls : mj_L} {st : List Value} {M : mj_H} : mj_Rn d mj_m180 31 ls st M = mq_k0 d mj_m180 32 ls M (mj_lda (mj_lk ls 0) st) := mj_R0 (r := (.aload_n 0, 1, 0, 0, 0)) rfl rfl
theorem s180_32 {d : Nat} {ls : mj_L} {st : List Value} {M : mj_H} : mj_Rn (d + 1) mj_m180 32 ls st M = mq_k5a (d + 1) mj_m180 35 ls M 181 (mq_cb 0 0 10 st M) := mj_R5e (r := (.invokevirtual 203, 3, 0, 181, 20624)) (z := mj_m181) rfl rfl (by decide) (by decide) rfl
theorem s180_35 {d : Nat} {ls : mj_L} {st : List Value} {M : mj_H} : mj_Rn d mj_m180 35 ls st M = mq_k0 d mj_m180 37 ls M (mj_lda (mj_lk ls 4) st) := mj_R0 (r := (.aload 4, 2, 0, 0, 0)) rfl rfl
theorem s180_37 {d : Nat} {ls : mj_L} {st : List Value} {M : mj_H} : mj_Rn d mj_m180 37 ls st M = mq_k0 d mj_m180 38 ls M (mj_lda (mj_lk ls 0) st) := mj_R0 (r := (.aload_n 0, 1, 0, 0, 0)) rfl rfl
theorem s180_38 {d : Nat} {ls : mj_L} {st : List Value} {M : mj_H} : mj_Rn d mj_m180 38 ls st M = mq_k0 d mj_m180 41 ls M (mq_gf 10 1 st M) := (mj_R3 (r := (.getfield 18, 3, 10, 1, 8488)) rfl rfl).trans (congrArg (mq_k0 d mj_m180 41 ls M) mq_gf_eq)
theorem s180_41 {d : Nat} {ls : mj_L} {st : List Value} {M : mj_H} : mj_Rn (d + 1) mj_m180 41 ls st M = mq_k5a (d + 1) mj_m180 44 ls M 78 (mq_cb 0 1 5 st M) := mj_R5e (r := (.invokevirtual 122, 3, 0, 78, 12435)) (z := mj_m78) rfl rfl (by decide) (by decide) rfl
theorem s180_44 {d : Nat} {ls : mj_L} {st : List Value} {M : mj_H} : mj_Rn d mj_m180 44 ls st M = mq_k1 d mj_m180 46 M (mj_lo 9 (.istore 6) ls st) := mj_R1 (r := (.istore 6, 2, 0, 0, 0)) rfl rfl
theorem s180_46 {d : Nat} {ls : mj_L} {st : List Value} {M : mj_H} : mj_Rn d mj_m180 46 ls st M = mq_k0 d mj_m180 48 ls M (mj_ldi (mj_lk ls 6) st) := mj_R0 (r := (.iload 6, 2, 0, 0, 0)) rfl rfl
theorem s180_48 {d : Nat} {ls : mj_L} {st : List Value} {M : mj_H} : mj_Rn d mj_m180 48 ls st M = mq_k2 d mj_m180 ls M (mj_br (.ifCond .eq 6) 48 st) := mj_R2 (r := (.ifCond .eq 6, 3, 0, 0, 0)) rfl rfl
theorem s180_51 {d : Nat} {ls : mj_L} {st : List Value} {M : mj_H} : mj_Rn d mj_m180 51 ls st M = mq_k0 d mj_m180 53 ls M (mj_ldi (mj_lk ls 6) st) := mj_R0 (r := (.iload 6, 2, 0, 0, 0)) rfl rfl
theorem s180_53 {d : Nat} {ls : mj_L} {st : List Value} {M : mj_H} : mj_Rn d mj_m180 53 ls st M = mq_k6 M (mj_re (some .int) (.ireturn) st) := mj_R6 (r := (.ireturn, 1, 0, 0, 0)) rfl rfl
theorem s180_54 {d : Nat} {ls : mj_L} {st : List Value} {M : mj_H} : mj_Rn d mj_m180 54 ls st M = mq_k0 d mj_m180 55 ls M (mj_lda (mj_lk ls 0) st) := mj_R0 (r := (.aload_n 0, 1, 0, 0, 0)) rfl rfl
theorem s180_55 {d : Nat} {ls : mj_L} {st : List Value} {M : mj_H} : mj_Rn d mj_m180 55 ls st M = mq_k0 d mj_m180 56 ls M (mj_lda (mj_lk ls 3) st) := mj_R0 (r := (.aload_n 3, 1, 0, 0, 0)) rfl rfl
theorem s180_56 {d : Nat} {ls : mj_L} {st : List Value} {M : mj_H} : mj_Rn d mj_m180 56 ls st M = mq_k0 d mj_m180 58 ls M (mj_lda (mj_lk ls 4) st) := mj_R0 (r := (.aload 4, 2, 0, 0, 0)) rfl rfl
theorem s180_58 {d : Nat} {ls : mj_L} {st : List Value} {M : mj_H} : mj_Rn d mj_m180 58 ls st M = mq_k0 d mj_m180 61 ls M (mq_gf 5 3 st M) := (mj_R3 (r := (.getfield 126, 3, 5, 3, 16607)) rfl rfl).trans (congrArg (mq_k0 d mj_m180 61 ls M) mq_gf_eq)
theorem s180_61 {d : Nat} {ls : mj_L} {st : List Value} {M : mj_H} : mj_Rn (d + 1) mj_m180 61 ls st M = mq_k5a (d + 1) mj_m180 64 ls M 182 (mq_cb 0 2 10 st M) := mj_R5e (r := (.invokevirtual 206, 3, 0, 182, 20629)) (z := mj_m182) rfl rfl (by decide) (by decide) rfl
theorem s180_64 {d : Nat} {ls : mj_L} {st : List Value} {M : mj_H} : mj_Rn d mj_m180 64 ls st M = mq_k0 d mj_m180 65 ls M (mj_lda (mj_lk ls 0) st) := mj_R0 (r := (.aload_n 0, 1, 0, 0, 0)) rfl rfl
theorem s180_65 {d : Nat} {ls : mj_L} {st : List Value} {M : mj_H} : mj_Rn d mj_m180 65 ls st M = mq_k0 d mj_m180 66 ls M (mj_lda (mj_lk ls 3) st) := mj_R0 (r := (.aload_n 3, 1, 0, 0, 0)) rfl rfl
theorem s180_66 {d : Nat} {ls : mj_L} {st : List Value} {M : mj_H} : mj_Rn d mj_m180 66 ls st M = mq_k0 d mj_m180 67 ls M (mj_lda (mj_lk ls 3) st) := mj_R0 (r := (.aload_n 3, 1, 0, 0, 0)) rfl rfl
theorem s180_67 {d : Nat} {ls : mj_L} {st : List Value} {M : mj_H} : mj_Rn d mj_m180 67 ls st M = mq_k0 d mj_m180 70 ls M (mq_gf 3 0 st M) := (mj_R3 (r := (.getfield 197, 3, 3, 0, 8443)) rfl rfl).trans (congrArg (mq_k0 d mj_m180 70 ls M) mq_gf_eq)
theorem s180_70 {d : Nat} {ls : mj_L} {st : List Value} {M : mj_H} : mj_Rn d mj_m180 70 ls st M = mq_k0 d mj_m180 71 ls M (mj_lda (mj_lk ls 3) st) := mj_R0 (r := (.aload_n 3, 1, 0, 0, 0)) rfl rfl
theorem s180_71 {d : Nat} {ls : mj_L} {st : List Value} {M : mj_H} : mj_Rn d mj_m180 71 ls st M = mq_k0 d mj_m180 74 ls M (mq_gf 3 0 st M) := (mj_R3 (r := (.getfield 197, 3, 3, 0, 8443)) rfl rfl).trans (congrArg (mq_k0 d mj_m180 74 ls M) mq_gf_eq)
theorem s180_74 {d : Nat} {ls : mj_L} {st : List Value} {M : mj_H} : mj_Rn (d + 1) mj_m180 74 ls st M = mq_k5a (d + 1) mj_m180 77 ls M 9 (mq_cb 0 0 1 st M) := mj_R5e (r := (.invokevirtual 65, 3, 0, 9, 4278)) (z := mj_m9) rfl rfl (by decide) (by decide) rfl
theorem s180_77 {d : Nat} {ls : mj_L} {st : List Value} {M : mj_H} : mj_Rn (d + 1) mj_m180 77 ls st M = mq_k5a (d + 1) mj_m180 80 ls M 183 (mq_cb 0 3 10 st M) := mj_R5e (r := (.invokevirtual 210, 3, 0, 183, 20634)) (z := mj_m183) rfl rfl (by decide) (by decide) rfl
theorem s180_80 {d : Nat} {ls : mj_L} {st : List Value} {M : mj_H} : mj_Rn d mj_m180 80 ls st M = mq_k1 d mj_m180 82 M (mj_lo 9 (.istore 7) ls st) := mj_R1 (r := (.istore 7, 2, 0, 0, 0)) rfl rfl
theorem s180_82 {d : Nat} {ls : mj_L} {st : List Value} {M : mj_H} : mj_Rn d mj_m180 82 ls st M = mq_k0 d mj_m180 83 ls M (mj_lda (mj_lk ls 0) st) := mj_R0 (r := (.aload_n 0, 1, 0, 0, 0)) rfl rfl
theorem s180_83 {d : Nat} {ls : mj_L} {st : List Value} {M : mj_H} : mj_Rn d mj_m180 83 ls st M = mq_k0 d mj_m180 84 ls M (mj_lda (mj_lk ls 3) st) := mj_R0 (r := (.aload_n 3, 1, 0, 0, 0)) rfl rfl
theorem s180_84 {d : Nat} {ls : mj_L} {st : List Value} {M : mj_H} : mj_Rn d mj_m180 84 ls st M = mq_k0 d mj_m180 86 ls M (mj_ldi (mj_lk ls 7) st) := mj_R0 (r := (.iload 7, 2, 0, 0, 0)) rfl rfl
theorem s180_86 {d : Nat} {ls : mj_L} {st : List Value} {M : mj_H} : mj_Rn d mj_m180 86 ls st M = mj_Rn d mj_m180 87 ls (.int 0 :: st) M := mj_R0 (r := (.iconst 0, 1, 0, 0, 0)) rfl rfl
theorem s180_87 {d : Nat} {ls : mj_L} {st : List Value} {M : mj_H} : mj_Rn (d + 1) mj_m180 87 ls st M = mq_k5a (d + 1) mj_m180 90 ls M 184 (mq_cb 0 3 10 st M) := mj_R5e (r := (.invokevirtual 214, 3, 0, 184, 20638)) (z := mj_m184) rfl rfl (by decide) (by decide) rfl
theorem s180_90 {d : Nat} {ls : mj_L} {st : List Value} {M : mj_H} : mj_Rn d mj_m180 90 ls st M = mq_k1 d mj_m180 92 M (mj_lo 9 (.istore 8) ls st) := mj_R1 (r := (.istore 8, 2, 0, 0, 0)) rfl rfl
theorem s180_92 {d : Nat} {ls : mj_L} {st : List Value} {M : mj_H} : mj_Rn d mj_m180 92 ls st M = mq_k0 d mj_m180 93 ls M (mj_lda (mj_lk ls 0) st) := mj_R0 (r := (.aload_n 0, 1, 0, 0, 0)) rfl rfl
theorem s180_93 {d : Nat} {ls : mj_L} {st : List Value} {M : mj_H} : mj_Rn d mj_m180 93 ls st M = mj_Rn d mj_m180 94 ls (.int 3 :: st) M := mj_R0 (r := (.iconst 3, 1, 0, 0, 0)) rfl rfl
theorem s180_94 {d : Nat} {ls : mj_L} {st : List Value} {M : mj_H} : mj_Rn d mj_m180 94 ls st M = mq_k0 d mj_m180 96 ls M (mj_ldi (mj_lk ls 5) st) := mj_R0 (r := (.iload 5, 2, 0, 0, 0)) rfl rfl
theorem s180_96 {d : Nat} {ls : mj_L} {st : List Value} {M : mj_H} : mj_Rn d mj_m180 96 ls st M = mj_Rn d mj_m180 97 ls (.int 5 :: st) M := mj_R0 (r := (.iconst 5, 1, 0, 0, 0)) rfl rfl
theorem s180_97 {d : Nat} {ls : mj_L} {st : List Value} {M : mj_H} : mj_Rn (d + 1) mj_m180 97 ls st M = mq_k5a (d + 1) mj_m180 100 ls M 185 (mq_cb 0 3 10 st M) := mj_R5e (r := (.invokevirtual 218, 3, 0, 185, 20643)) (z := mj_m185) rfl rfl (by decide) (by decide) rfl
theorem s180_100 {d : Nat} {ls : mj_L} {st : List Value} {M : mj_H} : mj_Rn d mj_m180 100 ls st M = mq_k0 d mj_m180 101 ls M (mj_lda (mj_lk ls 0) st) := mj_R0 (r := (.aload_n 0, 1, 0, 0, 0)) rfl rfl
theorem s180_101 {d : Nat} {ls : mj_L} {st : List Value} {M : mj_H} : mj_Rn d mj_m180 101 ls st M = mq_k0 d mj_m180 104 ls M (mq_gf 10 1 st M) := (mj_R3 (r := (.getfield 18, 3, 10, 1, 8488)) rfl rfl).trans (congrArg (mq_k0 d mj_m180 104 ls M) mq_gf_eq)
theorem s180_104 {d : Nat} {ls : mj_L} {st : List Value} {M : mj_H} : mj_Rn d mj_m180 104 ls st M = mj_Rn d mj_m180 105 ls (.int 4 :: st) M := mj_R0 (r := (.iconst 4, 1, 0, 0, 0)) rfl rfl
theorem s180_105 {d : Nat} {ls : mj_L} {st : List Value} {M : mj_H} : mj_Rn (d + 1) mj_m180 105 ls st M = mq_k5a (d + 1) mj_m180 108 ls M 45 (mq_cb 0 1 1 st M) := mj_R5e (r := (.invokevirtual 190, 3, 0, 45, 20603)) (z := mj_m45) rfl rfl (by decide) (by decide) rfl
theorem s180_108 {d : Nat} {ls : mj_L} {st : List Value} {M : mj_H} : mj_Rn d mj_m180 108 ls st M = mq_k0 d mj_m180 109 ls M (mj_lda (mj_lk ls 0) st) := mj_R0 (r := (.aload_n 0, 1, 0, 0, 0)) rfl rfl
theorem s180_109 {d : Nat} {ls : mj_L} {st : List Value} {M : mj_H} : mj_Rn d mj_m180 109 ls st M = mq_k0 d mj_m180 112 ls M (mq_gf 10 1 st M) := (mj_R3 (r := (.getfield 18, 3, 10, 1, 8488)) rfl rfl).trans (congrArg (mq_k0 d mj_m180 112 ls M) mq_gf_eq)
theorem s180_112 {d : Nat} {ls : mj_L} {st : List Value} {M : mj_H} : mj_Rn d mj_m180 112 ls st M = mq_k0 d mj_m180 114 ls M (mj_ldi (mj_lk ls 8) st) := mj_R0 (r := (.iload 8, 2, 0, 0, 0)) rfl rfl
theorem s180_114 {d : Nat} {ls : mj_L} {st : List Value} {M : mj_H} : mj_Rn (d + 1) mj_m180 114 ls st M = mq_k5a (d + 1) mj_m180 117 ls M 134 (mq_cb 0 1 1 st M) := mj_R5e (r := (.invokevirtual 222, 3, 0, 134, 20647)) (z := mj_m134) rfl rfl (by decide) (by decide) rfl
theorem s180_117 {d : Nat} {ls : mj_L} {st : List Value} {M : mj_H} : mj_Rn d mj_m180 117 ls st M = mq_k0 d mj_m180 118 ls M (mj_lda (mj_lk ls 0) st) := mj_R0 (r := (.aload_n 0, 1, 0, 0, 0)) rfl rfl
theorem s180_118 {d : Nat} {ls : mj_L} {st : List Value} {M : mj_H} : mj_Rn d mj_m180 118 ls st M = mq_k0 d mj_m180 121 ls M (mq_gf 10 1 st M) := (mj_R3 (r := (.getfield 18, 3, 10, 1, 8488)) rfl rfl).trans (congrArg (mq_k0 d mj_m180 121 ls M) mq_gf_eq)
theorem s180_121 {d : Nat} {ls : mj_L} {st : List Value} {M : mj_H} : mj_Rn d mj_m180 121 ls st M = mj_Rn d mj_m180 122 ls (.int 5 :: st) M := mj_R0 (r := (.iconst 5, 1, 0, 0, 0)) rfl rfl
theorem s180_122 {d : Nat} {ls : mj_L} {st : List Value} {M : mj_H} : mj_Rn (d + 1) mj_m180 122 ls st M = mq_k5a (d + 1) mj_m180 125 ls M 45 (mq_cb 0 1 1 st M) := mj_R5e (r := (.invokevirtual 190, 3, 0, 45, 20603)) (z := mj_m45) rfl rfl (by decide) (by decide) rfl
theorem s180_125 {d : Nat} {ls : mj_L} {st : List Value} {M : mj_H} : mj_Rn d mj_m180 125 ls st M = mq_k0 d mj_m180 126 ls M (mj_lda (mj_lk ls 0) st) := mj_R0 (r := (.aload_n 0, 1, 0, 0, 0)) rfl rfl
theorem s180_126 {d : Nat} {ls : mj_L} {st : List Value} {M : mj_H} : mj_Rn d mj_m180 126 ls st M = mq_k0 d mj_m180 129 ls M (mq_gf 10 1 st M) := (mj_R3 (r := (.getfield 18, 3, 10, 1, 8488)) rfl rfl).trans (congrArg (mq_k0 d mj_m180 129 ls M) mq_gf_eq)
theorem s180_129 {d : Nat} {ls : mj_L} {st : List Value} {M : mj_H} : mj_Rn d mj_m180 129 ls st M = mq_k0 d mj_m180 131 ls M (mj_ldi (mj_lk ls 7) st) := mj_R0 (r := (.iload 7, 2, 0, 0, 0)) rfl rfl
theorem s180_131 {d : Nat} {ls : mj_L} {st : List Value} {M : mj_H} : mj_Rn (d + 1) mj_m180 131 ls st M = mq_k5a (d + 1) mj_m180 134 ls M 134 (mq_cb 0 1 1 st M) := mj_R5e (r := (.invokevirtual 222, 3, 0, 134, 20647)) (z := mj_m134) rfl rfl (by decide) (by decide) rfl
theorem s180_134 {d : Nat} {ls : mj_L} {st : List Value} {M : mj_H} : mj_Rn d mj_m180 134 ls st M = mq_k0 d mj_m180 136 ls M (mj_lda (mj_lk ls 4) st) := mj_R0 (r := (.aload 4, 2, 0, 0, 0)) rfl rfl
theorem s180_136 {d : Nat} {ls : mj_L} {st : List Value} {M : mj_H} : mj_Rn d mj_m180 136 ls st M = mq_k0 d mj_m180 137 ls M (mj_lda (mj_lk ls 0) st) := mj_R0 (r := (.aload_n 0, 1, 0, 0, 0)) rfl rfl
theorem s180_137 {d : Nat} {ls : mj_L} {st : List Value} {M : mj_H} : mj_Rn d mj_m180 137 ls st M = mq_k0 d mj_m180 140 ls M (mq_gf 10 1 st M) := (mj_R3 (r := (.getfield 18, 3, 10, 1, 8488)) rfl rfl).trans (congrArg (mq_k0 d mj_m180 140 ls M) mq_gf_eq)
theorem s180_140 {d : Nat} {ls : mj_L} {st : List Value} {M : mj_H} : mj_Rn (d + 1) mj_m180 140 ls st M = mq_k5a (d + 1) mj_m180 143 ls M 78 (mq_cb 0 1 5 st M) := mj_R5e (r := (.invokevirtual 122, 3, 0, 78, 12435)) (z := mj_m78) rfl rfl (by decide) (by decide) rfl
theorem s180_143 {d : Nat} {ls : mj_L} {st : List Value} {M : mj_H} : mj_Rn d mj_m180 143 ls st M = mq_k6 M (mj_re (some .int) (.ireturn) st) := mj_R6 (r := (.ireturn, 1, 0, 0, 0)) rfl rfl
/- 186 PasskeyHouse.changePin(III)I -/
theorem s186_0 {d : Nat} {ls : mj_L} {st : List Value} {M : mj_H} : mj_Rn d mj_m186 0 ls st M = mq_k0 d mj_m186 1 ls M (mj_lda (mj_lk ls 0) st) := mj_R0 (r := (.aload_n 0, 1, 0, 0, 0)) rfl rfl
theorem s186_1 {d : Nat} {ls : mj_L} {st : List Value} {M : mj_H} : mj_Rn d mj_m186 1 ls st M = mq_k0 d mj_m186 2 ls M (mj_ldi (mj_lk ls 1) st) := mj_R0 (r := (.iload_n 1, 1, 0, 0, 0)) rfl rfl
theorem s186_2 {d : Nat} {ls : mj_L} {st : List Value} {M : mj_H} : mj_Rn (d + 1) mj_m186 2 ls st M = mq_k5a (d + 1) mj_m186 5 ls M 168 (mq_cb 0 1 10 st M) := mj_R5e (r := (.invokevirtual 149, 3, 0, 168, 20562)) (z := mj_m168) rfl rfl (by decide) (by decide) rfl
theorem s186_5 {d : Nat} {ls : mj_L} {st : List Value} {M : mj_H} : mj_Rn d mj_m186 5 ls st M = mq_k1 d mj_m186 7 M (mj_lo 11 (.astore 4) ls st) := mj_R1 (r := (.astore 4, 2, 0, 0, 0)) rfl rfl
theorem s186_7 {d : Nat} {ls : mj_L} {st : List Value} {M : mj_H} : mj_Rn d mj_m186 7 ls st M = mq_k0 d mj_m186 8 ls M (mj_lda (mj_lk ls 0) st) := mj_R0 (r := (.aload_n 0, 1, 0, 0, 0)) rfl rfl
theorem s186_8 {d : Nat} {ls : mj_L} {st : List Value} {M : mj_H} : mj_Rn d mj_m186 8 ls st M = mq_k0 d mj_m186 9 ls M (mj_ldi (mj_lk ls 2) st) := mj_R0 (r := (.iload_n 2, 1, 0, 0, 0)) rfl rfl
theorem s186_9 {d : Nat} {ls : mj_L} {st : List Value} {M : mj_H} : mj_Rn (d + 1) mj_m186 9 ls st M = mq_k5a (d + 1) mj_m186 12 ls M 68 (mq_cb 0 1 10 st M) := mj_R5e (r := (.invokevirtual 97, 3, 0, 68, 12393)) (z := mj_m68) rfl rfl (by decide) (by decide) rfl
theorem s186_12 {d : Nat} {ls : mj_L} {st : List Value} {M : mj_H} : mj_Rn d mj_m186 12 ls st M = mq_k1 d mj_m186 14 M (mj_lo 11 (.astore 5) ls st) := mj_R1 (r := (.astore 5, 2, 0, 0, 0)) rfl rfl
theorem s186_14 {d : Nat} {ls : mj_L} {st : List Value} {M : mj_H} : mj_Rn d mj_m186 14 ls st M = mq_k0 d mj_m186 16 ls M (mj_lda (mj_lk ls 4) st) := mj_R0 (r := (.aload 4, 2, 0, 0, 0)) rfl rfl
theorem s186_16 {d : Nat} {ls : mj_L} {st : List Value} {M : mj_H} : mj_Rn d mj_m186 16 ls st M = mq_k2 d mj_m186 ls M (mj_br (.ifnull 29) 16 st) := mj_R2 (r := (.ifnull 29, 3, 0, 0, 0)) rfl rfl
theorem s186_19 {d : Nat} {ls : mj_L} {st : List Value} {M : mj_H} : mj_Rn d mj_m186 19 ls st M = mq_k0 d mj_m186 21 ls M (mj_lda (mj_lk ls 5) st) := mj_R0 (r := (.aload 5, 2, 0, 0, 0)) rfl rfl
theorem s186_21 {d : Nat} {ls : mj_L} {st : List Value} {M : mj_H} : mj_Rn d mj_m186 21 ls st M = mq_k2 d mj_m186 ls M (mj_br (.ifnull 24) 21 st) := mj_R2 (r := (.ifnull 24, 3, 0, 0, 0)) rfl rfl
theorem s186_24 {d : Nat} {ls : mj_L} {st : List Value} {M : mj_H} : mj_Rn d mj_m186 24 ls st M = mq_k0 d mj_m186 25 ls M (mj_ldi (mj_lk ls 3) st) := mj_R0 (r := (.iload_n 3, 1, 0, 0, 0)) rfl rfl
theorem s186_25 {d : Nat} {ls : mj_L} {st : List Value} {M : mj_H} : mj_Rn d mj_m186 25 ls st M = mj_Rn d mj_m186 26 ls (.int 0 :: st) M := mj_R0 (r := (.iconst 0, 1, 0, 0, 0)) rfl rfl
theorem s186_26 {d : Nat} {ls : mj_L} {st : List Value} {M : mj_H} : mj_Rn d mj_m186 26 ls st M = mj_Rn d mj_m186 28 ls (.int 12 :: st) M := mj_R0 (r := (.bipush 12, 2, 0, 0, 0)) rfl rfl
theorem s186_28 {d : Nat} {ls : mj_L} {st : List Value} {M : mj_H} : mj_Rn (d + 1) mj_m186 28 ls st M = mq_k5a (d + 1) mj_m186 31 ls M 8 (mq_cb 2 3 10 st M) := mj_R5e (r := (.invokestatic 61, 3, 2, 8, 4275)) (z := mj_m8) rfl rfl (by decide) (by decide) rfl
theorem s186_31 {d : Nat} {ls : mj_L} {st : List Value} {M : mj_H} : mj_Rn d mj_m186 31 ls st M = mq_k2 d mj_m186 ls M (mj_br (.ifCond .eq 14) 31 st) := mj_R2 (r := (.ifCond .eq 14, 3, 0, 0, 0)) rfl rfl
theorem s186_34 {d : Nat} {ls : mj_L} {st : List Value} {M : mj_H} : mj_Rn d mj_m186 34 ls st M = mq_k0 d mj_m186 35 ls M (mj_ldi (mj_lk ls 3) st) := mj_R0 (r := (.iload_n 3, 1, 0, 0, 0)) rfl rfl
theorem s186_35 {d : Nat} {ls : mj_L} {st : List Value} {M : mj_H} : mj_Rn d mj_m186 35 ls st M = mq_k0 d mj_m186 36 ls M (mj_lda (mj_lk ls 0) st) := mj_R0 (r := (.aload_n 0, 1, 0, 0, 0)) rfl rfl
theorem s186_36 {d : Nat} {ls : mj_L} {st : List Value} {M : mj_H} : mj_Rn d mj_m186 36 ls st M = mq_k0 d mj_m186 39 ls M (mq_gf 10 0 st M) := (mj_R3 (r := (.getfield 14, 3, 10, 0, 8486)) rfl rfl).trans (congrArg (mq_k0 d mj_m186 39 ls M) mq_gf_eq)
theorem s186_39 {d : Nat} {ls : mj_L} {st : List Value} {M : mj_H} : mj_Rn (d + 1) mj_m186 39 ls st M = mq_k5a (d + 1) mj_m186 42 ls M 9 (mq_cb 0 0 1 st M) := mj_R5e (r := (.invokevirtual 65, 3, 0, 9, 4278)) (z := mj_m9) rfl rfl (by decide) (by decide) rfl
theorem s186_42 {d : Nat} {ls : mj_L} {st : List Value} {M : mj_H} : mj_Rn d mj_m186 42 ls st M = mq_k2 d mj_m186 ls M (mj_br (.if_icmp .le 5) 42 st) := mj_R2 (r := (.if_icmp .le 5, 3, 0, 0, 0)) rfl rfl
theorem s186_45 {d : Nat} {ls : mj_L} {st : List Value} {M : mj_H} : mj_Rn d mj_m186 45 ls st M = mj_Rn d mj_m186 46 ls (.int (-1) :: st) M := mj_R0 (r := (.iconst (-1), 1, 0, 0, 0)) rfl rfl
theorem s186_46 {d : Nat} {ls : mj_L} {st : List Value} {M : mj_H} : mj_Rn d mj_m186 46 ls st M = mq_k6 M (mj_re (some .int) (.ireturn) st) := mj_R6 (r := (.ireturn, 1, 0, 0, 0)) rfl rfl
theorem s186_47 {d : Nat} {ls : mj_L} {st : List Value} {M : mj_H} : mj_Rn d mj_m186 47 ls st M = mq_k0 d mj_m186 48 ls M (mj_lda (mj_lk ls 0) st) := mj_R0 (r := (.aload_n 0, 1, 0, 0, 0)) rfl rfl
theorem s186_48 {d : Nat} {ls : mj_L} {st : List Value} {M : mj_H} : mj_Rn d mj_m186 48 ls st M = mq_k0 d mj_m186 50 ls M (mj_lda (mj_lk ls 4) st) := mj_R0 (r := (.aload 4, 2, 0, 0, 0)) rfl rfl
theorem s186_50 {d : Nat} {ls : mj_L} {st : List Value} {M : mj_H} : mj_Rn (d + 1) mj_m186 50 ls st M = mq_k5a (d + 1) mj_m186 53 ls M 169 (mq_cb 0 1 10 st M) := mj_R5e (r := (.invokevirtual 153, 3, 0, 169, 20566)) (z := mj_m169) rfl rfl (by decide) (by decide) rfl
theorem s186_53 {d : Nat} {ls : mj_L} {st : List Value} {M : mj_H} : mj_Rn d mj_m186 53 ls st M = mq_k1 d mj_m186 55 M (mj_lo 11 (.istore 6) ls st) := mj_R1 (r := (.istore 6, 2, 0, 0, 0)) rfl rfl
theorem s186_55 {d : Nat} {ls : mj_L} {st : List Value} {M : mj_H} : mj_Rn d mj_m186 55 ls st M = mq_k0 d mj_m186 56 ls M (mj_lda (mj_lk ls 0) st) := mj_R0 (r := (.aload_n 0, 1, 0, 0, 0)) rfl rfl
theorem s186_56 {d : Nat} {ls : mj_L} {st : List Value} {M : mj_H} : mj_Rn (d + 1) mj_m186 56 ls st M = mq_k5a (d + 1) mj_m186 59 ls M 181 (mq_cb 0 0 10 st M) := mj_R5e (r := (.invokevirtual 203, 3, 0, 181, 20624)) (z := mj_m181) rfl rfl (by decide) (by decide) rfl
theorem s186_59 {d : Nat} {ls : mj_L} {st : List Value} {M : mj_H} : mj_Rn d mj_m186 59 ls st M = mq_k0 d mj_m186 61 ls M (mj_lda (mj_lk ls 5) st) := mj_R0 (r := (.aload 5, 2, 0, 0, 0)) rfl rfl
theorem s186_61 {d : Nat} {ls : mj_L} {st : List Value} {M : mj_H} : mj_Rn d mj_m186 61 ls st M = mq_k0 d mj_m186 62 ls M (mj_lda (mj_lk ls 0) st) := mj_R0 (r := (.aload_n 0, 1, 0, 0, 0)) rfl rfl
theorem s186_62 {d : Nat} {ls : mj_L} {st : List Value} {M : mj_H} : mj_Rn d mj_m186 62 ls st M = mq_k0 d mj_m186 65 ls M (mq_gf 10 1 st M) := (mj_R3 (r := (.getfield 18, 3, 10, 1, 8488)) rfl rfl).trans (congrArg (mq_k0 d mj_m186 65 ls M) mq_gf_eq)
theorem s186_65 {d : Nat} {ls : mj_L} {st : List Value} {M : mj_H} : mj_Rn (d + 1) mj_m186 65 ls st M = mq_k5a (d + 1) mj_m186 68 ls M 78 (mq_cb 0 1 5 st M) := mj_R5e (r := (.invokevirtual 122, 3, 0, 78, 12435)) (z := mj_m78) rfl rfl (by decide) (by decide) rfl
theorem s186_68 {d : Nat} {ls : mj_L} {st : List Value} {M : mj_H} : mj_Rn d mj_m186 68 ls st M = mq_k1 d mj_m186 70 M (mj_lo 11 (.istore 7) ls st) := mj_R1 (r := (.istore 7, 2, 0, 0, 0)) rfl rfl
theorem s186_70 {d : Nat} {ls : mj_L} {st : List Value} {M : mj_H} : mj_Rn d mj_m186 70 ls st M = mq_k0 d mj_m186 72 ls M (mj_ldi (mj_lk ls 7) st) := mj_R0 (r := (.iload 7, 2, 0, 0, 0)) rfl rfl
theorem s186_72 {d : Nat} {ls : mj_L} {st : List Value} {M : mj_H} : mj_Rn d mj_m186 72 ls st M = mq_k2 d mj_m186 ls M (mj_br (.ifCond .eq 6) 72 st) := mj_R2 (r := (.ifCond .eq 6, 3, 0, 0, 0)) rfl rfl
theorem s186_75 {d : Nat} {ls : mj_L} {st : List Value} {M : mj_H} : mj_Rn d mj_m186 75 ls st M = mq_k0 d mj_m186 77 ls M (mj_ldi (mj_lk ls 7) st) := mj_R0 (r := (.iload 7, 2, 0, 0, 0)) rfl rfl
theorem s186_77 {d : Nat} {ls : mj_L} {st : List Value} {M : mj_H} : mj_Rn d mj_m186 77 ls st M = mq_k6 M (mj_re (some .int) (.ireturn) st) := mj_R6 (r := (.ireturn, 1, 0, 0, 0)) rfl rfl
theorem s186_78 {d : Nat} {ls : mj_L} {st : List Value} {M : mj_H} : mj_Rn d mj_m186 78 ls st M = mq_k0 d mj_m186 79 ls M (mj_lda (mj_lk ls 0) st) := mj_R0 (r := (.aload_n 0, 1, 0, 0, 0)) rfl rfl
theorem s186_79 {d : Nat} {ls : mj_L} {st : List Value} {M : mj_H} : mj_Rn d mj_m186 79 ls st M = mq_k0 d mj_m186 81 ls M (mj_lda (mj_lk ls 4) st) := mj_R0 (r := (.aload 4, 2, 0, 0, 0)) rfl rfl
theorem s186_81 {d : Nat} {ls : mj_L} {st : List Value} {M : mj_H} : mj_Rn d mj_m186 81 ls st M = mq_k0 d mj_m186 83 ls M (mj_lda (mj_lk ls 5) st) := mj_R0 (r := (.aload 5, 2, 0, 0, 0)) rfl rfl
theorem s186_83 {d : Nat} {ls : mj_L} {st : List Value} {M : mj_H} : mj_Rn d mj_m186 83 ls st M = mq_k0 d mj_m186 86 ls M (mq_gf 5 3 st M) := (mj_R3 (r := (.getfield 126, 3, 5, 3, 16607)) rfl rfl).trans (congrArg (mq_k0 d mj_m186 86 ls M) mq_gf_eq)
theorem s186_86 {d : Nat} {ls : mj_L} {st : List Value} {M : mj_H} : mj_Rn (d + 1) mj_m186 86 ls st M = mq_k5a (d + 1) mj_m186 89 ls M 182 (mq_cb 0 2 10 st M) := mj_R5e (r := (.invokevirtual 206, 3, 0, 182, 20629)) (z := mj_m182) rfl rfl (by decide) (by decide) rfl
theorem s186_89 {d : Nat} {ls : mj_L} {st : List Value} {M : mj_H} : mj_Rn d mj_m186 89 ls st M = mq_k0 d mj_m186 90 ls M (mj_lda (mj_lk ls 0) st) := mj_R0 (r := (.aload_n 0, 1, 0, 0, 0)) rfl rfl
theorem s186_90 {d : Nat} {ls : mj_L} {st : List Value} {M : mj_H} : mj_Rn d mj_m186 90 ls st M = mq_k0 d mj_m186 92 ls M (mj_lda (mj_lk ls 4) st) := mj_R0 (r := (.aload 4, 2, 0, 0, 0)) rfl rfl
theorem s186_92 {d : Nat} {ls : mj_L} {st : List Value} {M : mj_H} : mj_Rn d mj_m186 92 ls st M = mq_k0 d mj_m186 93 ls M (mj_lda (mj_lk ls 0) st) := mj_R0 (r := (.aload_n 0, 1, 0, 0, 0)) rfl rfl
theorem s186_93 {d : Nat} {ls : mj_L} {st : List Value} {M : mj_H} : mj_Rn d mj_m186 93 ls st M = mq_k0 d mj_m186 96 ls M (mq_gf 10 0 st M) := (mj_R3 (r := (.getfield 14, 3, 10, 0, 8486)) rfl rfl).trans (congrArg (mq_k0 d mj_m186 96 ls M) mq_gf_eq)
theorem s186_96 {d : Nat} {ls : mj_L} {st : List Value} {M : mj_H} : mj_Rn d mj_m186 96 ls st M = mq_k0 d mj_m186 97 ls M (mj_ldi (mj_lk ls 3) st) := mj_R0 (r := (.iload_n 3, 1, 0, 0, 0)) rfl rfl
theorem s186_97 {d : Nat} {ls : mj_L} {st : List Value} {M : mj_H} : mj_Rn (d + 1) mj_m186 97 ls st M = mq_k5a (d + 1) mj_m186 100 ls M 183 (mq_cb 0 3 10 st M) := mj_R5e (r := (.invokevirtual 210, 3, 0, 183, 20634)) (z := mj_m183) rfl rfl (by decide) (by decide) rfl
theorem s186_100 {d : Nat} {ls : mj_L} {st : List Value} {M : mj_H} : mj_Rn d mj_m186 100 ls st M = mq_k1 d mj_m186 102 M (mj_lo 11 (.istore 8) ls st) := mj_R1 (r := (.istore 8, 2, 0, 0, 0)) rfl rfl
theorem s186_102 {d : Nat} {ls : mj_L} {st : List Value} {M : mj_H} : mj_Rn d mj_m186 102 ls st M = mq_k0 d mj_m186 103 ls M (mj_lda (mj_lk ls 0) st) := mj_R0 (r := (.aload_n 0, 1, 0, 0, 0)) rfl rfl
theorem s186_103 {d : Nat} {ls : mj_L} {st : List Value} {M : mj_H} : mj_Rn d mj_m186 103 ls st M = mq_k0 d mj_m186 105 ls M (mj_lda (mj_lk ls 4) st) := mj_R0 (r := (.aload 4, 2, 0, 0, 0)) rfl rfl
theorem s186_105 {d : Nat} {ls : mj_L} {st : List Value} {M : mj_H} : mj_Rn (d + 1) mj_m186 105 ls st M = mq_k5a (d + 1) mj_m186 108 ls M 187 (mq_cb 0 1 10 st M) := mj_R5e (r := (.invokevirtual 225, 3, 0, 187, 20652)) (z := mj_m187) rfl rfl (by decide) (by decide) rfl
theorem s186_108 {d : Nat} {ls : mj_L} {st : List Value} {M : mj_H} : mj_Rn d mj_m186 108 ls st M = mq_k1 d mj_m186 110 M (mj_lo 11 (.istore 9) ls st) := mj_R1 (r := (.istore 9, 2, 0, 0, 0)) rfl rfl
theorem s186_110 {d : Nat} {ls : mj_L} {st : List Value} {M : mj_H} : mj_Rn d mj_m186 110 ls st M = mq_k0 d mj_m186 111 ls M (mj_lda (mj_lk ls 0) st) := mj_R0 (r := (.aload_n 0, 1, 0, 0, 0)) rfl rfl
theorem s186_111 {d : Nat} {ls : mj_L} {st : List Value} {M : mj_H} : mj_Rn d mj_m186 111 ls st M = mq_k0 d mj_m186 113 ls M (mj_lda (mj_lk ls 4) st) := mj_R0 (r := (.aload 4, 2, 0, 0, 0)) rfl rfl
theorem s186_113 {d : Nat} {ls : mj_L} {st : List Value} {M : mj_H} : mj_Rn d mj_m186 113 ls st M = mq_k0 d mj_m186 115 ls M (mj_ldi (mj_lk ls 8) st) := mj_R0 (r := (.iload 8, 2, 0, 0, 0)) rfl rfl
theorem s186_115 {d : Nat} {ls : mj_L} {st : List Value} {M : mj_H} : mj_Rn d mj_m186 115 ls st M = mq_k0 d mj_m186 117 ls M (mj_ldi (mj_lk ls 9) st) := mj_R0 (r := (.iload 9, 2, 0, 0, 0)) rfl rfl
theorem s186_117 {d : Nat} {ls : mj_L} {st : List Value} {M : mj_H} : mj_Rn (d + 1) mj_m186 117 ls st M = mq_k5a (d + 1) mj_m186 120 ls M 184 (mq_cb 0 3 10 st M) := mj_R5e (r := (.invokevirtual 214, 3, 0, 184, 20638)) (z := mj_m184) rfl rfl (by decide) (by decide) rfl
theorem s186_120 {d : Nat} {ls : mj_L} {st : List Value} {M : mj_H} : mj_Rn d mj_m186 120 ls st M = mq_k1 d mj_m186 122 M (mj_lo 11 (.istore 10) ls st) := mj_R1 (r := (.istore 10, 2, 0, 0, 0)) rfl rfl
theorem s186_122 {d : Nat} {ls : mj_L} {st : List Value} {M : mj_H} : mj_Rn d mj_m186 122 ls st M = mq_k0 d mj_m186 123 ls M (mj_lda (mj_lk ls 0) st) := mj_R0 (r := (.aload_n 0, 1, 0, 0, 0)) rfl rfl
theorem s186_123 {d : Nat} {ls : mj_L} {st : List Value} {M : mj_H} : mj_Rn d mj_m186 123 ls st M = mj_Rn d mj_m186 124 ls (.int 4 :: st) M := mj_R0 (r := (.iconst 4, 1, 0, 0, 0)) rfl rfl
theorem s186_124 {d : Nat} {ls : mj_L} {st : List Value} {M : mj_H} : mj_Rn d mj_m186 124 ls st M = mq_k0 d mj_m186 126 ls M (mj_ldi (mj_lk ls 6) st) := mj_R0 (r := (.iload 6, 2, 0, 0, 0)) rfl rfl
theorem s186_126 {d : Nat} {ls : mj_L} {st : List Value} {M : mj_H} : mj_Rn d mj_m186 126 ls st M = mj_Rn d mj_m186 128 ls (.int 6 :: st) M := mj_R0 (r := (.bipush 6, 2, 0, 0, 0)) rfl rfl
theorem s186_128 {d : Nat} {ls : mj_L} {st : List Value} {M : mj_H} : mj_Rn (d + 1) mj_m186 128 ls st M = mq_k5a (d + 1) mj_m186 131 ls M 185 (mq_cb 0 3 10 st M) := mj_R5e (r := (.invokevirtual 218, 3, 0, 185, 20643)) (z := mj_m185) rfl rfl (by decide) (by decide) rfl
theorem s186_131 {d : Nat} {ls : mj_L} {st : List Value} {M : mj_H} : mj_Rn d mj_m186 131 ls st M = mq_k0 d mj_m186 132 ls M (mj_lda (mj_lk ls 0) st) := mj_R0 (r := (.aload_n 0, 1, 0, 0, 0)) rfl rfl
theorem s186_132 {d : Nat} {ls : mj_L} {st : List Value} {M : mj_H} : mj_Rn d mj_m186 132 ls st M = mq_k0 d mj_m186 135 ls M (mq_gf 10 1 st M) := (mj_R3 (r := (.getfield 18, 3, 10, 1, 8488)) rfl rfl).trans (congrArg (mq_k0 d mj_m186 135 ls M) mq_gf_eq)
theorem s186_135 {d : Nat} {ls : mj_L} {st : List Value} {M : mj_H} : mj_Rn d mj_m186 135 ls st M = mj_Rn d mj_m186 136 ls (.int 4 :: st) M := mj_R0 (r := (.iconst 4, 1, 0, 0, 0)) rfl rfl
theorem s186_136 {d : Nat} {ls : mj_L} {st : List Value} {M : mj_H} : mj_Rn (d + 1) mj_m186 136 ls st M = mq_k5a (d + 1) mj_m186 139 ls M 45 (mq_cb 0 1 1 st M) := mj_R5e (r := (.invokevirtual 190, 3, 0, 45, 20603)) (z := mj_m45) rfl rfl (by decide) (by decide) rfl
theorem s186_139 {d : Nat} {ls : mj_L} {st : List Value} {M : mj_H} : mj_Rn d mj_m186 139 ls st M = mq_k0 d mj_m186 140 ls M (mj_lda (mj_lk ls 0) st) := mj_R0 (r := (.aload_n 0, 1, 0, 0, 0)) rfl rfl
theorem s186_140 {d : Nat} {ls : mj_L} {st : List Value} {M : mj_H} : mj_Rn d mj_m186 140 ls st M = mq_k0 d mj_m186 143 ls M (mq_gf 10 1 st M) := (mj_R3 (r := (.getfield 18, 3, 10, 1, 8488)) rfl rfl).trans (congrArg (mq_k0 d mj_m186 143 ls M) mq_gf_eq)
theorem s186_143 {d : Nat} {ls : mj_L} {st : List Value} {M : mj_H} : mj_Rn d mj_m186 143 ls st M = mq_k0 d mj_m186 145 ls M (mj_ldi (mj_lk ls 10) st) := mj_R0 (r := (.iload 10, 2, 0, 0, 0)) rfl rfl
theorem s186_145 {d : Nat} {ls : mj_L} {st : List Value} {M : mj_H} : mj_Rn (d + 1) mj_m186 145 ls st M = mq_k5a (d + 1) mj_m186 148 ls M 134 (mq_cb 0 1 1 st M) := mj_R5e (r := (.invokevirtual 222, 3, 0, 134, 20647)) (z := mj_m134) rfl rfl (by decide) (by decide) rfl
theorem s186_148 {d : Nat} {ls : mj_L} {st : List Value} {M : mj_H} : mj_Rn d mj_m186 148 ls st M = mq_k0 d mj_m186 149 ls M (mj_lda (mj_lk ls 0) st) := mj_R0 (r := (.aload_n 0, 1, 0, 0, 0)) rfl rfl
theorem s186_149 {d : Nat} {ls : mj_L} {st : List Value} {M : mj_H} : mj_Rn d mj_m186 149 ls st M = mq_k0 d mj_m186 152 ls M (mq_gf 10 1 st M) := (mj_R3 (r := (.getfield 18, 3, 10, 1, 8488)) rfl rfl).trans (congrArg (mq_k0 d mj_m186 152 ls M) mq_gf_eq)
theorem s186_152 {d : Nat} {ls : mj_L} {st : List Value} {M : mj_H} : mj_Rn d mj_m186 152 ls st M = mj_Rn d mj_m186 153 ls (.int 5 :: st) M := mj_R0 (r := (.iconst 5, 1, 0, 0, 0)) rfl rfl
theorem s186_153 {d : Nat} {ls : mj_L} {st : List Value} {M : mj_H} : mj_Rn (d + 1) mj_m186 153 ls st M = mq_k5a (d + 1) mj_m186 156 ls M 45 (mq_cb 0 1 1 st M) := mj_R5e (r := (.invokevirtual 190, 3, 0, 45, 20603)) (z := mj_m45) rfl rfl (by decide) (by decide) rfl
theorem s186_156 {d : Nat} {ls : mj_L} {st : List Value} {M : mj_H} : mj_Rn d mj_m186 156 ls st M = mq_k0 d mj_m186 157 ls M (mj_lda (mj_lk ls 0) st) := mj_R0 (r := (.aload_n 0, 1, 0, 0, 0)) rfl rfl
theorem s186_157 {d : Nat} {ls : mj_L} {st : List Value} {M : mj_H} : mj_Rn d mj_m186 157 ls st M = mq_k0 d mj_m186 160 ls M (mq_gf 10 1 st M) := (mj_R3 (r := (.getfield 18, 3, 10, 1, 8488)) rfl rfl).trans (congrArg (mq_k0 d mj_m186 160 ls M) mq_gf_eq)
theorem s186_160 {d : Nat} {ls : mj_L} {st : List Value} {M : mj_H} : mj_Rn d mj_m186 160 ls st M = mq_k0 d mj_m186 162 ls M (mj_ldi (mj_lk ls 8) st) := mj_R0 (r := (.iload 8, 2, 0, 0, 0)) rfl rfl
theorem s186_162 {d : Nat} {ls : mj_L} {st : List Value} {M : mj_H} : mj_Rn (d + 1) mj_m186 162 ls st M = mq_k5a (d + 1) mj_m186 165 ls M 134 (mq_cb 0 1 1 st M) := mj_R5e (r := (.invokevirtual 222, 3, 0, 134, 20647)) (z := mj_m134) rfl rfl (by decide) (by decide) rfl
theorem s186_165 {d : Nat} {ls : mj_L} {st : List Value} {M : mj_H} : mj_Rn d mj_m186 165 ls st M = mq_k0 d mj_m186 166 ls M (mj_lda (mj_lk ls 0) st) := mj_R0 (r := (.aload_n 0, 1, 0, 0, 0)) rfl rfl
theorem s186_166 {d : Nat} {ls : mj_L} {st : List Value} {M : mj_H} : mj_Rn d mj_m186 166 ls st M = mq_k0 d mj_m186 169 ls M (mq_gf 10 1 st M) := (mj_R3 (r := (.getfield 18, 3, 10, 1, 8488)) rfl rfl).trans (congrArg (mq_k0 d mj_m186 169 ls M) mq_gf_eq)
theorem s186_169 {d : Nat} {ls : mj_L} {st : List Value} {M : mj_H} : mj_Rn d mj_m186 169 ls st M = mj_Rn d mj_m186 171 ls (.int 6 :: st) M := mj_R0 (r := (.bipush 6, 2, 0, 0, 0)) rfl rfl
theorem s186_171 {d : Nat} {ls : mj_L} {st : List Value} {M : mj_H} : mj_Rn (d + 1) mj_m186 171 ls st M = mq_k5a (d + 1) mj_m186 174 ls M 45 (mq_cb 0 1 1 st M) := mj_R5e (r := (.invokevirtual 190, 3, 0, 45, 20603)) (z := mj_m45) rfl rfl (by decide) (by decide) rfl
theorem s186_174 {d : Nat} {ls : mj_L} {st : List Value} {M : mj_H} : mj_Rn d mj_m186 174 ls st M = mq_k0 d mj_m186 175 ls M (mj_lda (mj_lk ls 0) st) := mj_R0 (r := (.aload_n 0, 1, 0, 0, 0)) rfl rfl
theorem s186_175 {d : Nat} {ls : mj_L} {st : List Value} {M : mj_H} : mj_Rn d mj_m186 175 ls st M = mq_k0 d mj_m186 178 ls M (mq_gf 10 1 st M) := (mj_R3 (r := (.getfield 18, 3, 10, 1, 8488)) rfl rfl).trans (congrArg (mq_k0 d mj_m186 178 ls M) mq_gf_eq)
theorem s186_178 {d : Nat} {ls : mj_L} {st : List Value} {M : mj_H} : mj_Rn d mj_m186 178 ls st M = mq_k0 d mj_m186 180 ls M (mj_ldi (mj_lk ls 9) st) := mj_R0 (r := (.iload 9, 2, 0, 0, 0)) rfl rfl
theorem s186_180 {d : Nat} {ls : mj_L} {st : List Value} {M : mj_H} : mj_Rn (d + 1) mj_m186 180 ls st M = mq_k5a (d + 1) mj_m186 183 ls M 134 (mq_cb 0 1 1 st M) := mj_R5e (r := (.invokevirtual 222, 3, 0, 134, 20647)) (z := mj_m134) rfl rfl (by decide) (by decide) rfl
theorem s186_183 {d : Nat} {ls : mj_L} {st : List Value} {M : mj_H} : mj_Rn d mj_m186 183 ls st M = mq_k0 d mj_m186 185 ls M (mj_lda (mj_lk ls 5) st) := mj_R0 (r := (.aload 5, 2, 0, 0, 0)) rfl rfl
theorem s186_185 {d : Nat} {ls : mj_L} {st : List Value} {M : mj_H} : mj_Rn d mj_m186 185 ls st M = mq_k0 d mj_m186 186 ls M (mj_lda (mj_lk ls 0) st) := mj_R0 (r := (.aload_n 0, 1, 0, 0, 0)) rfl rfl
theorem s186_186 {d : Nat} {ls : mj_L} {st : List Value} {M : mj_H} : mj_Rn d mj_m186 186 ls st M = mq_k0 d mj_m186 189 ls M (mq_gf 10 1 st M) := (mj_R3 (r := (.getfield 18, 3, 10, 1, 8488)) rfl rfl).trans (congrArg (mq_k0 d mj_m186 189 ls M) mq_gf_eq)
theorem s186_189 {d : Nat} {ls : mj_L} {st : List Value} {M : mj_H} : mj_Rn (d + 1) mj_m186 189 ls st M = mq_k5a (d + 1) mj_m186 192 ls M 78 (mq_cb 0 1 5 st M) := mj_R5e (r := (.invokevirtual 122, 3, 0, 78, 12435)) (z := mj_m78) rfl rfl (by decide) (by decide) rfl
theorem s186_192 {d : Nat} {ls : mj_L} {st : List Value} {M : mj_H} : mj_Rn d mj_m186 192 ls st M = mq_k6 M (mj_re (some .int) (.ireturn) st) := mj_R6 (r := (.ireturn, 1, 0, 0, 0)) rfl rfl
/- 188 PasskeyHouse.unlock(II)I -/
theorem s188_0 {d : Nat} {ls : mj_L} {st : List Value} {M : mj_H} : mj_Rn d mj_m188 0 ls st M = mq_k0 d mj_m188 1 ls M (mj_lda (mj_lk ls 0) st) := mj_R0 (r := (.aload_n 0, 1, 0, 0, 0)) rfl rfl
theorem s188_1 {d : Nat} {ls : mj_L} {st : List Value} {M : mj_H} : mj_Rn d mj_m188 1 ls st M = mq_k0 d mj_m188 2 ls M (mj_ldi (mj_lk ls 1) st) := mj_R0 (r := (.iload_n 1, 1, 0, 0, 0)) rfl rfl
theorem s188_2 {d : Nat} {ls : mj_L} {st : List Value} {M : mj_H} : mj_Rn (d + 1) mj_m188 2 ls st M = mq_k5a (d + 1) mj_m188 5 ls M 168 (mq_cb 0 1 10 st M) := mj_R5e (r := (.invokevirtual 149, 3, 0, 168, 20562)) (z := mj_m168) rfl rfl (by decide) (by decide) rfl
theorem s188_5 {d : Nat} {ls : mj_L} {st : List Value} {M : mj_H} : mj_Rn d mj_m188 5 ls st M = mq_k1 d mj_m188 6 M (mj_lo 8 (.astore 3) ls st) := (mj_R1 (r := (.astore_n 3, 1, 0, 0, 0)) rfl rfl).trans (congrArg (mq_k1 d mj_m188 6 M) (mq_sta (k := 3)))
theorem s188_6 {d : Nat} {ls : mj_L} {st : List Value} {M : mj_H} : mj_Rn d mj_m188 6 ls st M = mq_k0 d mj_m188 7 ls M (mj_lda (mj_lk ls 0) st) := mj_R0 (r := (.aload_n 0, 1, 0, 0, 0)) rfl rfl
theorem s188_7 {d : Nat} {ls : mj_L} {st : List Value} {M : mj_H} : mj_Rn d mj_m188 7 ls st M = mq_k0 d mj_m188 8 ls M (mj_ldi (mj_lk ls 2) st) := mj_R0 (r := (.iload_n 2, 1, 0, 0, 0)) rfl rfl
theorem s188_8 {d : Nat} {ls : mj_L} {st : List Value} {M : mj_H} : mj_Rn (d + 1) mj_m188 8 ls st M = mq_k5a (d + 1) mj_m188 11 ls M 68 (mq_cb 0 1 10 st M) := mj_R5e (r := (.invokevirtual 97, 3, 0, 68, 12393)) (z := mj_m68) rfl rfl (by decide) (by decide) rfl
theorem s188_11 {d : Nat} {ls : mj_L} {st : List Value} {M : mj_H} : mj_Rn d mj_m188 11 ls st M = mq_k1 d mj_m188 13 M (mj_lo 8 (.astore 4) ls st) := mj_R1 (r := (.astore 4, 2, 0, 0, 0)) rfl rfl
theorem s188_13 {d : Nat} {ls : mj_L} {st : List Value} {M : mj_H} : mj_Rn d mj_m188 13 ls st M = mq_k0 d mj_m188 14 ls M (mj_lda (mj_lk ls 3) st) := mj_R0 (r := (.aload_n 3, 1, 0, 0, 0)) rfl rfl
theorem s188_14 {d : Nat} {ls : mj_L} {st : List Value} {M : mj_H} : mj_Rn d mj_m188 14 ls st M = mq_k2 d mj_m188 ls M (mj_br (.ifnull 8) 14 st) := mj_R2 (r := (.ifnull 8, 3, 0, 0, 0)) rfl rfl
theorem s188_17 {d : Nat} {ls : mj_L} {st : List Value} {M : mj_H} : mj_Rn d mj_m188 17 ls st M = mq_k0 d mj_m188 19 ls M (mj_lda (mj_lk ls 4) st) := mj_R0 (r := (.aload 4, 2, 0, 0, 0)) rfl rfl
theorem s188_19 {d : Nat} {ls : mj_L} {st : List Value} {M : mj_H} : mj_Rn d mj_m188 19 ls st M = mq_k2 d mj_m188 ls M (mj_br (.ifnonnull 5) 19 st) := mj_R2 (r := (.ifnonnull 5, 3, 0, 0, 0)) rfl rfl
theorem s188_22 {d : Nat} {ls : mj_L} {st : List Value} {M : mj_H} : mj_Rn d mj_m188 22 ls st M = mj_Rn d mj_m188 23 ls (.int (-1) :: st) M := mj_R0 (r := (.iconst (-1), 1, 0, 0, 0)) rfl rfl
theorem s188_23 {d : Nat} {ls : mj_L} {st : List Value} {M : mj_H} : mj_Rn d mj_m188 23 ls st M = mq_k6 M (mj_re (some .int) (.ireturn) st) := mj_R6 (r := (.ireturn, 1, 0, 0, 0)) rfl rfl
theorem s188_24 {d : Nat} {ls : mj_L} {st : List Value} {M : mj_H} : mj_Rn d mj_m188 24 ls st M = mq_k0 d mj_m188 25 ls M (mj_lda (mj_lk ls 0) st) := mj_R0 (r := (.aload_n 0, 1, 0, 0, 0)) rfl rfl
theorem s188_25 {d : Nat} {ls : mj_L} {st : List Value} {M : mj_H} : mj_Rn d mj_m188 25 ls st M = mq_k0 d mj_m188 26 ls M (mj_lda (mj_lk ls 3) st) := mj_R0 (r := (.aload_n 3, 1, 0, 0, 0)) rfl rfl
theorem s188_26 {d : Nat} {ls : mj_L} {st : List Value} {M : mj_H} : mj_Rn (d + 1) mj_m188 26 ls st M = mq_k5a (d + 1) mj_m188 29 ls M 169 (mq_cb 0 1 10 st M) := mj_R5e (r := (.invokevirtual 153, 3, 0, 169, 20566)) (z := mj_m169) rfl rfl (by decide) (by decide) rfl
theorem s188_29 {d : Nat} {ls : mj_L} {st : List Value} {M : mj_H} : mj_Rn d mj_m188 29 ls st M = mq_k1 d mj_m188 31 M (mj_lo 8 (.istore 5) ls st) := mj_R1 (r := (.istore 5, 2, 0, 0, 0)) rfl rfl
theorem s188_31 {d : Nat} {ls : mj_L} {st : List Value} {M : mj_H} : mj_Rn d mj_m188 31 ls st M = mq_k0 d mj_m188 32 ls M (mj_lda (mj_lk ls 0) st) := mj_R0 (r := (.aload_n 0, 1, 0, 0, 0)) rfl rfl
theorem s188_32 {d : Nat} {ls : mj_L} {st : List Value} {M : mj_H} : mj_Rn (d + 1) mj_m188 32 ls st M = mq_k5a (d + 1) mj_m188 35 ls M 181 (mq_cb 0 0 10 st M) := mj_R5e (r := (.invokevirtual 203, 3, 0, 181, 20624)) (z := mj_m181) rfl rfl (by decide) (by decide) rfl
theorem s188_35 {d : Nat} {ls : mj_L} {st : List Value} {M : mj_H} : mj_Rn d mj_m188 35 ls st M = mq_k0 d mj_m188 37 ls M (mj_lda (mj_lk ls 4) st) := mj_R0 (r := (.aload 4, 2, 0, 0, 0)) rfl rfl
theorem s188_37 {d : Nat} {ls : mj_L} {st : List Value} {M : mj_H} : mj_Rn d mj_m188 37 ls st M = mq_k0 d mj_m188 38 ls M (mj_lda (mj_lk ls 0) st) := mj_R0 (r := (.aload_n 0, 1, 0, 0, 0)) rfl rfl
theorem s188_38 {d : Nat} {ls : mj_L} {st : List Value} {M : mj_H} : mj_Rn d mj_m188 38 ls st M = mq_k0 d mj_m188 41 ls M (mq_gf 10 1 st M) := (mj_R3 (r := (.getfield 18, 3, 10, 1, 8488)) rfl rfl).trans (congrArg (mq_k0 d mj_m188 41 ls M) mq_gf_eq)
theorem s188_41 {d : Nat} {ls : mj_L} {st : List Value} {M : mj_H} : mj_Rn (d + 1) mj_m188 41 ls st M = mq_k5a (d + 1) mj_m188 44 ls M 78 (mq_cb 0 1 5 st M) := mj_R5e (r := (.invokevirtual 122, 3, 0, 78, 12435)) (z := mj_m78) rfl rfl (by decide) (by decide) rfl
theorem s188_44 {d : Nat} {ls : mj_L} {st : List Value} {M : mj_H} : mj_Rn d mj_m188 44 ls st M = mq_k1 d mj_m188 46 M (mj_lo 8 (.istore 6) ls st) := mj_R1 (r := (.istore 6, 2, 0, 0, 0)) rfl rfl
theorem s188_46 {d : Nat} {ls : mj_L} {st : List Value} {M : mj_H} : mj_Rn d mj_m188 46 ls st M = mq_k0 d mj_m188 48 ls M (mj_ldi (mj_lk ls 6) st) := mj_R0 (r := (.iload 6, 2, 0, 0, 0)) rfl rfl
theorem s188_48 {d : Nat} {ls : mj_L} {st : List Value} {M : mj_H} : mj_Rn d mj_m188 48 ls st M = mq_k2 d mj_m188 ls M (mj_br (.ifCond .eq 6) 48 st) := mj_R2 (r := (.ifCond .eq 6, 3, 0, 0, 0)) rfl rfl
theorem s188_51 {d : Nat} {ls : mj_L} {st : List Value} {M : mj_H} : mj_Rn d mj_m188 51 ls st M = mq_k0 d mj_m188 53 ls M (mj_ldi (mj_lk ls 6) st) := mj_R0 (r := (.iload 6, 2, 0, 0, 0)) rfl rfl
theorem s188_53 {d : Nat} {ls : mj_L} {st : List Value} {M : mj_H} : mj_Rn d mj_m188 53 ls st M = mq_k6 M (mj_re (some .int) (.ireturn) st) := mj_R6 (r := (.ireturn, 1, 0, 0, 0)) rfl rfl
theorem s188_54 {d : Nat} {ls : mj_L} {st : List Value} {M : mj_H} : mj_Rn d mj_m188 54 ls st M = mq_k0 d mj_m188 55 ls M (mj_lda (mj_lk ls 0) st) := mj_R0 (r := (.aload_n 0, 1, 0, 0, 0)) rfl rfl
theorem s188_55 {d : Nat} {ls : mj_L} {st : List Value} {M : mj_H} : mj_Rn d mj_m188 55 ls st M = mq_k0 d mj_m188 56 ls M (mj_lda (mj_lk ls 3) st) := mj_R0 (r := (.aload_n 3, 1, 0, 0, 0)) rfl rfl
theorem s188_56 {d : Nat} {ls : mj_L} {st : List Value} {M : mj_H} : mj_Rn d mj_m188 56 ls st M = mq_k0 d mj_m188 58 ls M (mj_lda (mj_lk ls 4) st) := mj_R0 (r := (.aload 4, 2, 0, 0, 0)) rfl rfl
theorem s188_58 {d : Nat} {ls : mj_L} {st : List Value} {M : mj_H} : mj_Rn d mj_m188 58 ls st M = mq_k0 d mj_m188 61 ls M (mq_gf 5 3 st M) := (mj_R3 (r := (.getfield 126, 3, 5, 3, 16607)) rfl rfl).trans (congrArg (mq_k0 d mj_m188 61 ls M) mq_gf_eq)
theorem s188_61 {d : Nat} {ls : mj_L} {st : List Value} {M : mj_H} : mj_Rn (d + 1) mj_m188 61 ls st M = mq_k5a (d + 1) mj_m188 64 ls M 182 (mq_cb 0 2 10 st M) := mj_R5e (r := (.invokevirtual 206, 3, 0, 182, 20629)) (z := mj_m182) rfl rfl (by decide) (by decide) rfl
theorem s188_64 {d : Nat} {ls : mj_L} {st : List Value} {M : mj_H} : mj_Rn d mj_m188 64 ls st M = mq_k0 d mj_m188 65 ls M (mj_lda (mj_lk ls 0) st) := mj_R0 (r := (.aload_n 0, 1, 0, 0, 0)) rfl rfl
theorem s188_65 {d : Nat} {ls : mj_L} {st : List Value} {M : mj_H} : mj_Rn d mj_m188 65 ls st M = mq_k0 d mj_m188 66 ls M (mj_lda (mj_lk ls 3) st) := mj_R0 (r := (.aload_n 3, 1, 0, 0, 0)) rfl rfl
theorem s188_66 {d : Nat} {ls : mj_L} {st : List Value} {M : mj_H} : mj_Rn (d + 1) mj_m188 66 ls st M = mq_k5a (d + 1) mj_m188 69 ls M 187 (mq_cb 0 1 10 st M) := mj_R5e (r := (.invokevirtual 225, 3, 0, 187, 20652)) (z := mj_m187) rfl rfl (by decide) (by decide) rfl
theorem s188_69 {d : Nat} {ls : mj_L} {st : List Value} {M : mj_H} : mj_Rn d mj_m188 69 ls st M = mq_k1 d mj_m188 71 M (mj_lo 8 (.istore 7) ls st) := mj_R1 (r := (.istore 7, 2, 0, 0, 0)) rfl rfl
theorem s188_71 {d : Nat} {ls : mj_L} {st : List Value} {M : mj_H} : mj_Rn d mj_m188 71 ls st M = mq_k0 d mj_m188 72 ls M (mj_lda (mj_lk ls 0) st) := mj_R0 (r := (.aload_n 0, 1, 0, 0, 0)) rfl rfl
theorem s188_72 {d : Nat} {ls : mj_L} {st : List Value} {M : mj_H} : mj_Rn d mj_m188 72 ls st M = mj_Rn d mj_m188 73 ls (.int 5 :: st) M := mj_R0 (r := (.iconst 5, 1, 0, 0, 0)) rfl rfl
theorem s188_73 {d : Nat} {ls : mj_L} {st : List Value} {M : mj_H} : mj_Rn d mj_m188 73 ls st M = mq_k0 d mj_m188 75 ls M (mj_ldi (mj_lk ls 5) st) := mj_R0 (r := (.iload 5, 2, 0, 0, 0)) rfl rfl
theorem s188_75 {d : Nat} {ls : mj_L} {st : List Value} {M : mj_H} : mj_Rn d mj_m188 75 ls st M = mj_Rn d mj_m188 76 ls (.int 4 :: st) M := mj_R0 (r := (.iconst 4, 1, 0, 0, 0)) rfl rfl
theorem s188_76 {d : Nat} {ls : mj_L} {st : List Value} {M : mj_H} : mj_Rn (d + 1) mj_m188 76 ls st M = mq_k5a (d + 1) mj_m188 79 ls M 185 (mq_cb 0 3 10 st M) := mj_R5e (r := (.invokevirtual 218, 3, 0, 185, 20643)) (z := mj_m185) rfl rfl (by decide) (by decide) rfl
theorem s188_79 {d : Nat} {ls : mj_L} {st : List Value} {M : mj_H} : mj_Rn d mj_m188 79 ls st M = mq_k0 d mj_m188 80 ls M (mj_lda (mj_lk ls 0) st) := mj_R0 (r := (.aload_n 0, 1, 0, 0, 0)) rfl rfl
theorem s188_80 {d : Nat} {ls : mj_L} {st : List Value} {M : mj_H} : mj_Rn d mj_m188 80 ls st M = mq_k0 d mj_m188 83 ls M (mq_gf 10 1 st M) := (mj_R3 (r := (.getfield 18, 3, 10, 1, 8488)) rfl rfl).trans (congrArg (mq_k0 d mj_m188 83 ls M) mq_gf_eq)
theorem s188_83 {d : Nat} {ls : mj_L} {st : List Value} {M : mj_H} : mj_Rn d mj_m188 83 ls st M = mj_Rn d mj_m188 85 ls (.int 6 :: st) M := mj_R0 (r := (.bipush 6, 2, 0, 0, 0)) rfl rfl
theorem s188_85 {d : Nat} {ls : mj_L} {st : List Value} {M : mj_H} : mj_Rn (d + 1) mj_m188 85 ls st M = mq_k5a (d + 1) mj_m188 88 ls M 45 (mq_cb 0 1 1 st M) := mj_R5e (r := (.invokevirtual 190, 3, 0, 45, 20603)) (z := mj_m45) rfl rfl (by decide) (by decide) rfl
theorem s188_88 {d : Nat} {ls : mj_L} {st : List Value} {M : mj_H} : mj_Rn d mj_m188 88 ls st M = mq_k0 d mj_m188 89 ls M (mj_lda (mj_lk ls 0) st) := mj_R0 (r := (.aload_n 0, 1, 0, 0, 0)) rfl rfl
theorem s188_89 {d : Nat} {ls : mj_L} {st : List Value} {M : mj_H} : mj_Rn d mj_m188 89 ls st M = mq_k0 d mj_m188 92 ls M (mq_gf 10 1 st M) := (mj_R3 (r := (.getfield 18, 3, 10, 1, 8488)) rfl rfl).trans (congrArg (mq_k0 d mj_m188 92 ls M) mq_gf_eq)
theorem s188_92 {d : Nat} {ls : mj_L} {st : List Value} {M : mj_H} : mj_Rn d mj_m188 92 ls st M = mq_k0 d mj_m188 94 ls M (mj_ldi (mj_lk ls 7) st) := mj_R0 (r := (.iload 7, 2, 0, 0, 0)) rfl rfl
theorem s188_94 {d : Nat} {ls : mj_L} {st : List Value} {M : mj_H} : mj_Rn (d + 1) mj_m188 94 ls st M = mq_k5a (d + 1) mj_m188 97 ls M 134 (mq_cb 0 1 1 st M) := mj_R5e (r := (.invokevirtual 222, 3, 0, 134, 20647)) (z := mj_m134) rfl rfl (by decide) (by decide) rfl
theorem s188_97 {d : Nat} {ls : mj_L} {st : List Value} {M : mj_H} : mj_Rn d mj_m188 97 ls st M = mq_k0 d mj_m188 99 ls M (mj_lda (mj_lk ls 4) st) := mj_R0 (r := (.aload 4, 2, 0, 0, 0)) rfl rfl
theorem s188_99 {d : Nat} {ls : mj_L} {st : List Value} {M : mj_H} : mj_Rn d mj_m188 99 ls st M = mq_k0 d mj_m188 100 ls M (mj_lda (mj_lk ls 0) st) := mj_R0 (r := (.aload_n 0, 1, 0, 0, 0)) rfl rfl
theorem s188_100 {d : Nat} {ls : mj_L} {st : List Value} {M : mj_H} : mj_Rn d mj_m188 100 ls st M = mq_k0 d mj_m188 103 ls M (mq_gf 10 1 st M) := (mj_R3 (r := (.getfield 18, 3, 10, 1, 8488)) rfl rfl).trans (congrArg (mq_k0 d mj_m188 103 ls M) mq_gf_eq)
theorem s188_103 {d : Nat} {ls : mj_L} {st : List Value} {M : mj_H} : mj_Rn (d + 1) mj_m188 103 ls st M = mq_k5a (d + 1) mj_m188 106 ls M 78 (mq_cb 0 1 5 st M) := mj_R5e (r := (.invokevirtual 122, 3, 0, 78, 12435)) (z := mj_m78) rfl rfl (by decide) (by decide) rfl
theorem s188_106 {d : Nat} {ls : mj_L} {st : List Value} {M : mj_H} : mj_Rn d mj_m188 106 ls st M = mq_k1 d mj_m188 108 M (mj_lo 8 (.istore 6) ls st) := mj_R1 (r := (.istore 6, 2, 0, 0, 0)) rfl rfl
theorem s188_108 {d : Nat} {ls : mj_L} {st : List Value} {M : mj_H} : mj_Rn d mj_m188 108 ls st M = mq_k0 d mj_m188 110 ls M (mj_ldi (mj_lk ls 6) st) := mj_R0 (r := (.iload 6, 2, 0, 0, 0)) rfl rfl
theorem s188_110 {d : Nat} {ls : mj_L} {st : List Value} {M : mj_H} : mj_Rn d mj_m188 110 ls st M = mq_k2 d mj_m188 ls M (mj_br (.ifCond .ne 18) 110 st) := mj_R2 (r := (.ifCond .ne 18, 3, 0, 0, 0)) rfl rfl
theorem s188_113 {d : Nat} {ls : mj_L} {st : List Value} {M : mj_H} : mj_Rn d mj_m188 113 ls st M = mq_k0 d mj_m188 114 ls M (mj_lda (mj_lk ls 0) st) := mj_R0 (r := (.aload_n 0, 1, 0, 0, 0)) rfl rfl
theorem s188_114 {d : Nat} {ls : mj_L} {st : List Value} {M : mj_H} : mj_Rn d mj_m188 114 ls st M = mq_k0 d mj_m188 115 ls M (mj_lda (mj_lk ls 3) st) := mj_R0 (r := (.aload_n 3, 1, 0, 0, 0)) rfl rfl
theorem s188_115 {d : Nat} {ls : mj_L} {st : List Value} {M : mj_H} : mj_Rn d mj_m188 115 ls st M = mq_k0 d mj_m188 117 ls M (mj_lda (mj_lk ls 4) st) := mj_R0 (r := (.aload 4, 2, 0, 0, 0)) rfl rfl
theorem s188_117 {d : Nat} {ls : mj_L} {st : List Value} {M : mj_H} : mj_Rn d mj_m188 117 ls st M = mq_k0 d mj_m188 120 ls M (mq_gf 5 3 st M) := (mj_R3 (r := (.getfield 126, 3, 5, 3, 16607)) rfl rfl).trans (congrArg (mq_k0 d mj_m188 120 ls M) mq_gf_eq)
theorem s188_120 {d : Nat} {ls : mj_L} {st : List Value} {M : mj_H} : mj_Rn d mj_m188 120 ls st M = mj_Rn d mj_m188 121 ls (.int 4 :: st) M := mj_R0 (r := (.iconst 4, 1, 0, 0, 0)) rfl rfl
theorem s188_121 {d : Nat} {ls : mj_L} {st : List Value} {M : mj_H} : mj_Rn (d + 1) mj_m188 121 ls st M = mq_k5a (d + 1) mj_m188 124 ls M 53 (mq_cb 0 1 1 st M) := mj_R5e (r := (.invokevirtual 228, 3, 0, 53, 20633)) (z := mj_m53) rfl rfl (by decide) (by decide) rfl
theorem s188_124 {d : Nat} {ls : mj_L} {st : List Value} {M : mj_H} : mj_Rn (d + 1) mj_m188 124 ls st M = mq_k5a (d + 1) mj_m188 127 ls M 177 (mq_cb 0 2 10 st M) := mj_R5e (r := (.invokevirtual 193, 3, 0, 177, 20608)) (z := mj_m177) rfl rfl (by decide) (by decide) rfl
theorem s188_127 {d : Nat} {ls : mj_L} {st : List Value} {M : mj_H} : mj_Rn d mj_m188 127 ls st M = mq_k0 d mj_m188 128 ls M (mj_pu .pop ls st) := mj_R0 (r := (.pop, 1, 0, 0, 0)) rfl rfl
theorem s188_128 {d : Nat} {ls : mj_L} {st : List Value} {M : mj_H} : mj_Rn d mj_m188 128 ls st M = mq_k0 d mj_m188 130 ls M (mj_ldi (mj_lk ls 6) st) := mj_R0 (r := (.iload 6, 2, 0, 0, 0)) rfl rfl
theorem s188_130 {d : Nat} {ls : mj_L} {st : List Value} {M : mj_H} : mj_Rn d mj_m188 130 ls st M = mq_k6 M (mj_re (some .int) (.ireturn) st) := mj_R6 (r := (.ireturn, 1, 0, 0, 0)) rfl rfl
theorem c180 {d : Nat} {a0 : Nat} {x1 : Int32} {x2 : Int32} {M : mj_H} : mj_V (d + 1) 180 [.ref a0, .int x1, .int x2] M = mj_Rn d mj_m180 0 [(0, .ref a0), (1, .int x1), (2, .int x2)] [] M := mj_V_go rfl (Nat.le_of_ble_eq_true rfl)
theorem c186 {d : Nat} {a0 : Nat} {x1 : Int32} {x2 : Int32} {x3 : Int32} {M : mj_H} : mj_V (d + 1) 186 [.ref a0, .int x1, .int x2, .int x3] M = mj_Rn d mj_m186 0 [(0, .ref a0), (1, .int x1), (2, .int x2), (3, .int x3)] [] M := mj_V_go rfl (Nat.le_of_ble_eq_true rfl)
theorem c188 {d : Nat} {a0 : Nat} {x1 : Int32} {x2 : Int32} {M : mj_H} : mj_V (d + 1) 188 [.ref a0, .int x1, .int x2] M = mj_Rn d mj_m188 0 [(0, .ref a0), (1, .int x1), (2, .int x2)] [] M := mj_V_go rfl (Nat.le_of_ble_eq_true rfl)
section HZ
variable {M M' : mj_H} {H H' : Ho} {κs πs : List Nat} {row row' ms : List Int32} {d : Nat} {i l : Int32}
theorem hm.rcv (z : hm M H κs πs row ms) {j κ : Nat} {k : Ky} (hk : H.2.2.1[j]? = some k) (hκ : κs[j]? = some κ) (hg : kg k) (hf5 : H.2.1.1.length + 5 < 1000) : ∃ M' row', mj_V (d + 12) 78 [.ref κ, .ref 28] M = some (some (.int (ky_recv ms k H.2.1).1), M') ∧ hz M' (H.kt j (ky_recv ms k H.2.1).2) κs πs row' ∧ hf M M' ∧ kz (hA κs πs) κ M' (ky_recv ms k H.2.1).2.1 (ky_recv ms k H.2.1).2.2 row' := h_rec z.z hk hκ z.b hg hf5
/-- hand and key have agreed, or not: up to the answer -/
theorem h_ag (z : hz M H κs πs row) {a b κ : Nat} {h : Hd} {k : Ky} (hh : H.2.2.2.1[a]? = some h) (hk : H.2.2.1[b]? = some k) (hκ : κs[b]? = some κ) (hg : kg k) (hl : H.2.1.1.length + 20 < 1000) :
    ∃ M1 M2 M3 row1 row3, mj_V (d + 6) 169 [.ref 25, .ref (46 + 5 * a)] M = some (some (.int (own_n H.2.1)), M1) ∧ hz M1 (H.ht a (own_h h H.2.1, own_T H.2.1)) κs πs row1 ∧ mj_V (d + 3) 181 [.ref 25] M1 = some (none, M2) ∧ hm M2 (H.ht a (own_h h H.2.1, own_T H.2.1)) κs πs row1 agMsg ∧ mj_V (d + 12) 78 [.ref κ, .ref 28] M2 = some (some (.int (ag_k h k H.2.1).1), M3) ∧ hz M3 (H.hk a (own_h h H.2.1) b (ag_k h k H.2.1).2) κs πs row3 ∧ hf M M3 ∧ kz (hA κs πs) κ M3 (ag_k h k H.2.1).2.1 (ag_k h k H.2.1).2.2 row3 := by
  obtain ⟨M1, row1, p1, z1, g1⟩ := h_newOwn (d := d) z hh (by omega)
  obtain ⟨M2, p2, z2, g2⟩ := h_wag (d := d) z1
  have hol := own_len1 H.2.1
  obtain ⟨M3, row3, p3, z3, g3, k3⟩ := z2.rcv (d := d) hk hκ hg (by show (own_T H.2.1).1.length + 5 < 1000; omega)
  exact ⟨M1, M2, M3, row1, row3, p1, z1, p2, z2, p3, z3, (g1.tr g2).tr g3, k3⟩
theorem hk_h {j : Nat} {h : Hd} {b : Nat} {q : Ky × Tm} (hj : j < H.2.2.2.1.length) : (H.hk j h b q).2.2.2.1[j]? = some h := List.getElem?_set_self hj
theorem hk_k {j : Nat} {h : Hd} {b : Nat} {q : Ky × Tm} (hb : b < H.2.2.1.length) : (H.hk j h b q).2.2.1[b]? = some q.1 := List.getElem?_set_self hb
theorem h_setPin (z : hz M H κs πs row) (hg : ∀ k ∈ H.2.2.1, kg k) (hl : H.2.1.1.length + 20 < 1000) : ∃ M' row', mj_V (d + 13) 180 [.ref 25, .int i, .int l] M = some (some (.int (ho_setPin H i l).1), M') ∧ hz M' (ho_setPin H i l).2 κs πs row' ∧ hf M M' := by
  have x0 := z.ob
  unfold ho_setPin
  cases hia : ix i 4 with
  | none =>
    have v0 := h_hanN (d := d + 11) z hia
    refine ⟨M, row, ?_, z, hf.rf⟩
    cases hib : ix l H.2.2.1.length with
    | none =>
      have v1 := h_keyN (d := d + 11) z hib
      simp (disch := (first | omega | decide)) [c180, s180_0, s180_1, s180_2, s180_5, s180_6, s180_7, s180_8, s180_11, s180_13, s180_14, s180_17, s180_19, s180_22, s180_23, s180_24, s180_25, s180_26, s180_29, s180_31, s180_32, s180_35, s180_37, s180_38, s180_41, s180_44, s180_46, s180_48, s180_51, s180_53, s180_54, s180_55, s180_56, s180_58, s180_61, s180_64, s180_65, s180_66, s180_67, s180_70, s180_71, s180_74, s180_77, s180_80, s180_82, s180_83, s180_84, s180_86, s180_87, s180_90, s180_92, s180_93, s180_94, s180_96, s180_97, s180_100, s180_101, s180_104, s180_105, s180_108, s180_109, s180_112, s180_114, s180_117, s180_118, s180_121, s180_122, s180_125, s180_126, s180_129, s180_131, s180_134, s180_136, s180_137, s180_140, s180_143, mq_k0s, mq_k1s, mq_k2s, mq_k4s, mq_k5s, mq_k5n, mq_k5as, mq_k6s, mj_pu, mj_lo, mj_br, mj_hr, mj_hw, mq_gf, mq_len, mq_al, mq_pf, mq_ok, mj_re, mq_lkm, mq_lkn, mj_ldi, mj_ldl, mj_lda, mj_ii, mj_ll, mj_li, mj_i1, ms_1, ms_2, f1_n, f1_i, f1_r, f1_u, f1_l, f2_n, f2_i, f2_r, f2_u, f2_l, mj_tg, mj_c1, mj_c2, mj_ar, mj_aw, mq_cb, mq_oi, mj_rm, Value.category, -getElem?_pos, List.getElem?_cons_zero, decide_eq_true, decide_eq_false, nl_lt, nl_le, ln_lt, ln_le, nl_eq, ln_eq, nl_add, ln_add, nl_sub, ln_mul, nI_sub, nI_mul, nI_add, nI_lt_iff, nI_le_iff, nI_inj, nI_num, mq_ix, nI_1, nl_mul, nl_div, x0, v0, v1, narrow]
    | some b =>
      obtain ⟨rfl, hb, -⟩ := ix_some hib
      obtain ⟨κ, hκ, zk⟩ := z.kzz (List.getElem?_eq_getElem hb)
      have v1 := h_keyS (d := d + 11) z hκ
      simp (disch := (first | omega | decide)) [c180, s180_0, s180_1, s180_2, s180_5, s180_6, s180_7, s180_8, s180_11, s180_13, s180_14, s180_17, s180_19, s180_22, s180_23, s180_24, s180_25, s180_26, s180_29, s180_31, s180_32, s180_35, s180_37, s180_38, s180_41, s180_44, s180_46, s180_48, s180_51, s180_53, s180_54, s180_55, s180_56, s180_58, s180_61, s180_64, s180_65, s180_66, s180_67, s180_70, s180_71, s180_74, s180_77, s180_80, s180_82, s180_83, s180_84, s180_86, s180_87, s180_90, s180_92, s180_93, s180_94, s180_96, s180_97, s180_100, s180_101, s180_104, s180_105, s180_108, s180_109, s180_112, s180_114, s180_117, s180_118, s180_121, s180_122, s180_125, s180_126, s180_129, s180_131, s180_134, s180_136, s180_137, s180_140, s180_143, mq_k0s, mq_k1s, mq_k2s, mq_k4s, mq_k5s, mq_k5n, mq_k5as, mq_k6s, mj_pu, mj_lo, mj_br, mj_hr, mj_hw, mq_gf, mq_len, mq_al, mq_pf, mq_ok, mj_re, mq_lkm, mq_lkn, mj_ldi, mj_ldl, mj_lda, mj_ii, mj_ll, mj_li, mj_i1, ms_1, ms_2, f1_n, f1_i, f1_r, f1_u, f1_l, f2_n, f2_i, f2_r, f2_u, f2_l, mj_tg, mj_c1, mj_c2, mj_ar, mj_aw, mq_cb, mq_oi, mj_rm, Value.category, -getElem?_pos, List.getElem?_cons_zero, decide_eq_true, decide_eq_false, nl_lt, nl_le, ln_lt, ln_le, nl_eq, ln_eq, nl_add, ln_add, nl_sub, ln_mul, nI_sub, nI_mul, nI_add, nI_lt_iff, nI_le_iff, nI_inj, nI_num, mq_ix, nI_1, nl_mul, nl_div, x0, v0, v1, narrow]
  | some a =>
    obtain ⟨rfl, ha, -⟩ := ix_some hia
    have v0 := h_hanS (d := d + 11) z ha
    cases hib : ix l H.2.2.1.length with
    | none =>
      have v1 := h_keyN (d := d + 11) z hib
      refine ⟨M, row, ?_, z, hf.rf⟩
      simp (disch := (first | omega | decide)) [c180, s180_0, s180_1, s180_2, s180_5, s180_6, s180_7, s180_8, s180_11, s180_13, s180_14, s180_17, s180_19, s180_22, s180_23, s180_24, s180_25, s180_26, s180_29, s180_31, s180_32, s180_35, s180_37, s180_38, s180_41, s180_44, s180_46, s180_48, s180_51, s180_53, s180_54, s180_55, s180_56, s180_58, s180_61, s180_64, s180_65, s180_66, s180_67, s180_70, s180_71, s180_74, s180_77, s180_80, s180_82, s180_83, s180_84, s180_86, s180_87, s180_90, s180_92, s180_93, s180_94, s180_96, s180_97, s180_100, s180_101, s180_104, s180_105, s180_108, s180_109, s180_112, s180_114, s180_117, s180_118, s180_121, s180_122, s180_125, s180_126, s180_129, s180_131, s180_134, s180_136, s180_137, s180_140, s180_143, mq_k0s, mq_k1s, mq_k2s, mq_k4s, mq_k5s, mq_k5n, mq_k5as, mq_k6s, mj_pu, mj_lo, mj_br, mj_hr, mj_hw, mq_gf, mq_len, mq_al, mq_pf, mq_ok, mj_re, mq_lkm, mq_lkn, mj_ldi, mj_ldl, mj_lda, mj_ii, mj_ll, mj_li, mj_i1, ms_1, ms_2, f1_n, f1_i, f1_r, f1_u, f1_l, f2_n, f2_i, f2_r, f2_u, f2_l, mj_tg, mj_c1, mj_c2, mj_ar, mj_aw, mq_cb, mq_oi, mj_rm, Value.category, -getElem?_pos, List.getElem?_cons_zero, decide_eq_true, decide_eq_false, nl_lt, nl_le, ln_lt, ln_le, nl_eq, ln_eq, nl_add, ln_add, nl_sub, ln_mul, nI_sub, nI_mul, nI_add, nI_lt_iff, nI_le_iff, nI_inj, nI_num, mq_ix, nI_1, nl_mul, nl_div, x0, v0, v1, narrow]
    | some b =>
      obtain ⟨rfl, hb, -⟩ := ix_some hib
      have hah : a < H.2.2.2.1.length := by rw [z.hl]; exact ha
      have hh := List.getElem?_eq_getElem hah
      have hk := List.getElem?_eq_getElem hb
      obtain ⟨κ, hκ, zk⟩ := z.kzz hk
      have v1 := h_keyS (d := d + 11) z hκ
      have hkg := hg _ (List.getElem_mem hb)
      have sh : ∀ x, (H.2.2.2.1.set a x)[a]? = some x := fun x => List.getElem?_set_self hah
      have sk : ∀ x, (H.2.2.1.set b x)[b]? = some x := fun x => List.getElem?_set_self hb
      generalize H.2.2.2.1[a] = h at *
      generalize H.2.2.1[b] = k at *
      dsimp only
      rw [hh, hk]
      dsimp only
      obtain ⟨M1, M2, M3, row1, row3, p1, z1, p2, z2, p3, z3, g3, k3⟩ := h_ag (d := d) z hh hk hκ hkg hl
      have p1 := mj_V_mono (d' := d + 12) (by omega) p1
      have p2 := mj_V_mono (d' := d + 12) (by omega) p2
      have x1 := z1.ob
      obtain ⟨x2, y2⟩ := z2.fa
      have x3 := z3.ob
      obtain ⟨u3, t3⟩ := k3.fa
      obtain ⟨κ2, hκ2, zk2⟩ := z2.z.kzz hk
      rw [hκ] at hκ2
      cases hκ2
      obtain ⟨w2, t2⟩ := zk2.fa
      by_cases hs : (ag_k h k H.2.1).1 = 0; rotate_left
      · rw [if_pos hs]
        refine ⟨M3, row3, ?_, z3, g3⟩
        simp (disch := (first | omega | decide)) [c180, s180_0, s180_1, s180_2, s180_5, s180_6, s180_7, s180_8, s180_11, s180_13, s180_14, s180_17, s180_19, s180_22, s180_23, s180_24, s180_25, s180_26, s180_29, s180_31, s180_32, s180_35, s180_37, s180_38, s180_41, s180_44, s180_46, s180_48, s180_51, s180_53, s180_54, s180_55, s180_56, s180_58, s180_61, s180_64, s180_65, s180_66, s180_67, s180_70, s180_71, s180_74, s180_77, s180_80, s180_82, s180_83, s180_84, s180_86, s180_87, s180_90, s180_92, s180_93, s180_94, s180_96, s180_97, s180_100, s180_101, s180_104, s180_105, s180_108, s180_109, s180_112, s180_114, s180_117, s180_118, s180_121, s180_122, s180_125, s180_126, s180_129, s180_131, s180_134, s180_136, s180_137, s180_140, s180_143, mq_k0s, mq_k1s, mq_k2s, mq_k4s, mq_k5s, mq_k5n, mq_k5as, mq_k6s, mj_pu, mj_lo, mj_br, mj_hr, mj_hw, mq_gf, mq_len, mq_al, mq_pf, mq_ok, mj_re, mq_lkm, mq_lkn, mj_ldi, mj_ldl, mj_lda, mj_ii, mj_ll, mj_li, mj_i1, ms_1, ms_2, f1_n, f1_i, f1_r, f1_u, f1_l, f2_n, f2_i, f2_r, f2_u, f2_l, mj_tg, mj_c1, mj_c2, mj_ar, mj_aw, mq_cb, mq_oi, mj_rm, Value.category, -getElem?_pos, List.getElem?_cons_zero, decide_eq_true, decide_eq_false, nl_lt, nl_le, ln_lt, ln_le, nl_eq, ln_eq, nl_add, ln_add, nl_sub, ln_mul, nI_sub, nI_mul, nI_add, nI_lt_iff, nI_le_iff, nI_inj, nI_num, mq_ix, nI_1, nl_mul, nl_div, x0, v0, v1, p1, x1, p2, x2, t2, p3, hs, narrow]
      rw [if_neg (by simp [hs])]
      rw [hs] at p3
      have h8 := ag_r8 h k H.2.1 hs
      have hgl := ag_len h k H.2.1
      have hTl := agT_len h k H.2.1
      obtain ⟨M4, row4, p4, z4, g4⟩ := h_awa (d := d + 6) z3 (sh _) k3.re (by omega) (by show (ag_k h k H.2.1).2.2.1.length < 1000; omega)
      change hz M4 ((H.1, (ag_T h k H.2.1, (H.2.2.1.set b (ag_k h k H.2.1).2.1, ((H.2.2.2.1.set a (own_h h H.2.1)).set a (ag_h h k H.2.1), H.2.2.2.2)))) : Ho) κs πs row4 at z4
      rw [List.set_set] at z4
      change hz M4 (H.hk a (ag_h h k H.2.1) b ((ag_k h k H.2.1).2.1, ag_T h k H.2.1)) κs πs row4 at z4
      have x4 := z4.ob
      have zh4 := z4.hd a _ (sh _)
      have y4 := zh4.ob
      have o4 := zh4.pi.2.2.2.2.2.1
      have s4 := v_size (d := d + 11) zh4.pi
      have hpl := zh4.pi.len
      obtain ⟨M5, row5, p5, z5, g5⟩ := h_enc (d := d + 7) (n := (ag_h h k H.2.1).1.length) z4 (sh _) zh4.pi (by unfold hA; omega) (by unfold hA; omega) (Nat.le_refl _) (by omega) (by show (ag_T h k H.2.1).1.length < 1000; omega)
      rw [List.take_of_length_le (Nat.le_refl _)] at p5 z5
      generalize hah' : ag_h h k H.2.1 = h' at *
      generalize haT : ag_T h k H.2.1 = T' at *
      have hm5 := tm_mk_len T' (enc_row h' h'.1)
      have x5 := z5.ob
      obtain ⟨M6, row6, p6, z6, g6⟩ := h_prf (d := d + 7) z5 (sh _) (nI (tm_no T' (enc_row h' h'.1))) 0 (by show (tm_mk T' (enc_row h' h'.1)).1.length < 1000; omega)
      rw [if_pos rfl, List.append_nil] at p6 z6
      have x6 := z6.ob
      have hm6 := tm_mk_len (tm_mk T' (enc_row h' h'.1)) (mac_row h' (b4 (nI (tm_no T' (enc_row h' h'.1)))))
      obtain ⟨M7, p7, z7, g7⟩ := h_bpm (d := d + 8) z6 3 (own_n H.2.1) 5 165 (by decide) h_55
      obtain ⟨x7, y7⟩ := z7.fa
      have hpn : ∀ r : List Int32, (pnMsg 165 3 (own_n H.2.1) r).length = 12 + r.length := by intro r; simp [pnMsg, b4_len]; omega
      have hp0 := hpn []
      simp only [List.length_nil] at hp0
      generalize hPM : pnMsg 165 3 (own_n H.2.1) [] = PM at *
      change mj_V (d + 12) 184 [.ref 25, .ref (46 + 5 * a), .int (nI (tm_no T' (enc_row h' h'.1))), .int 0] M5 = some (some (.int (nI (tm_no (tm_mk T' (enc_row h' h'.1)) (mac_row h' (b4 (nI (tm_no T' (enc_row h' h'.1)))))))), M6) at p6
      generalize hmac : nI (tm_no (tm_mk T' (enc_row h' h'.1)) (mac_row h' (b4 (nI (tm_no T' (enc_row h' h'.1)))))) = mac at *
      change mj_V (d + 12) 183 [.ref 25, .ref (46 + 5 * a), .ref (46 + 5 * a + 1), .int (nI h'.1.length)] M4 = some (some (.int (nI (tm_no T' (enc_row h' h'.1)))), M5) at p5
      generalize henc : nI (tm_no T' (enc_row h' h'.1)) = enc at *
      obtain ⟨M8, p8, z8, g8⟩ := hm_pushX (d := d + 11) z7 4 (PM ++ [4]) (by simp only [List.append_assoc, List.cons_append, List.nil_append, List.append_nil, h_53, h_54, h_55, h_52, h_51, h_41, h_217, h_29, h_22, h_16, h_721, h_720, h_0400, aa_1, aa_2, aa_3, aa_4, aa_5, aa_6, tx_0, tx_1, tx_2, tx_3, tx_5, tx_6, tx_7, tx_8, tx_9, tx_10, h_56, h_44, aa_7, aa_8, aa_9]) (by simp [b4_len] <;> omega)
      obtain ⟨x8, y8⟩ := z8.fa
      obtain ⟨M9, p9, z9, g9⟩ := hm_termX (d := d + 9) z8 mac ((PM ++ [4]) ++ (68 :: b4 mac)) rfl (by simp [b4_len] <;> omega)
      obtain ⟨x9, y9⟩ := z9.fa
      obtain ⟨M10, p10, z10, g10⟩ := hm_pushX (d := d + 11) z9 5 (((PM ++ [4]) ++ (68 :: b4 mac)) ++ [5]) (by simp only [List.append_assoc, List.cons_append, List.nil_append, List.append_nil, h_53, h_54, h_55, h_52, h_51, h_41, h_217, h_29, h_22, h_16, h_721, h_720, h_0400, aa_1, aa_2, aa_3, aa_4, aa_5, aa_6, tx_0, tx_1, tx_2, tx_3, tx_5, tx_6, tx_7, tx_8, tx_9, tx_10, h_56, h_44, aa_7, aa_8, aa_9]) (by simp [b4_len] <;> omega)
      obtain ⟨x10, y10⟩ := z10.fa
      obtain ⟨M11, p11, z11, g11⟩ := hm_termX (d := d + 9) z10 enc ((((PM ++ [4]) ++ (68 :: b4 mac)) ++ [5]) ++ (68 :: b4 enc)) rfl (by simp [b4_len] <;> omega)
      obtain ⟨x11, y11⟩ := z11.fa
      have e11 : PM ++ [4] ++ (68 :: b4 mac) ++ [5] ++ (68 :: b4 enc) = pnMsg 165 3 (own_n H.2.1) (mbr 4 mac ++ mbr 5 enc) := by rw [← hPM]; simp [pnMsg, mbr]
      rw [e11] at z11
      obtain ⟨M12, row12, p12, z12, g12, k12⟩ := z11.rcv (d := d) (sk _) hκ (ag_kg hkg) (by show (tm_mk (tm_mk T' (enc_row h' h'.1)) (mac_row h' (b4 enc))).1.length + 5 < 1000; omega)
      obtain ⟨κ3, hκ3, zk11⟩ := z11.z.kzz (sk _)
      rw [hκ] at hκ3
      cases hκ3
      obtain ⟨w11, t11⟩ := zk11.fa
      have esp : sp_2 h' (ag_k h k H.2.1).2.1 T' (own_n H.2.1) = ky_recv (pnMsg 165 3 (own_n H.2.1) (mbr 4 mac ++ mbr 5 enc)) (ag_k h k H.2.1).2.1 (tm_mk (tm_mk T' (enc_row h' h'.1)) (mac_row h' (b4 enc))) := by unfold sp_2; rw [henc, hmac]
      rw [esp]
      refine ⟨M12, row12, ?_, ?_, ((((((((g3.tr g4).tr g5).tr g6).tr g7).tr g8).tr g9).tr g10).tr g11).tr g12⟩
      · change mj_V (d + 12) 78 [.ref κ, .ref 28] M11 = some (some (.int (ky_recv (pnMsg 165 3 (own_n H.2.1) (mbr 4 mac ++ mbr 5 enc)) (ag_k h k H.2.1).2.1 (tm_mk (tm_mk T' (enc_row h' h'.1)) (mac_row h' (b4 enc)))).1), M12) at p12
        simp (disch := (first | omega | decide)) [c180, s180_0, s180_1, s180_2, s180_5, s180_6, s180_7, s180_8, s180_11, s180_13, s180_14, s180_17, s180_19, s180_22, s180_23, s180_24, s180_25, s180_26, s180_29, s180_31, s180_32, s180_35, s180_37, s180_38, s180_41, s180_44, s180_46, s180_48, s180_51, s180_53, s180_54, s180_55, s180_56, s180_58, s180_61, s180_64, s180_65, s180_66, s180_67, s180_70, s180_71, s180_74, s180_77, s180_80, s180_82, s180_83, s180_84, s180_86, s180_87, s180_90, s180_92, s180_93, s180_94, s180_96, s180_97, s180_100, s180_101, s180_104, s180_105, s180_108, s180_109, s180_112, s180_114, s180_117, s180_118, s180_121, s180_122, s180_125, s180_126, s180_129, s180_131, s180_134, s180_136, s180_137, s180_140, s180_143, mq_k0s, mq_k1s, mq_k2s, mq_k4s, mq_k5s, mq_k5n, mq_k5as, mq_k6s, mj_pu, mj_lo, mj_br, mj_hr, mj_hw, mq_gf, mq_len, mq_al, mq_pf, mq_ok, mj_re, mq_lkm, mq_lkn, mj_ldi, mj_ldl, mj_lda, mj_ii, mj_ll, mj_li, mj_i1, ms_1, ms_2, f1_n, f1_i, f1_r, f1_u, f1_l, f2_n, f2_i, f2_r, f2_u, f2_l, mj_tg, mj_c1, mj_c2, mj_ar, mj_aw, mq_cb, mq_oi, mj_rm, Value.category, -getElem?_pos, List.getElem?_cons_zero, decide_eq_true, decide_eq_false, nl_lt, nl_le, ln_lt, ln_le, nl_eq, ln_eq, nl_add, ln_add, nl_sub, ln_mul, nI_sub, nI_mul, nI_add, nI_lt_iff, nI_le_iff, nI_inj, nI_num, mq_ix, nI_1, nl_mul, nl_div, x0, v0, v1, p1, x1, p2, x2, t2, p3, x3, t3, p4, x4, y4, o4, s4, p5, x5, p6, x6, p7, x7, y7, p8, x8, y8, p9, x9, y9, p10, x10, y10, p11, x11, y11, t11, p12, narrow]
      · change hz M12 ((H.1, ((ky_recv (pnMsg 165 3 (own_n H.2.1) (mbr 4 mac ++ mbr 5 enc)) (ag_k h k H.2.1).2.1 (tm_mk (tm_mk T' (enc_row h' h'.1)) (mac_row h' (b4 enc)))).2.2, ((H.2.2.1.set b (ag_k h k H.2.1).2.1).set b (ky_recv (pnMsg 165 3 (own_n H.2.1) (mbr 4 mac ++ mbr 5 enc)) (ag_k h k H.2.1).2.1 (tm_mk (tm_mk T' (enc_row h' h'.1)) (mac_row h' (b4 enc)))).2.1, (H.2.2.2.1.set a h', H.2.2.2.2)))) : Ho) κs πs row12 at z12
        rw [List.set_set] at z12
        exact z12
end HZ
end
