/- 50.terms -/
section
set_option maxRecDepth 512
/-! Class: Terms. -/
/- 28 PasskeyHouse$Terms.begin(I)V -/
theorem s28_0 {d : Nat} {ls : mj_L} {st : List Value} {M : mj_H} : mj_Rn d mj_m28 0 ls st M = mq_k0 d mj_m28 1 ls M (mj_lda (mj_lk ls 0) st) := mj_R0 (r := (.aload_n 0, 1, 0, 0, 0)) rfl rfl
theorem s28_1 {d : Nat} {ls : mj_L} {st : List Value} {M : mj_H} : mj_Rn d mj_m28 1 ls st M = mj_Rn d mj_m28 2 ls (.int 0 :: st) M := mj_R0 (r := (.iconst 0, 1, 0, 0, 0)) rfl rfl
theorem s28_2 {d : Nat} {ls : mj_L} {st : List Value} {M : mj_H} : mj_Rn d mj_m28 2 ls st M = mq_k4 d mj_m28 5 ls (mq_pf 9 5 0 st M) := (mj_R4 (r := (.putfield 27, 3, 9, 5, 8304)) rfl rfl).trans (congrArg (mq_k4 d mj_m28 5 ls) (mq_pf_eq rfl rfl))
theorem s28_5 {d : Nat} {ls : mj_L} {st : List Value} {M : mj_H} : mj_Rn d mj_m28 5 ls st M = mq_k0 d mj_m28 6 ls M (mj_lda (mj_lk ls 0) st) := mj_R0 (r := (.aload_n 0, 1, 0, 0, 0)) rfl rfl
theorem s28_6 {d : Nat} {ls : mj_L} {st : List Value} {M : mj_H} : mj_Rn d mj_m28 6 ls st M = mq_k0 d mj_m28 7 ls M (mj_ldi (mj_lk ls 1) st) := mj_R0 (r := (.iload_n 1, 1, 0, 0, 0)) rfl rfl
theorem s28_7 {d : Nat} {ls : mj_L} {st : List Value} {M : mj_H} : mj_Rn (d + 1) mj_m28 7 ls st M = mq_k5a (d + 1) mj_m28 10 ls M 29 (mq_cb 0 1 9 st M) := mj_R5e (r := (.invokevirtual 40, 3, 0, 29, 8361)) (z := mj_m29) rfl rfl (by decide) (by decide) rfl
theorem s28_10 {d : Nat} {ls : mj_L} {st : List Value} {M : mj_H} : mj_Rn d mj_m28 10 ls st M = mq_k6 M (mj_re none (.return_) st) := mj_R6 (r := (.return_, 1, 0, 0, 0)) rfl rfl
/- 29 PasskeyHouse$Terms.add(I)V -/
theorem s29_0 {d : Nat} {ls : mj_L} {st : List Value} {M : mj_H} : mj_Rn d mj_m29 0 ls st M = mq_k0 d mj_m29 1 ls M (mj_lda (mj_lk ls 0) st) := mj_R0 (r := (.aload_n 0, 1, 0, 0, 0)) rfl rfl
theorem s29_1 {d : Nat} {ls : mj_L} {st : List Value} {M : mj_H} : mj_Rn d mj_m29 1 ls st M = mq_k0 d mj_m29 4 ls M (mq_gf 9 5 st M) := (mj_R3 (r := (.getfield 27, 3, 9, 5, 8304)) rfl rfl).trans (congrArg (mq_k0 d mj_m29 4 ls M) mq_gf_eq)
theorem s29_4 {d : Nat} {ls : mj_L} {st : List Value} {M : mj_H} : mj_Rn d mj_m29 4 ls st M = mq_k2 d mj_m29 ls M (mj_br (.ifCond .lt 35) 4 st) := mj_R2 (r := (.ifCond .lt 35, 3, 0, 0, 0)) rfl rfl
theorem s29_7 {d : Nat} {ls : mj_L} {st : List Value} {M : mj_H} : mj_Rn d mj_m29 7 ls st M = mq_k0 d mj_m29 8 ls M (mj_lda (mj_lk ls 0) st) := mj_R0 (r := (.aload_n 0, 1, 0, 0, 0)) rfl rfl
theorem s29_8 {d : Nat} {ls : mj_L} {st : List Value} {M : mj_H} : mj_Rn d mj_m29 8 ls st M = mq_k0 d mj_m29 11 ls M (mq_gf 9 5 st M) := (mj_R3 (r := (.getfield 27, 3, 9, 5, 8304)) rfl rfl).trans (congrArg (mq_k0 d mj_m29 11 ls M) mq_gf_eq)
theorem s29_11 {d : Nat} {ls : mj_L} {st : List Value} {M : mj_H} : mj_Rn d mj_m29 11 ls st M = mq_k0 d mj_m29 12 ls M (mj_lda (mj_lk ls 0) st) := mj_R0 (r := (.aload_n 0, 1, 0, 0, 0)) rfl rfl
theorem s29_12 {d : Nat} {ls : mj_L} {st : List Value} {M : mj_H} : mj_Rn d mj_m29 12 ls st M = mq_k0 d mj_m29 15 ls M (mq_gf 9 4 st M) := (mj_R3 (r := (.getfield 24, 3, 9, 4, 8302)) rfl rfl).trans (congrArg (mq_k0 d mj_m29 15 ls M) mq_gf_eq)
theorem s29_15 {d : Nat} {ls : mj_L} {st : List Value} {M : mj_H} : mj_Rn d mj_m29 15 ls st M = mq_k0 d mj_m29 16 ls M (mq_len st M) := (mj_R3 (r := (.arraylength, 1, 0, 0, 0)) rfl rfl).trans (congrArg (mq_k0 d mj_m29 16 ls M) mq_len_eq)
theorem s29_16 {d : Nat} {ls : mj_L} {st : List Value} {M : mj_H} : mj_Rn d mj_m29 16 ls st M = mq_k2 d mj_m29 ls M (mj_br (.if_icmp .ge 23) 16 st) := mj_R2 (r := (.if_icmp .ge 23, 3, 0, 0, 0)) rfl rfl
theorem s29_19 {d : Nat} {ls : mj_L} {st : List Value} {M : mj_H} : mj_Rn d mj_m29 19 ls st M = mq_k0 d mj_m29 20 ls M (mj_lda (mj_lk ls 0) st) := mj_R0 (r := (.aload_n 0, 1, 0, 0, 0)) rfl rfl
theorem s29_20 {d : Nat} {ls : mj_L} {st : List Value} {M : mj_H} : mj_Rn d mj_m29 20 ls st M = mq_k0 d mj_m29 23 ls M (mq_gf 9 4 st M) := (mj_R3 (r := (.getfield 24, 3, 9, 4, 8302)) rfl rfl).trans (congrArg (mq_k0 d mj_m29 23 ls M) mq_gf_eq)
theorem s29_23 {d : Nat} {ls : mj_L} {st : List Value} {M : mj_H} : mj_Rn d mj_m29 23 ls st M = mq_k0 d mj_m29 24 ls M (mj_lda (mj_lk ls 0) st) := mj_R0 (r := (.aload_n 0, 1, 0, 0, 0)) rfl rfl
theorem s29_24 {d : Nat} {ls : mj_L} {st : List Value} {M : mj_H} : mj_Rn d mj_m29 24 ls st M = mq_k0 d mj_m29 27 ls M (mq_gf 9 5 st M) := (mj_R3 (r := (.getfield 27, 3, 9, 5, 8304)) rfl rfl).trans (congrArg (mq_k0 d mj_m29 27 ls M) mq_gf_eq)
theorem s29_27 {d : Nat} {ls : mj_L} {st : List Value} {M : mj_H} : mj_Rn d mj_m29 27 ls st M = mq_k0 d mj_m29 28 ls M (mj_ldi (mj_lk ls 1) st) := mj_R0 (r := (.iload_n 1, 1, 0, 0, 0)) rfl rfl
theorem s29_28 {d : Nat} {ls : mj_L} {st : List Value} {M : mj_H} : mj_Rn d mj_m29 28 ls st M = mq_k4 d mj_m29 29 ls (mj_hw (.iastore, 1, 0, 0, 0) st M) := mj_R4 (r := (.iastore, 1, 0, 0, 0)) rfl rfl
theorem s29_29 {d : Nat} {ls : mj_L} {st : List Value} {M : mj_H} : mj_Rn d mj_m29 29 ls st M = mq_k0 d mj_m29 30 ls M (mj_lda (mj_lk ls 0) st) := mj_R0 (r := (.aload_n 0, 1, 0, 0, 0)) rfl rfl
theorem s29_30 {d : Nat} {ls : mj_L} {st : List Value} {M : mj_H} : mj_Rn d mj_m29 30 ls st M = mq_k0 d mj_m29 31 ls M (mj_pu .dup ls st) := mj_R0 (r := (.dup, 1, 0, 0, 0)) rfl rfl
theorem s29_31 {d : Nat} {ls : mj_L} {st : List Value} {M : mj_H} : mj_Rn d mj_m29 31 ls st M = mq_k0 d mj_m29 34 ls M (mq_gf 9 5 st M) := (mj_R3 (r := (.getfield 27, 3, 9, 5, 8304)) rfl rfl).trans (congrArg (mq_k0 d mj_m29 34 ls M) mq_gf_eq)
theorem s29_34 {d : Nat} {ls : mj_L} {st : List Value} {M : mj_H} : mj_Rn d mj_m29 34 ls st M = mj_Rn d mj_m29 35 ls (.int 1 :: st) M := mj_R0 (r := (.iconst 1, 1, 0, 0, 0)) rfl rfl
theorem s29_35 {d : Nat} {ls : mj_L} {st : List Value} {M : mj_H} : mj_Rn d mj_m29 35 ls st M = mq_k0 d mj_m29 36 ls M (mj_pu .iadd ls st) := mj_R0 (r := (.iadd, 1, 0, 0, 0)) rfl rfl
theorem s29_36 {d : Nat} {ls : mj_L} {st : List Value} {M : mj_H} : mj_Rn d mj_m29 36 ls st M = mq_k4 d mj_m29 39 ls (mq_pf 9 5 0 st M) := (mj_R4 (r := (.putfield 27, 3, 9, 5, 8304)) rfl rfl).trans (congrArg (mq_k4 d mj_m29 39 ls) (mq_pf_eq rfl rfl))
theorem s29_39 {d : Nat} {ls : mj_L} {st : List Value} {M : mj_H} : mj_Rn d mj_m29 39 ls st M = mq_k6 M (mj_re none (.return_) st) := mj_R6 (r := (.return_, 1, 0, 0, 0)) rfl rfl
/- 122 PasskeyHouse$Terms.addFour(I)V -/
theorem s122_0 {d : Nat} {ls : mj_L} {st : List Value} {M : mj_H} : mj_Rn d mj_m122 0 ls st M = mj_Rn d mj_m122 2 ls (.int 24 :: st) M := mj_R0 (r := (.bipush 24, 2, 0, 0, 0)) rfl rfl
theorem s122_2 {d : Nat} {ls : mj_L} {st : List Value} {M : mj_H} : mj_Rn d mj_m122 2 ls st M = mq_k1 d mj_m122 3 M (mj_lo 3 (.istore 2) ls st) := (mj_R1 (r := (.istore_n 2, 1, 0, 0, 0)) rfl rfl).trans (congrArg (mq_k1 d mj_m122 3 M) (mq_sti (k := 2)))
theorem s122_3 {d : Nat} {ls : mj_L} {st : List Value} {M : mj_H} : mj_Rn d mj_m122 3 ls st M = mq_k0 d mj_m122 4 ls M (mj_ldi (mj_lk ls 2) st) := mj_R0 (r := (.iload_n 2, 1, 0, 0, 0)) rfl rfl
theorem s122_4 {d : Nat} {ls : mj_L} {st : List Value} {M : mj_H} : mj_Rn d mj_m122 4 ls st M = mq_k2 d mj_m122 ls M (mj_br (.ifCond .lt 20) 4 st) := mj_R2 (r := (.ifCond .lt 20, 3, 0, 0, 0)) rfl rfl
theorem s122_7 {d : Nat} {ls : mj_L} {st : List Value} {M : mj_H} : mj_Rn d mj_m122 7 ls st M = mq_k0 d mj_m122 8 ls M (mj_lda (mj_lk ls 0) st) := mj_R0 (r := (.aload_n 0, 1, 0, 0, 0)) rfl rfl
theorem s122_8 {d : Nat} {ls : mj_L} {st : List Value} {M : mj_H} : mj_Rn d mj_m122 8 ls st M = mq_k0 d mj_m122 9 ls M (mj_ldi (mj_lk ls 1) st) := mj_R0 (r := (.iload_n 1, 1, 0, 0, 0)) rfl rfl
theorem s122_9 {d : Nat} {ls : mj_L} {st : List Value} {M : mj_H} : mj_Rn d mj_m122 9 ls st M = mq_k0 d mj_m122 10 ls M (mj_ldi (mj_lk ls 2) st) := mj_R0 (r := (.iload_n 2, 1, 0, 0, 0)) rfl rfl
theorem s122_10 {d : Nat} {ls : mj_L} {st : List Value} {M : mj_H} : mj_Rn d mj_m122 10 ls st M = mq_k0 d mj_m122 11 ls M (mj_pu .iushr ls st) := mj_R0 (r := (.iushr, 1, 0, 0, 0)) rfl rfl
theorem s122_11 {d : Nat} {ls : mj_L} {st : List Value} {M : mj_H} : mj_Rn d mj_m122 11 ls st M = mj_Rn d mj_m122 14 ls (.int 255 :: st) M := mj_R0 (r := (.sipush 255, 3, 0, 0, 0)) rfl rfl
theorem s122_14 {d : Nat} {ls : mj_L} {st : List Value} {M : mj_H} : mj_Rn d mj_m122 14 ls st M = mq_k0 d mj_m122 15 ls M (mj_pu .iand ls st) := mj_R0 (r := (.iand, 1, 0, 0, 0)) rfl rfl
theorem s122_15 {d : Nat} {ls : mj_L} {st : List Value} {M : mj_H} : mj_Rn (d + 1) mj_m122 15 ls st M = mq_k5a (d + 1) mj_m122 18 ls M 29 (mq_cb 0 1 9 st M) := mj_R5e (r := (.invokevirtual 40, 3, 0, 29, 8361)) (z := mj_m29) rfl rfl (by decide) (by decide) rfl
theorem s122_18 {d : Nat} {ls : mj_L} {st : List Value} {M : mj_H} : mj_Rn d mj_m122 18 ls st M = mq_k1 d mj_m122 21 M (mj_lo 3 (.iinc 2 (-8)) ls st) := mj_R1 (r := (.iinc 2 (-8), 3, 0, 0, 0)) rfl rfl
theorem s122_21 {d : Nat} {ls : mj_L} {st : List Value} {M : mj_H} : mj_Rn d mj_m122 21 ls st M = mj_Rn d mj_m122 3 ls st M := mj_R2 (r := (.goto (-18), 3, 0, 0, 0)) rfl rfl
theorem s122_24 {d : Nat} {ls : mj_L} {st : List Value} {M : mj_H} : mj_Rn d mj_m122 24 ls st M = mq_k6 M (mj_re none (.return_) st) := mj_R6 (r := (.return_, 1, 0, 0, 0)) rfl rfl
/- 113 PasskeyHouse$Terms.addBytes(LPasskeyHouse$Bytes;II)V -/
theorem s113_0 {d : Nat} {ls : mj_L} {st : List Value} {M : mj_H} : mj_Rn d mj_m113 0 ls st M = mj_Rn d mj_m113 1 ls (.int 0 :: st) M := mj_R0 (r := (.iconst 0, 1, 0, 0, 0)) rfl rfl
theorem s113_1 {d : Nat} {ls : mj_L} {st : List Value} {M : mj_H} : mj_Rn d mj_m113 1 ls st M = mq_k1 d mj_m113 3 M (mj_lo 5 (.istore 4) ls st) := mj_R1 (r := (.istore 4, 2, 0, 0, 0)) rfl rfl
theorem s113_3 {d : Nat} {ls : mj_L} {st : List Value} {M : mj_H} : mj_Rn d mj_m113 3 ls st M = mq_k0 d mj_m113 5 ls M (mj_ldi (mj_lk ls 4) st) := mj_R0 (r := (.iload 4, 2, 0, 0, 0)) rfl rfl
theorem s113_5 {d : Nat} {ls : mj_L} {st : List Value} {M : mj_H} : mj_Rn d mj_m113 5 ls st M = mq_k0 d mj_m113 6 ls M (mj_ldi (mj_lk ls 3) st) := mj_R0 (r := (.iload_n 3, 1, 0, 0, 0)) rfl rfl
theorem s113_6 {d : Nat} {ls : mj_L} {st : List Value} {M : mj_H} : mj_Rn d mj_m113 6 ls st M = mq_k2 d mj_m113 ls M (mj_br (.if_icmp .ge 25) 6 st) := mj_R2 (r := (.if_icmp .ge 25, 3, 0, 0, 0)) rfl rfl
theorem s113_9 {d : Nat} {ls : mj_L} {st : List Value} {M : mj_H} : mj_Rn d mj_m113 9 ls st M = mq_k0 d mj_m113 10 ls M (mj_lda (mj_lk ls 0) st) := mj_R0 (r := (.aload_n 0, 1, 0, 0, 0)) rfl rfl
theorem s113_10 {d : Nat} {ls : mj_L} {st : List Value} {M : mj_H} : mj_Rn d mj_m113 10 ls st M = mq_k0 d mj_m113 11 ls M (mj_lda (mj_lk ls 1) st) := mj_R0 (r := (.aload_n 1, 1, 0, 0, 0)) rfl rfl
theorem s113_11 {d : Nat} {ls : mj_L} {st : List Value} {M : mj_H} : mj_Rn d mj_m113 11 ls st M = mq_k0 d mj_m113 12 ls M (mj_ldi (mj_lk ls 2) st) := mj_R0 (r := (.iload_n 2, 1, 0, 0, 0)) rfl rfl
theorem s113_12 {d : Nat} {ls : mj_L} {st : List Value} {M : mj_H} : mj_Rn d mj_m113 12 ls st M = mq_k0 d mj_m113 14 ls M (mj_ldi (mj_lk ls 4) st) := mj_R0 (r := (.iload 4, 2, 0, 0, 0)) rfl rfl
theorem s113_14 {d : Nat} {ls : mj_L} {st : List Value} {M : mj_H} : mj_Rn d mj_m113 14 ls st M = mq_k0 d mj_m113 15 ls M (mj_pu .iadd ls st) := mj_R0 (r := (.iadd, 1, 0, 0, 0)) rfl rfl
theorem s113_15 {d : Nat} {ls : mj_L} {st : List Value} {M : mj_H} : mj_Rn (d + 1) mj_m113 15 ls st M = mq_k5a (d + 1) mj_m113 18 ls M 14 (mq_cb 0 1 1 st M) := mj_R5e (r := (.invokevirtual 56, 3, 0, 14, 16463)) (z := mj_m14) rfl rfl (by decide) (by decide) rfl
theorem s113_18 {d : Nat} {ls : mj_L} {st : List Value} {M : mj_H} : mj_Rn d mj_m113 18 ls st M = mj_Rn d mj_m113 21 ls (.int 255 :: st) M := mj_R0 (r := (.sipush 255, 3, 0, 0, 0)) rfl rfl
theorem s113_21 {d : Nat} {ls : mj_L} {st : List Value} {M : mj_H} : mj_Rn d mj_m113 21 ls st M = mq_k0 d mj_m113 22 ls M (mj_pu .iand ls st) := mj_R0 (r := (.iand, 1, 0, 0, 0)) rfl rfl
theorem s113_22 {d : Nat} {ls : mj_L} {st : List Value} {M : mj_H} : mj_Rn (d + 1) mj_m113 22 ls st M = mq_k5a (d + 1) mj_m113 25 ls M 29 (mq_cb 0 1 9 st M) := mj_R5e (r := (.invokevirtual 40, 3, 0, 29, 8361)) (z := mj_m29) rfl rfl (by decide) (by decide) rfl
theorem s113_25 {d : Nat} {ls : mj_L} {st : List Value} {M : mj_H} : mj_Rn d mj_m113 25 ls st M = mq_k1 d mj_m113 28 M (mj_lo 5 (.iinc 4 1) ls st) := mj_R1 (r := (.iinc 4 1, 3, 0, 0, 0)) rfl rfl
theorem s113_28 {d : Nat} {ls : mj_L} {st : List Value} {M : mj_H} : mj_Rn d mj_m113 28 ls st M = mj_Rn d mj_m113 3 ls st M := mj_R2 (r := (.goto (-25), 3, 0, 0, 0)) rfl rfl
theorem s113_31 {d : Nat} {ls : mj_L} {st : List Value} {M : mj_H} : mj_Rn d mj_m113 31 ls st M = mq_k6 M (mj_re none (.return_) st) := mj_R6 (r := (.return_, 1, 0, 0, 0)) rfl rfl
/- 153 PasskeyHouse$Terms.addPartsOf(II)V -/
theorem s153_0 {d : Nat} {ls : mj_L} {st : List Value} {M : mj_H} : mj_Rn d mj_m153 0 ls st M = mq_k0 d mj_m153 1 ls M (mj_lda (mj_lk ls 0) st) := mj_R0 (r := (.aload_n 0, 1, 0, 0, 0)) rfl rfl
theorem s153_1 {d : Nat} {ls : mj_L} {st : List Value} {M : mj_H} : mj_Rn d mj_m153 1 ls st M = mq_k0 d mj_m153 2 ls M (mj_ldi (mj_lk ls 1) st) := mj_R0 (r := (.iload_n 1, 1, 0, 0, 0)) rfl rfl
theorem s153_2 {d : Nat} {ls : mj_L} {st : List Value} {M : mj_H} : mj_Rn (d + 1) mj_m153 2 ls st M = mq_k5a (d + 1) mj_m153 5 ls M 21 (mq_cb 0 1 9 st M) := mj_R5e (r := (.invokevirtual 62, 3, 0, 21, 4326)) (z := mj_m21) rfl rfl (by decide) (by decide) rfl
theorem s153_5 {d : Nat} {ls : mj_L} {st : List Value} {M : mj_H} : mj_Rn d mj_m153 5 ls st M = mq_k1 d mj_m153 6 M (mj_lo 5 (.istore 3) ls st) := (mj_R1 (r := (.istore_n 3, 1, 0, 0, 0)) rfl rfl).trans (congrArg (mq_k1 d mj_m153 6 M) (mq_sti (k := 3)))
theorem s153_6 {d : Nat} {ls : mj_L} {st : List Value} {M : mj_H} : mj_Rn d mj_m153 6 ls st M = mq_k0 d mj_m153 7 ls M (mj_ldi (mj_lk ls 2) st) := mj_R0 (r := (.iload_n 2, 1, 0, 0, 0)) rfl rfl
theorem s153_7 {d : Nat} {ls : mj_L} {st : List Value} {M : mj_H} : mj_Rn d mj_m153 7 ls st M = mq_k1 d mj_m153 9 M (mj_lo 5 (.istore 4) ls st) := mj_R1 (r := (.istore 4, 2, 0, 0, 0)) rfl rfl
theorem s153_9 {d : Nat} {ls : mj_L} {st : List Value} {M : mj_H} : mj_Rn d mj_m153 9 ls st M = mq_k0 d mj_m153 11 ls M (mj_ldi (mj_lk ls 4) st) := mj_R0 (r := (.iload 4, 2, 0, 0, 0)) rfl rfl
theorem s153_11 {d : Nat} {ls : mj_L} {st : List Value} {M : mj_H} : mj_Rn d mj_m153 11 ls st M = mq_k0 d mj_m153 12 ls M (mj_ldi (mj_lk ls 3) st) := mj_R0 (r := (.iload_n 3, 1, 0, 0, 0)) rfl rfl
theorem s153_12 {d : Nat} {ls : mj_L} {st : List Value} {M : mj_H} : mj_Rn d mj_m153 12 ls st M = mq_k2 d mj_m153 ls M (mj_br (.if_icmp .ge 20) 12 st) := mj_R2 (r := (.if_icmp .ge 20, 3, 0, 0, 0)) rfl rfl
theorem s153_15 {d : Nat} {ls : mj_L} {st : List Value} {M : mj_H} : mj_Rn d mj_m153 15 ls st M = mq_k0 d mj_m153 16 ls M (mj_lda (mj_lk ls 0) st) := mj_R0 (r := (.aload_n 0, 1, 0, 0, 0)) rfl rfl
theorem s153_16 {d : Nat} {ls : mj_L} {st : List Value} {M : mj_H} : mj_Rn d mj_m153 16 ls st M = mq_k0 d mj_m153 17 ls M (mj_lda (mj_lk ls 0) st) := mj_R0 (r := (.aload_n 0, 1, 0, 0, 0)) rfl rfl
theorem s153_17 {d : Nat} {ls : mj_L} {st : List Value} {M : mj_H} : mj_Rn d mj_m153 17 ls st M = mq_k0 d mj_m153 18 ls M (mj_ldi (mj_lk ls 1) st) := mj_R0 (r := (.iload_n 1, 1, 0, 0, 0)) rfl rfl
theorem s153_18 {d : Nat} {ls : mj_L} {st : List Value} {M : mj_H} : mj_Rn d mj_m153 18 ls st M = mq_k0 d mj_m153 20 ls M (mj_ldi (mj_lk ls 4) st) := mj_R0 (r := (.iload 4, 2, 0, 0, 0)) rfl rfl
theorem s153_20 {d : Nat} {ls : mj_L} {st : List Value} {M : mj_H} : mj_Rn (d + 1) mj_m153 20 ls st M = mq_k5a (d + 1) mj_m153 23 ls M 20 (mq_cb 0 2 9 st M) := mj_R5e (r := (.invokevirtual 64, 3, 0, 20, 16613)) (z := mj_m20) rfl rfl (by decide) (by decide) rfl
theorem s153_23 {d : Nat} {ls : mj_L} {st : List Value} {M : mj_H} : mj_Rn (d + 1) mj_m153 23 ls st M = mq_k5a (d + 1) mj_m153 26 ls M 29 (mq_cb 0 1 9 st M) := mj_R5e (r := (.invokevirtual 40, 3, 0, 29, 8361)) (z := mj_m29) rfl rfl (by decide) (by decide) rfl
theorem s153_26 {d : Nat} {ls : mj_L} {st : List Value} {M : mj_H} : mj_Rn d mj_m153 26 ls st M = mq_k1 d mj_m153 29 M (mj_lo 5 (.iinc 4 1) ls st) := mj_R1 (r := (.iinc 4 1, 3, 0, 0, 0)) rfl rfl
theorem s153_29 {d : Nat} {ls : mj_L} {st : List Value} {M : mj_H} : mj_Rn d mj_m153 29 ls st M = mj_Rn d mj_m153 9 ls st M := mj_R2 (r := (.goto (-20), 3, 0, 0, 0)) rfl rfl
theorem s153_32 {d : Nat} {ls : mj_L} {st : List Value} {M : mj_H} : mj_Rn d mj_m153 32 ls st M = mq_k6 M (mj_re none (.return_) st) := mj_R6 (r := (.return_, 1, 0, 0, 0)) rfl rfl
/- 31 PasskeyHouse$Terms.known()I -/
theorem s31_0 {d : Nat} {ls : mj_L} {st : List Value} {M : mj_H} : mj_Rn d mj_m31 0 ls st M = mq_k0 d mj_m31 1 ls M (mj_lda (mj_lk ls 0) st) := mj_R0 (r := (.aload_n 0, 1, 0, 0, 0)) rfl rfl
theorem s31_1 {d : Nat} {ls : mj_L} {st : List Value} {M : mj_H} : mj_Rn (d + 1) mj_m31 1 ls st M = mq_k5a (d + 1) mj_m31 4 ls M 32 (mq_cb 0 0 9 st M) := mj_R5e (r := (.invokevirtual 67, 3, 0, 32, 8373)) (z := mj_m32) rfl rfl (by decide) (by decide) rfl
theorem s31_4 {d : Nat} {ls : mj_L} {st : List Value} {M : mj_H} : mj_Rn d mj_m31 4 ls st M = mq_k1 d mj_m31 5 M (mj_lo 4 (.istore 1) ls st) := (mj_R1 (r := (.istore_n 1, 1, 0, 0, 0)) rfl rfl).trans (congrArg (mq_k1 d mj_m31 5 M) (mq_sti (k := 1)))
theorem s31_5 {d : Nat} {ls : mj_L} {st : List Value} {M : mj_H} : mj_Rn d mj_m31 5 ls st M = mq_k0 d mj_m31 6 ls M (mj_ldi (mj_lk ls 1) st) := mj_R0 (r := (.iload_n 1, 1, 0, 0, 0)) rfl rfl
theorem s31_6 {d : Nat} {ls : mj_L} {st : List Value} {M : mj_H} : mj_Rn d mj_m31 6 ls st M = mq_k2 d mj_m31 ls M (mj_br (.ifCond .lt 12) 6 st) := mj_R2 (r := (.ifCond .lt 12, 3, 0, 0, 0)) rfl rfl
theorem s31_9 {d : Nat} {ls : mj_L} {st : List Value} {M : mj_H} : mj_Rn d mj_m31 9 ls st M = mq_k0 d mj_m31 10 ls M (mj_ldi (mj_lk ls 1) st) := mj_R0 (r := (.iload_n 1, 1, 0, 0, 0)) rfl rfl
theorem s31_10 {d : Nat} {ls : mj_L} {st : List Value} {M : mj_H} : mj_Rn d mj_m31 10 ls st M = mq_k0 d mj_m31 11 ls M (mj_lda (mj_lk ls 0) st) := mj_R0 (r := (.aload_n 0, 1, 0, 0, 0)) rfl rfl
theorem s31_11 {d : Nat} {ls : mj_L} {st : List Value} {M : mj_H} : mj_Rn d mj_m31 11 ls st M = mq_k0 d mj_m31 14 ls M (mq_gf 9 3 st M) := (mj_R3 (r := (.getfield 21, 3, 9, 3, 8300)) rfl rfl).trans (congrArg (mq_k0 d mj_m31 14 ls M) mq_gf_eq)
theorem s31_14 {d : Nat} {ls : mj_L} {st : List Value} {M : mj_H} : mj_Rn d mj_m31 14 ls st M = mq_k0 d mj_m31 15 ls M (mq_len st M) := (mj_R3 (r := (.arraylength, 1, 0, 0, 0)) rfl rfl).trans (congrArg (mq_k0 d mj_m31 15 ls M) mq_len_eq)
theorem s31_15 {d : Nat} {ls : mj_L} {st : List Value} {M : mj_H} : mj_Rn d mj_m31 15 ls st M = mq_k2 d mj_m31 ls M (mj_br (.if_icmp .lt 7) 15 st) := mj_R2 (r := (.if_icmp .lt 7, 3, 0, 0, 0)) rfl rfl
theorem s31_18 {d : Nat} {ls : mj_L} {st : List Value} {M : mj_H} : mj_Rn d mj_m31 18 ls st M = mj_Rn d mj_m31 19 ls (.int 0 :: st) M := mj_R0 (r := (.iconst 0, 1, 0, 0, 0)) rfl rfl
theorem s31_19 {d : Nat} {ls : mj_L} {st : List Value} {M : mj_H} : mj_Rn d mj_m31 19 ls st M = mj_Rn d mj_m31 28 ls st M := mj_R2 (r := (.goto 9, 3, 0, 0, 0)) rfl rfl
theorem s31_22 {d : Nat} {ls : mj_L} {st : List Value} {M : mj_H} : mj_Rn d mj_m31 22 ls st M = mq_k0 d mj_m31 23 ls M (mj_lda (mj_lk ls 0) st) := mj_R0 (r := (.aload_n 0, 1, 0, 0, 0)) rfl rfl
theorem s31_23 {d : Nat} {ls : mj_L} {st : List Value} {M : mj_H} : mj_Rn d mj_m31 23 ls st M = mq_k0 d mj_m31 26 ls M (mq_gf 9 3 st M) := (mj_R3 (r := (.getfield 21, 3, 9, 3, 8300)) rfl rfl).trans (congrArg (mq_k0 d mj_m31 26 ls M) mq_gf_eq)
theorem s31_26 {d : Nat} {ls : mj_L} {st : List Value} {M : mj_H} : mj_Rn d mj_m31 26 ls st M = mq_k0 d mj_m31 27 ls M (mj_ldi (mj_lk ls 1) st) := mj_R0 (r := (.iload_n 1, 1, 0, 0, 0)) rfl rfl
theorem s31_27 {d : Nat} {ls : mj_L} {st : List Value} {M : mj_H} : mj_Rn d mj_m31 27 ls st M = mq_k0 d mj_m31 28 ls M (mq_al [1000] st M) := (mj_R3 (r := (.iaload, 1, 0, 0, 0)) rfl rfl).trans (congrArg (mq_k0 d mj_m31 28 ls M) mq_ali_eq)
theorem s31_28 {d : Nat} {ls : mj_L} {st : List Value} {M : mj_H} : mj_Rn d mj_m31 28 ls st M = mq_k1 d mj_m31 29 M (mj_lo 4 (.istore 2) ls st) := (mj_R1 (r := (.istore_n 2, 1, 0, 0, 0)) rfl rfl).trans (congrArg (mq_k1 d mj_m31 29 M) (mq_sti (k := 2)))
theorem s31_29 {d : Nat} {ls : mj_L} {st : List Value} {M : mj_H} : mj_Rn d mj_m31 29 ls st M = mj_Rn d mj_m31 30 ls (.int 0 :: st) M := mj_R0 (r := (.iconst 0, 1, 0, 0, 0)) rfl rfl
theorem s31_30 {d : Nat} {ls : mj_L} {st : List Value} {M : mj_H} : mj_Rn d mj_m31 30 ls st M = mq_k1 d mj_m31 31 M (mj_lo 4 (.istore 3) ls st) := (mj_R1 (r := (.istore_n 3, 1, 0, 0, 0)) rfl rfl).trans (congrArg (mq_k1 d mj_m31 31 M) (mq_sti (k := 3)))
theorem s31_31 {d : Nat} {ls : mj_L} {st : List Value} {M : mj_H} : mj_Rn d mj_m31 31 ls st M = mq_k0 d mj_m31 32 ls M (mj_ldi (mj_lk ls 2) st) := mj_R0 (r := (.iload_n 2, 1, 0, 0, 0)) rfl rfl
theorem s31_32 {d : Nat} {ls : mj_L} {st : List Value} {M : mj_H} : mj_Rn d mj_m31 32 ls st M = mq_k2 d mj_m31 ls M (mj_br (.ifCond .le 42) 32 st) := mj_R2 (r := (.ifCond .le 42, 3, 0, 0, 0)) rfl rfl
theorem s31_35 {d : Nat} {ls : mj_L} {st : List Value} {M : mj_H} : mj_Rn d mj_m31 35 ls st M = mq_k0 d mj_m31 36 ls M (mj_ldi (mj_lk ls 2) st) := mj_R0 (r := (.iload_n 2, 1, 0, 0, 0)) rfl rfl
theorem s31_36 {d : Nat} {ls : mj_L} {st : List Value} {M : mj_H} : mj_Rn d mj_m31 36 ls st M = mq_k0 d mj_m31 37 ls M (mj_lda (mj_lk ls 0) st) := mj_R0 (r := (.aload_n 0, 1, 0, 0, 0)) rfl rfl
theorem s31_37 {d : Nat} {ls : mj_L} {st : List Value} {M : mj_H} : mj_Rn d mj_m31 37 ls st M = mq_k0 d mj_m31 40 ls M (mq_gf 9 2 st M) := (mj_R3 (r := (.getfield 18, 3, 9, 2, 8298)) rfl rfl).trans (congrArg (mq_k0 d mj_m31 40 ls M) mq_gf_eq)
theorem s31_40 {d : Nat} {ls : mj_L} {st : List Value} {M : mj_H} : mj_Rn d mj_m31 40 ls st M = mq_k0 d mj_m31 41 ls M (mq_len st M) := (mj_R3 (r := (.arraylength, 1, 0, 0, 0)) rfl rfl).trans (congrArg (mq_k0 d mj_m31 41 ls M) mq_len_eq)
theorem s31_41 {d : Nat} {ls : mj_L} {st : List Value} {M : mj_H} : mj_Rn d mj_m31 41 ls st M = mq_k2 d mj_m31 ls M (mj_br (.if_icmp .ge 33) 41 st) := mj_R2 (r := (.if_icmp .ge 33, 3, 0, 0, 0)) rfl rfl
theorem s31_44 {d : Nat} {ls : mj_L} {st : List Value} {M : mj_H} : mj_Rn d mj_m31 44 ls st M = mq_k0 d mj_m31 45 ls M (mj_ldi (mj_lk ls 3) st) := mj_R0 (r := (.iload_n 3, 1, 0, 0, 0)) rfl rfl
theorem s31_45 {d : Nat} {ls : mj_L} {st : List Value} {M : mj_H} : mj_Rn d mj_m31 45 ls st M = mj_Rn d mj_m31 48 ls (.int 16384 :: st) M := mj_R0 (r := (.sipush 16384, 3, 0, 0, 0)) rfl rfl
theorem s31_48 {d : Nat} {ls : mj_L} {st : List Value} {M : mj_H} : mj_Rn d mj_m31 48 ls st M = mq_k2 d mj_m31 ls M (mj_br (.if_icmp .ge 26) 48 st) := mj_R2 (r := (.if_icmp .ge 26, 3, 0, 0, 0)) rfl rfl
theorem s31_51 {d : Nat} {ls : mj_L} {st : List Value} {M : mj_H} : mj_Rn d mj_m31 51 ls st M = mq_k0 d mj_m31 52 ls M (mj_lda (mj_lk ls 0) st) := mj_R0 (r := (.aload_n 0, 1, 0, 0, 0)) rfl rfl
theorem s31_52 {d : Nat} {ls : mj_L} {st : List Value} {M : mj_H} : mj_Rn d mj_m31 52 ls st M = mq_k0 d mj_m31 53 ls M (mj_ldi (mj_lk ls 2) st) := mj_R0 (r := (.iload_n 2, 1, 0, 0, 0)) rfl rfl
theorem s31_53 {d : Nat} {ls : mj_L} {st : List Value} {M : mj_H} : mj_Rn (d + 1) mj_m31 53 ls st M = mq_k5a (d + 1) mj_m31 56 ls M 33 (mq_cb 0 1 9 st M) := mj_R5e (r := (.invokevirtual 71, 3, 0, 33, 8377)) (z := mj_m33) rfl rfl (by decide) (by decide) rfl
theorem s31_56 {d : Nat} {ls : mj_L} {st : List Value} {M : mj_H} : mj_Rn d mj_m31 56 ls st M = mq_k2 d mj_m31 ls M (mj_br (.ifCond .eq 5) 56 st) := mj_R2 (r := (.ifCond .eq 5, 3, 0, 0, 0)) rfl rfl
theorem s31_59 {d : Nat} {ls : mj_L} {st : List Value} {M : mj_H} : mj_Rn d mj_m31 59 ls st M = mq_k0 d mj_m31 60 ls M (mj_ldi (mj_lk ls 2) st) := mj_R0 (r := (.iload_n 2, 1, 0, 0, 0)) rfl rfl
theorem s31_60 {d : Nat} {ls : mj_L} {st : List Value} {M : mj_H} : mj_Rn d mj_m31 60 ls st M = mq_k6 M (mj_re (some .int) (.ireturn) st) := mj_R6 (r := (.ireturn, 1, 0, 0, 0)) rfl rfl
theorem s31_61 {d : Nat} {ls : mj_L} {st : List Value} {M : mj_H} : mj_Rn d mj_m31 61 ls st M = mq_k0 d mj_m31 62 ls M (mj_lda (mj_lk ls 0) st) := mj_R0 (r := (.aload_n 0, 1, 0, 0, 0)) rfl rfl
theorem s31_62 {d : Nat} {ls : mj_L} {st : List Value} {M : mj_H} : mj_Rn d mj_m31 62 ls st M = mq_k0 d mj_m31 65 ls M (mq_gf 9 2 st M) := (mj_R3 (r := (.getfield 18, 3, 9, 2, 8298)) rfl rfl).trans (congrArg (mq_k0 d mj_m31 65 ls M) mq_gf_eq)
theorem s31_65 {d : Nat} {ls : mj_L} {st : List Value} {M : mj_H} : mj_Rn d mj_m31 65 ls st M = mq_k0 d mj_m31 66 ls M (mj_ldi (mj_lk ls 2) st) := mj_R0 (r := (.iload_n 2, 1, 0, 0, 0)) rfl rfl
theorem s31_66 {d : Nat} {ls : mj_L} {st : List Value} {M : mj_H} : mj_Rn d mj_m31 66 ls st M = mq_k0 d mj_m31 67 ls M (mq_al [1000] st M) := (mj_R3 (r := (.iaload, 1, 0, 0, 0)) rfl rfl).trans (congrArg (mq_k0 d mj_m31 67 ls M) mq_ali_eq)
theorem s31_67 {d : Nat} {ls : mj_L} {st : List Value} {M : mj_H} : mj_Rn d mj_m31 67 ls st M = mq_k1 d mj_m31 68 M (mj_lo 4 (.istore 2) ls st) := (mj_R1 (r := (.istore_n 2, 1, 0, 0, 0)) rfl rfl).trans (congrArg (mq_k1 d mj_m31 68 M) (mq_sti (k := 2)))
theorem s31_68 {d : Nat} {ls : mj_L} {st : List Value} {M : mj_H} : mj_Rn d mj_m31 68 ls st M = mq_k1 d mj_m31 71 M (mj_lo 4 (.iinc 3 1) ls st) := mj_R1 (r := (.iinc 3 1, 3, 0, 0, 0)) rfl rfl
theorem s31_71 {d : Nat} {ls : mj_L} {st : List Value} {M : mj_H} : mj_Rn d mj_m31 71 ls st M = mj_Rn d mj_m31 31 ls st M := mj_R2 (r := (.goto (-40), 3, 0, 0, 0)) rfl rfl
theorem s31_74 {d : Nat} {ls : mj_L} {st : List Value} {M : mj_H} : mj_Rn d mj_m31 74 ls st M = mj_Rn d mj_m31 75 ls (.int 0 :: st) M := mj_R0 (r := (.iconst 0, 1, 0, 0, 0)) rfl rfl
theorem s31_75 {d : Nat} {ls : mj_L} {st : List Value} {M : mj_H} : mj_Rn d mj_m31 75 ls st M = mq_k6 M (mj_re (some .int) (.ireturn) st) := mj_R6 (r := (.ireturn, 1, 0, 0, 0)) rfl rfl
/- 32 PasskeyHouse$Terms.bucketOfRow()I -/
theorem s32_0 {d : Nat} {ls : mj_L} {st : List Value} {M : mj_H} : mj_Rn d mj_m32 0 ls st M = mj_Rn d mj_m32 2 ls (.int 17 :: st) M := mj_R0 (r := (.bipush 17, 2, 0, 0, 0)) rfl rfl
theorem s32_2 {d : Nat} {ls : mj_L} {st : List Value} {M : mj_H} : mj_Rn d mj_m32 2 ls st M = mq_k1 d mj_m32 3 M (mj_lo 3 (.istore 1) ls st) := (mj_R1 (r := (.istore_n 1, 1, 0, 0, 0)) rfl rfl).trans (congrArg (mq_k1 d mj_m32 3 M) (mq_sti (k := 1)))
theorem s32_3 {d : Nat} {ls : mj_L} {st : List Value} {M : mj_H} : mj_Rn d mj_m32 3 ls st M = mj_Rn d mj_m32 4 ls (.int 0 :: st) M := mj_R0 (r := (.iconst 0, 1, 0, 0, 0)) rfl rfl
theorem s32_4 {d : Nat} {ls : mj_L} {st : List Value} {M : mj_H} : mj_Rn d mj_m32 4 ls st M = mq_k1 d mj_m32 5 M (mj_lo 3 (.istore 2) ls st) := (mj_R1 (r := (.istore_n 2, 1, 0, 0, 0)) rfl rfl).trans (congrArg (mq_k1 d mj_m32 5 M) (mq_sti (k := 2)))
theorem s32_5 {d : Nat} {ls : mj_L} {st : List Value} {M : mj_H} : mj_Rn d mj_m32 5 ls st M = mq_k0 d mj_m32 6 ls M (mj_ldi (mj_lk ls 2) st) := mj_R0 (r := (.iload_n 2, 1, 0, 0, 0)) rfl rfl
theorem s32_6 {d : Nat} {ls : mj_L} {st : List Value} {M : mj_H} : mj_Rn d mj_m32 6 ls st M = mq_k0 d mj_m32 7 ls M (mj_lda (mj_lk ls 0) st) := mj_R0 (r := (.aload_n 0, 1, 0, 0, 0)) rfl rfl
theorem s32_7 {d : Nat} {ls : mj_L} {st : List Value} {M : mj_H} : mj_Rn d mj_m32 7 ls st M = mq_k0 d mj_m32 10 ls M (mq_gf 9 5 st M) := (mj_R3 (r := (.getfield 27, 3, 9, 5, 8304)) rfl rfl).trans (congrArg (mq_k0 d mj_m32 10 ls M) mq_gf_eq)
theorem s32_10 {d : Nat} {ls : mj_L} {st : List Value} {M : mj_H} : mj_Rn d mj_m32 10 ls st M = mq_k2 d mj_m32 ls M (mj_br (.if_icmp .ge 30) 10 st) := mj_R2 (r := (.if_icmp .ge 30, 3, 0, 0, 0)) rfl rfl
theorem s32_13 {d : Nat} {ls : mj_L} {st : List Value} {M : mj_H} : mj_Rn d mj_m32 13 ls st M = mq_k0 d mj_m32 14 ls M (mj_ldi (mj_lk ls 2) st) := mj_R0 (r := (.iload_n 2, 1, 0, 0, 0)) rfl rfl
theorem s32_14 {d : Nat} {ls : mj_L} {st : List Value} {M : mj_H} : mj_Rn d mj_m32 14 ls st M = mq_k0 d mj_m32 15 ls M (mj_lda (mj_lk ls 0) st) := mj_R0 (r := (.aload_n 0, 1, 0, 0, 0)) rfl rfl
theorem s32_15 {d : Nat} {ls : mj_L} {st : List Value} {M : mj_H} : mj_Rn d mj_m32 15 ls st M = mq_k0 d mj_m32 18 ls M (mq_gf 9 4 st M) := (mj_R3 (r := (.getfield 24, 3, 9, 4, 8302)) rfl rfl).trans (congrArg (mq_k0 d mj_m32 18 ls M) mq_gf_eq)
theorem s32_18 {d : Nat} {ls : mj_L} {st : List Value} {M : mj_H} : mj_Rn d mj_m32 18 ls st M = mq_k0 d mj_m32 19 ls M (mq_len st M) := (mj_R3 (r := (.arraylength, 1, 0, 0, 0)) rfl rfl).trans (congrArg (mq_k0 d mj_m32 19 ls M) mq_len_eq)
theorem s32_19 {d : Nat} {ls : mj_L} {st : List Value} {M : mj_H} : mj_Rn d mj_m32 19 ls st M = mq_k2 d mj_m32 ls M (mj_br (.if_icmp .ge 21) 19 st) := mj_R2 (r := (.if_icmp .ge 21, 3, 0, 0, 0)) rfl rfl
theorem s32_22 {d : Nat} {ls : mj_L} {st : List Value} {M : mj_H} : mj_Rn d mj_m32 22 ls st M = mj_Rn d mj_m32 24 ls (.int 31 :: st) M := mj_R0 (r := (.bipush 31, 2, 0, 0, 0)) rfl rfl
theorem s32_24 {d : Nat} {ls : mj_L} {st : List Value} {M : mj_H} : mj_Rn d mj_m32 24 ls st M = mq_k0 d mj_m32 25 ls M (mj_ldi (mj_lk ls 1) st) := mj_R0 (r := (.iload_n 1, 1, 0, 0, 0)) rfl rfl
theorem s32_25 {d : Nat} {ls : mj_L} {st : List Value} {M : mj_H} : mj_Rn d mj_m32 25 ls st M = mq_k0 d mj_m32 26 ls M (mj_pu .imul ls st) := mj_R0 (r := (.imul, 1, 0, 0, 0)) rfl rfl
theorem s32_26 {d : Nat} {ls : mj_L} {st : List Value} {M : mj_H} : mj_Rn d mj_m32 26 ls st M = mq_k0 d mj_m32 27 ls M (mj_lda (mj_lk ls 0) st) := mj_R0 (r := (.aload_n 0, 1, 0, 0, 0)) rfl rfl
theorem s32_27 {d : Nat} {ls : mj_L} {st : List Value} {M : mj_H} : mj_Rn d mj_m32 27 ls st M = mq_k0 d mj_m32 30 ls M (mq_gf 9 4 st M) := (mj_R3 (r := (.getfield 24, 3, 9, 4, 8302)) rfl rfl).trans (congrArg (mq_k0 d mj_m32 30 ls M) mq_gf_eq)
theorem s32_30 {d : Nat} {ls : mj_L} {st : List Value} {M : mj_H} : mj_Rn d mj_m32 30 ls st M = mq_k0 d mj_m32 31 ls M (mj_ldi (mj_lk ls 2) st) := mj_R0 (r := (.iload_n 2, 1, 0, 0, 0)) rfl rfl
theorem s32_31 {d : Nat} {ls : mj_L} {st : List Value} {M : mj_H} : mj_Rn d mj_m32 31 ls st M = mq_k0 d mj_m32 32 ls M (mq_al [1000] st M) := (mj_R3 (r := (.iaload, 1, 0, 0, 0)) rfl rfl).trans (congrArg (mq_k0 d mj_m32 32 ls M) mq_ali_eq)
theorem s32_32 {d : Nat} {ls : mj_L} {st : List Value} {M : mj_H} : mj_Rn d mj_m32 32 ls st M = mq_k0 d mj_m32 33 ls M (mj_pu .iadd ls st) := mj_R0 (r := (.iadd, 1, 0, 0, 0)) rfl rfl
theorem s32_33 {d : Nat} {ls : mj_L} {st : List Value} {M : mj_H} : mj_Rn d mj_m32 33 ls st M = mq_k1 d mj_m32 34 M (mj_lo 3 (.istore 1) ls st) := (mj_R1 (r := (.istore_n 1, 1, 0, 0, 0)) rfl rfl).trans (congrArg (mq_k1 d mj_m32 34 M) (mq_sti (k := 1)))
theorem s32_34 {d : Nat} {ls : mj_L} {st : List Value} {M : mj_H} : mj_Rn d mj_m32 34 ls st M = mq_k1 d mj_m32 37 M (mj_lo 3 (.iinc 2 1) ls st) := mj_R1 (r := (.iinc 2 1, 3, 0, 0, 0)) rfl rfl
theorem s32_37 {d : Nat} {ls : mj_L} {st : List Value} {M : mj_H} : mj_Rn d mj_m32 37 ls st M = mj_Rn d mj_m32 5 ls st M := mj_R2 (r := (.goto (-32), 3, 0, 0, 0)) rfl rfl
theorem s32_40 {d : Nat} {ls : mj_L} {st : List Value} {M : mj_H} : mj_Rn d mj_m32 40 ls st M = mq_k0 d mj_m32 41 ls M (mj_ldi (mj_lk ls 1) st) := mj_R0 (r := (.iload_n 1, 1, 0, 0, 0)) rfl rfl
theorem s32_41 {d : Nat} {ls : mj_L} {st : List Value} {M : mj_H} : mj_Rn d mj_m32 41 ls st M = mq_k0 d mj_m32 42 ls M (mj_ldi (mj_lk ls 1) st) := mj_R0 (r := (.iload_n 1, 1, 0, 0, 0)) rfl rfl
theorem s32_42 {d : Nat} {ls : mj_L} {st : List Value} {M : mj_H} : mj_Rn d mj_m32 42 ls st M = mj_Rn d mj_m32 44 ls (.int 15 :: st) M := mj_R0 (r := (.bipush 15, 2, 0, 0, 0)) rfl rfl
theorem s32_44 {d : Nat} {ls : mj_L} {st : List Value} {M : mj_H} : mj_Rn d mj_m32 44 ls st M = mq_k0 d mj_m32 45 ls M (mj_pu .iushr ls st) := mj_R0 (r := (.iushr, 1, 0, 0, 0)) rfl rfl
theorem s32_45 {d : Nat} {ls : mj_L} {st : List Value} {M : mj_H} : mj_Rn d mj_m32 45 ls st M = mq_k0 d mj_m32 46 ls M (mj_pu .ixor ls st) := mj_R0 (r := (.ixor, 1, 0, 0, 0)) rfl rfl
theorem s32_46 {d : Nat} {ls : mj_L} {st : List Value} {M : mj_H} : mj_Rn d mj_m32 46 ls st M = mj_Rn d mj_m32 49 ls (.int 1023 :: st) M := mj_R0 (r := (.sipush 1023, 3, 0, 0, 0)) rfl rfl
theorem s32_49 {d : Nat} {ls : mj_L} {st : List Value} {M : mj_H} : mj_Rn d mj_m32 49 ls st M = mq_k0 d mj_m32 50 ls M (mj_pu .iand ls st) := mj_R0 (r := (.iand, 1, 0, 0, 0)) rfl rfl
theorem s32_50 {d : Nat} {ls : mj_L} {st : List Value} {M : mj_H} : mj_Rn d mj_m32 50 ls st M = mq_k6 M (mj_re (some .int) (.ireturn) st) := mj_R6 (r := (.ireturn, 1, 0, 0, 0)) rfl rfl
/- 33 PasskeyHouse$Terms.isRow(I)Z -/
theorem s33_0 {d : Nat} {ls : mj_L} {st : List Value} {M : mj_H} : mj_Rn d mj_m33 0 ls st M = mq_k0 d mj_m33 1 ls M (mj_ldi (mj_lk ls 1) st) := mj_R0 (r := (.iload_n 1, 1, 0, 0, 0)) rfl rfl
theorem s33_1 {d : Nat} {ls : mj_L} {st : List Value} {M : mj_H} : mj_Rn d mj_m33 1 ls st M = mj_Rn d mj_m33 2 ls (.int 1 :: st) M := mj_R0 (r := (.iconst 1, 1, 0, 0, 0)) rfl rfl
theorem s33_2 {d : Nat} {ls : mj_L} {st : List Value} {M : mj_H} : mj_Rn d mj_m33 2 ls st M = mq_k2 d mj_m33 ls M (mj_br (.if_icmp .lt 34) 2 st) := mj_R2 (r := (.if_icmp .lt 34, 3, 0, 0, 0)) rfl rfl
theorem s33_5 {d : Nat} {ls : mj_L} {st : List Value} {M : mj_H} : mj_Rn d mj_m33 5 ls st M = mq_k0 d mj_m33 6 ls M (mj_ldi (mj_lk ls 1) st) := mj_R0 (r := (.iload_n 1, 1, 0, 0, 0)) rfl rfl
theorem s33_6 {d : Nat} {ls : mj_L} {st : List Value} {M : mj_H} : mj_Rn d mj_m33 6 ls st M = mq_k0 d mj_m33 7 ls M (mj_lda (mj_lk ls 0) st) := mj_R0 (r := (.aload_n 0, 1, 0, 0, 0)) rfl rfl
theorem s33_7 {d : Nat} {ls : mj_L} {st : List Value} {M : mj_H} : mj_Rn d mj_m33 7 ls st M = mq_k0 d mj_m33 10 ls M (mq_gf 9 1 st M) := (mj_R3 (r := (.getfield 15, 3, 9, 1, 8296)) rfl rfl).trans (congrArg (mq_k0 d mj_m33 10 ls M) mq_gf_eq)
theorem s33_10 {d : Nat} {ls : mj_L} {st : List Value} {M : mj_H} : mj_Rn d mj_m33 10 ls st M = mq_k0 d mj_m33 11 ls M (mq_len st M) := (mj_R3 (r := (.arraylength, 1, 0, 0, 0)) rfl rfl).trans (congrArg (mq_k0 d mj_m33 11 ls M) mq_len_eq)
theorem s33_11 {d : Nat} {ls : mj_L} {st : List Value} {M : mj_H} : mj_Rn d mj_m33 11 ls st M = mq_k2 d mj_m33 ls M (mj_br (.if_icmp .ge 25) 11 st) := mj_R2 (r := (.if_icmp .ge 25, 3, 0, 0, 0)) rfl rfl
theorem s33_14 {d : Nat} {ls : mj_L} {st : List Value} {M : mj_H} : mj_Rn d mj_m33 14 ls st M = mq_k0 d mj_m33 15 ls M (mj_lda (mj_lk ls 0) st) := mj_R0 (r := (.aload_n 0, 1, 0, 0, 0)) rfl rfl
theorem s33_15 {d : Nat} {ls : mj_L} {st : List Value} {M : mj_H} : mj_Rn d mj_m33 15 ls st M = mq_k0 d mj_m33 18 ls M (mq_gf 9 1 st M) := (mj_R3 (r := (.getfield 15, 3, 9, 1, 8296)) rfl rfl).trans (congrArg (mq_k0 d mj_m33 18 ls M) mq_gf_eq)
theorem s33_18 {d : Nat} {ls : mj_L} {st : List Value} {M : mj_H} : mj_Rn d mj_m33 18 ls st M = mq_k0 d mj_m33 19 ls M (mj_ldi (mj_lk ls 1) st) := mj_R0 (r := (.iload_n 1, 1, 0, 0, 0)) rfl rfl
theorem s33_19 {d : Nat} {ls : mj_L} {st : List Value} {M : mj_H} : mj_Rn d mj_m33 19 ls st M = mq_k0 d mj_m33 20 ls M (mq_al [1000] st M) := (mj_R3 (r := (.iaload, 1, 0, 0, 0)) rfl rfl).trans (congrArg (mq_k0 d mj_m33 20 ls M) mq_ali_eq)
theorem s33_20 {d : Nat} {ls : mj_L} {st : List Value} {M : mj_H} : mj_Rn d mj_m33 20 ls st M = mq_k0 d mj_m33 21 ls M (mj_lda (mj_lk ls 0) st) := mj_R0 (r := (.aload_n 0, 1, 0, 0, 0)) rfl rfl
theorem s33_21 {d : Nat} {ls : mj_L} {st : List Value} {M : mj_H} : mj_Rn d mj_m33 21 ls st M = mq_k0 d mj_m33 24 ls M (mq_gf 9 1 st M) := (mj_R3 (r := (.getfield 15, 3, 9, 1, 8296)) rfl rfl).trans (congrArg (mq_k0 d mj_m33 24 ls M) mq_gf_eq)
theorem s33_24 {d : Nat} {ls : mj_L} {st : List Value} {M : mj_H} : mj_Rn d mj_m33 24 ls st M = mq_k0 d mj_m33 25 ls M (mj_ldi (mj_lk ls 1) st) := mj_R0 (r := (.iload_n 1, 1, 0, 0, 0)) rfl rfl
theorem s33_25 {d : Nat} {ls : mj_L} {st : List Value} {M : mj_H} : mj_Rn d mj_m33 25 ls st M = mj_Rn d mj_m33 26 ls (.int 1 :: st) M := mj_R0 (r := (.iconst 1, 1, 0, 0, 0)) rfl rfl
theorem s33_26 {d : Nat} {ls : mj_L} {st : List Value} {M : mj_H} : mj_Rn d mj_m33 26 ls st M = mq_k0 d mj_m33 27 ls M (mj_pu .isub ls st) := mj_R0 (r := (.isub, 1, 0, 0, 0)) rfl rfl
theorem s33_27 {d : Nat} {ls : mj_L} {st : List Value} {M : mj_H} : mj_Rn d mj_m33 27 ls st M = mq_k0 d mj_m33 28 ls M (mq_al [1000] st M) := (mj_R3 (r := (.iaload, 1, 0, 0, 0)) rfl rfl).trans (congrArg (mq_k0 d mj_m33 28 ls M) mq_ali_eq)
theorem s33_28 {d : Nat} {ls : mj_L} {st : List Value} {M : mj_H} : mj_Rn d mj_m33 28 ls st M = mq_k0 d mj_m33 29 ls M (mj_pu .isub ls st) := mj_R0 (r := (.isub, 1, 0, 0, 0)) rfl rfl
theorem s33_29 {d : Nat} {ls : mj_L} {st : List Value} {M : mj_H} : mj_Rn d mj_m33 29 ls st M = mq_k0 d mj_m33 30 ls M (mj_lda (mj_lk ls 0) st) := mj_R0 (r := (.aload_n 0, 1, 0, 0, 0)) rfl rfl
theorem s33_30 {d : Nat} {ls : mj_L} {st : List Value} {M : mj_H} : mj_Rn d mj_m33 30 ls st M = mq_k0 d mj_m33 33 ls M (mq_gf 9 5 st M) := (mj_R3 (r := (.getfield 27, 3, 9, 5, 8304)) rfl rfl).trans (congrArg (mq_k0 d mj_m33 33 ls M) mq_gf_eq)
theorem s33_33 {d : Nat} {ls : mj_L} {st : List Value} {M : mj_H} : mj_Rn d mj_m33 33 ls st M = mq_k2 d mj_m33 ls M (mj_br (.if_icmp .eq 5) 33 st) := mj_R2 (r := (.if_icmp .eq 5, 3, 0, 0, 0)) rfl rfl
theorem s33_36 {d : Nat} {ls : mj_L} {st : List Value} {M : mj_H} : mj_Rn d mj_m33 36 ls st M = mj_Rn d mj_m33 37 ls (.int 0 :: st) M := mj_R0 (r := (.iconst 0, 1, 0, 0, 0)) rfl rfl
theorem s33_37 {d : Nat} {ls : mj_L} {st : List Value} {M : mj_H} : mj_Rn d mj_m33 37 ls st M = mq_k6 M (mj_re (some .boolean) (.ireturn) st) := mj_R6 (r := (.ireturn, 1, 0, 0, 0)) rfl rfl
theorem s33_38 {d : Nat} {ls : mj_L} {st : List Value} {M : mj_H} : mj_Rn d mj_m33 38 ls st M = mq_k0 d mj_m33 39 ls M (mj_lda (mj_lk ls 0) st) := mj_R0 (r := (.aload_n 0, 1, 0, 0, 0)) rfl rfl
theorem s33_39 {d : Nat} {ls : mj_L} {st : List Value} {M : mj_H} : mj_Rn d mj_m33 39 ls st M = mq_k0 d mj_m33 42 ls M (mq_gf 9 1 st M) := (mj_R3 (r := (.getfield 15, 3, 9, 1, 8296)) rfl rfl).trans (congrArg (mq_k0 d mj_m33 42 ls M) mq_gf_eq)
theorem s33_42 {d : Nat} {ls : mj_L} {st : List Value} {M : mj_H} : mj_Rn d mj_m33 42 ls st M = mq_k0 d mj_m33 43 ls M (mj_ldi (mj_lk ls 1) st) := mj_R0 (r := (.iload_n 1, 1, 0, 0, 0)) rfl rfl
theorem s33_43 {d : Nat} {ls : mj_L} {st : List Value} {M : mj_H} : mj_Rn d mj_m33 43 ls st M = mj_Rn d mj_m33 44 ls (.int 1 :: st) M := mj_R0 (r := (.iconst 1, 1, 0, 0, 0)) rfl rfl
theorem s33_44 {d : Nat} {ls : mj_L} {st : List Value} {M : mj_H} : mj_Rn d mj_m33 44 ls st M = mq_k0 d mj_m33 45 ls M (mj_pu .isub ls st) := mj_R0 (r := (.isub, 1, 0, 0, 0)) rfl rfl
theorem s33_45 {d : Nat} {ls : mj_L} {st : List Value} {M : mj_H} : mj_Rn d mj_m33 45 ls st M = mq_k0 d mj_m33 46 ls M (mq_al [1000] st M) := (mj_R3 (r := (.iaload, 1, 0, 0, 0)) rfl rfl).trans (congrArg (mq_k0 d mj_m33 46 ls M) mq_ali_eq)
theorem s33_46 {d : Nat} {ls : mj_L} {st : List Value} {M : mj_H} : mj_Rn d mj_m33 46 ls st M = mq_k1 d mj_m33 47 M (mj_lo 5 (.istore 2) ls st) := (mj_R1 (r := (.istore_n 2, 1, 0, 0, 0)) rfl rfl).trans (congrArg (mq_k1 d mj_m33 47 M) (mq_sti (k := 2)))
theorem s33_47 {d : Nat} {ls : mj_L} {st : List Value} {M : mj_H} : mj_Rn d mj_m33 47 ls st M = mj_Rn d mj_m33 48 ls (.int 0 :: st) M := mj_R0 (r := (.iconst 0, 1, 0, 0, 0)) rfl rfl
theorem s33_48 {d : Nat} {ls : mj_L} {st : List Value} {M : mj_H} : mj_Rn d mj_m33 48 ls st M = mq_k1 d mj_m33 49 M (mj_lo 5 (.istore 3) ls st) := (mj_R1 (r := (.istore_n 3, 1, 0, 0, 0)) rfl rfl).trans (congrArg (mq_k1 d mj_m33 49 M) (mq_sti (k := 3)))
theorem s33_49 {d : Nat} {ls : mj_L} {st : List Value} {M : mj_H} : mj_Rn d mj_m33 49 ls st M = mq_k0 d mj_m33 50 ls M (mj_ldi (mj_lk ls 3) st) := mj_R0 (r := (.iload_n 3, 1, 0, 0, 0)) rfl rfl
theorem s33_50 {d : Nat} {ls : mj_L} {st : List Value} {M : mj_H} : mj_Rn d mj_m33 50 ls st M = mq_k0 d mj_m33 51 ls M (mj_lda (mj_lk ls 0) st) := mj_R0 (r := (.aload_n 0, 1, 0, 0, 0)) rfl rfl
theorem s33_51 {d : Nat} {ls : mj_L} {st : List Value} {M : mj_H} : mj_Rn d mj_m33 51 ls st M = mq_k0 d mj_m33 54 ls M (mq_gf 9 5 st M) := (mj_R3 (r := (.getfield 27, 3, 9, 5, 8304)) rfl rfl).trans (congrArg (mq_k0 d mj_m33 54 ls M) mq_gf_eq)
theorem s33_54 {d : Nat} {ls : mj_L} {st : List Value} {M : mj_H} : mj_Rn d mj_m33 54 ls st M = mq_k2 d mj_m33 ls M (mj_br (.if_icmp .ge 56) 54 st) := mj_R2 (r := (.if_icmp .ge 56, 3, 0, 0, 0)) rfl rfl
theorem s33_57 {d : Nat} {ls : mj_L} {st : List Value} {M : mj_H} : mj_Rn d mj_m33 57 ls st M = mq_k0 d mj_m33 58 ls M (mj_ldi (mj_lk ls 2) st) := mj_R0 (r := (.iload_n 2, 1, 0, 0, 0)) rfl rfl
theorem s33_58 {d : Nat} {ls : mj_L} {st : List Value} {M : mj_H} : mj_Rn d mj_m33 58 ls st M = mq_k0 d mj_m33 59 ls M (mj_ldi (mj_lk ls 3) st) := mj_R0 (r := (.iload_n 3, 1, 0, 0, 0)) rfl rfl
theorem s33_59 {d : Nat} {ls : mj_L} {st : List Value} {M : mj_H} : mj_Rn d mj_m33 59 ls st M = mq_k0 d mj_m33 60 ls M (mj_pu .iadd ls st) := mj_R0 (r := (.iadd, 1, 0, 0, 0)) rfl rfl
theorem s33_60 {d : Nat} {ls : mj_L} {st : List Value} {M : mj_H} : mj_Rn d mj_m33 60 ls st M = mq_k1 d mj_m33 62 M (mj_lo 5 (.istore 4) ls st) := mj_R1 (r := (.istore 4, 2, 0, 0, 0)) rfl rfl
theorem s33_62 {d : Nat} {ls : mj_L} {st : List Value} {M : mj_H} : mj_Rn d mj_m33 62 ls st M = mq_k0 d mj_m33 63 ls M (mj_ldi (mj_lk ls 3) st) := mj_R0 (r := (.iload_n 3, 1, 0, 0, 0)) rfl rfl
theorem s33_63 {d : Nat} {ls : mj_L} {st : List Value} {M : mj_H} : mj_Rn d mj_m33 63 ls st M = mq_k0 d mj_m33 64 ls M (mj_lda (mj_lk ls 0) st) := mj_R0 (r := (.aload_n 0, 1, 0, 0, 0)) rfl rfl
theorem s33_64 {d : Nat} {ls : mj_L} {st : List Value} {M : mj_H} : mj_Rn d mj_m33 64 ls st M = mq_k0 d mj_m33 67 ls M (mq_gf 9 4 st M) := (mj_R3 (r := (.getfield 24, 3, 9, 4, 8302)) rfl rfl).trans (congrArg (mq_k0 d mj_m33 67 ls M) mq_gf_eq)
theorem s33_67 {d : Nat} {ls : mj_L} {st : List Value} {M : mj_H} : mj_Rn d mj_m33 67 ls st M = mq_k0 d mj_m33 68 ls M (mq_len st M) := (mj_R3 (r := (.arraylength, 1, 0, 0, 0)) rfl rfl).trans (congrArg (mq_k0 d mj_m33 68 ls M) mq_len_eq)
theorem s33_68 {d : Nat} {ls : mj_L} {st : List Value} {M : mj_H} : mj_Rn d mj_m33 68 ls st M = mq_k2 d mj_m33 ls M (mj_br (.if_icmp .ge 34) 68 st) := mj_R2 (r := (.if_icmp .ge 34, 3, 0, 0, 0)) rfl rfl
theorem s33_71 {d : Nat} {ls : mj_L} {st : List Value} {M : mj_H} : mj_Rn d mj_m33 71 ls st M = mq_k0 d mj_m33 73 ls M (mj_ldi (mj_lk ls 4) st) := mj_R0 (r := (.iload 4, 2, 0, 0, 0)) rfl rfl
theorem s33_73 {d : Nat} {ls : mj_L} {st : List Value} {M : mj_H} : mj_Rn d mj_m33 73 ls st M = mq_k2 d mj_m33 ls M (mj_br (.ifCond .lt 29) 73 st) := mj_R2 (r := (.ifCond .lt 29, 3, 0, 0, 0)) rfl rfl
theorem s33_76 {d : Nat} {ls : mj_L} {st : List Value} {M : mj_H} : mj_Rn d mj_m33 76 ls st M = mq_k0 d mj_m33 78 ls M (mj_ldi (mj_lk ls 4) st) := mj_R0 (r := (.iload 4, 2, 0, 0, 0)) rfl rfl
theorem s33_78 {d : Nat} {ls : mj_L} {st : List Value} {M : mj_H} : mj_Rn d mj_m33 78 ls st M = mq_k0 d mj_m33 79 ls M (mj_lda (mj_lk ls 0) st) := mj_R0 (r := (.aload_n 0, 1, 0, 0, 0)) rfl rfl
theorem s33_79 {d : Nat} {ls : mj_L} {st : List Value} {M : mj_H} : mj_Rn d mj_m33 79 ls st M = mq_k0 d mj_m33 82 ls M (mq_gf 9 0 st M) := (mj_R3 (r := (.getfield 9, 3, 9, 0, 8294)) rfl rfl).trans (congrArg (mq_k0 d mj_m33 82 ls M) mq_gf_eq)
theorem s33_82 {d : Nat} {ls : mj_L} {st : List Value} {M : mj_H} : mj_Rn d mj_m33 82 ls st M = mq_k0 d mj_m33 83 ls M (mq_len st M) := (mj_R3 (r := (.arraylength, 1, 0, 0, 0)) rfl rfl).trans (congrArg (mq_k0 d mj_m33 83 ls M) mq_len_eq)
theorem s33_83 {d : Nat} {ls : mj_L} {st : List Value} {M : mj_H} : mj_Rn d mj_m33 83 ls st M = mq_k2 d mj_m33 ls M (mj_br (.if_icmp .ge 19) 83 st) := mj_R2 (r := (.if_icmp .ge 19, 3, 0, 0, 0)) rfl rfl
theorem s33_86 {d : Nat} {ls : mj_L} {st : List Value} {M : mj_H} : mj_Rn d mj_m33 86 ls st M = mq_k0 d mj_m33 87 ls M (mj_lda (mj_lk ls 0) st) := mj_R0 (r := (.aload_n 0, 1, 0, 0, 0)) rfl rfl
theorem s33_87 {d : Nat} {ls : mj_L} {st : List Value} {M : mj_H} : mj_Rn d mj_m33 87 ls st M = mq_k0 d mj_m33 90 ls M (mq_gf 9 0 st M) := (mj_R3 (r := (.getfield 9, 3, 9, 0, 8294)) rfl rfl).trans (congrArg (mq_k0 d mj_m33 90 ls M) mq_gf_eq)
theorem s33_90 {d : Nat} {ls : mj_L} {st : List Value} {M : mj_H} : mj_Rn d mj_m33 90 ls st M = mq_k0 d mj_m33 92 ls M (mj_ldi (mj_lk ls 4) st) := mj_R0 (r := (.iload 4, 2, 0, 0, 0)) rfl rfl
theorem s33_92 {d : Nat} {ls : mj_L} {st : List Value} {M : mj_H} : mj_Rn d mj_m33 92 ls st M = mq_k0 d mj_m33 93 ls M (mq_al [1000] st M) := (mj_R3 (r := (.iaload, 1, 0, 0, 0)) rfl rfl).trans (congrArg (mq_k0 d mj_m33 93 ls M) mq_ali_eq)
theorem s33_93 {d : Nat} {ls : mj_L} {st : List Value} {M : mj_H} : mj_Rn d mj_m33 93 ls st M = mq_k0 d mj_m33 94 ls M (mj_lda (mj_lk ls 0) st) := mj_R0 (r := (.aload_n 0, 1, 0, 0, 0)) rfl rfl
theorem s33_94 {d : Nat} {ls : mj_L} {st : List Value} {M : mj_H} : mj_Rn d mj_m33 94 ls st M = mq_k0 d mj_m33 97 ls M (mq_gf 9 4 st M) := (mj_R3 (r := (.getfield 24, 3, 9, 4, 8302)) rfl rfl).trans (congrArg (mq_k0 d mj_m33 97 ls M) mq_gf_eq)
theorem s33_97 {d : Nat} {ls : mj_L} {st : List Value} {M : mj_H} : mj_Rn d mj_m33 97 ls st M = mq_k0 d mj_m33 98 ls M (mj_ldi (mj_lk ls 3) st) := mj_R0 (r := (.iload_n 3, 1, 0, 0, 0)) rfl rfl
theorem s33_98 {d : Nat} {ls : mj_L} {st : List Value} {M : mj_H} : mj_Rn d mj_m33 98 ls st M = mq_k0 d mj_m33 99 ls M (mq_al [1000] st M) := (mj_R3 (r := (.iaload, 1, 0, 0, 0)) rfl rfl).trans (congrArg (mq_k0 d mj_m33 99 ls M) mq_ali_eq)
theorem s33_99 {d : Nat} {ls : mj_L} {st : List Value} {M : mj_H} : mj_Rn d mj_m33 99 ls st M = mq_k2 d mj_m33 ls M (mj_br (.if_icmp .eq 5) 99 st) := mj_R2 (r := (.if_icmp .eq 5, 3, 0, 0, 0)) rfl rfl
theorem s33_102 {d : Nat} {ls : mj_L} {st : List Value} {M : mj_H} : mj_Rn d mj_m33 102 ls st M = mj_Rn d mj_m33 103 ls (.int 0 :: st) M := mj_R0 (r := (.iconst 0, 1, 0, 0, 0)) rfl rfl
theorem s33_103 {d : Nat} {ls : mj_L} {st : List Value} {M : mj_H} : mj_Rn d mj_m33 103 ls st M = mq_k6 M (mj_re (some .boolean) (.ireturn) st) := mj_R6 (r := (.ireturn, 1, 0, 0, 0)) rfl rfl
theorem s33_104 {d : Nat} {ls : mj_L} {st : List Value} {M : mj_H} : mj_Rn d mj_m33 104 ls st M = mq_k1 d mj_m33 107 M (mj_lo 5 (.iinc 3 1) ls st) := mj_R1 (r := (.iinc 3 1, 3, 0, 0, 0)) rfl rfl
theorem s33_107 {d : Nat} {ls : mj_L} {st : List Value} {M : mj_H} : mj_Rn d mj_m33 107 ls st M = mj_Rn d mj_m33 49 ls st M := mj_R2 (r := (.goto (-58), 3, 0, 0, 0)) rfl rfl
theorem s33_110 {d : Nat} {ls : mj_L} {st : List Value} {M : mj_H} : mj_Rn d mj_m33 110 ls st M = mj_Rn d mj_m33 111 ls (.int 1 :: st) M := mj_R0 (r := (.iconst 1, 1, 0, 0, 0)) rfl rfl
theorem s33_111 {d : Nat} {ls : mj_L} {st : List Value} {M : mj_H} : mj_Rn d mj_m33 111 ls st M = mq_k6 M (mj_re (some .boolean) (.ireturn) st) := mj_R6 (r := (.ireturn, 1, 0, 0, 0)) rfl rfl
/- 20 PasskeyHouse$Terms.part(II)I -/
theorem s20_0 {d : Nat} {ls : mj_L} {st : List Value} {M : mj_H} : mj_Rn d mj_m20 0 ls st M = mq_k0 d mj_m20 1 ls M (mj_ldi (mj_lk ls 2) st) := mj_R0 (r := (.iload_n 2, 1, 0, 0, 0)) rfl rfl
theorem s20_1 {d : Nat} {ls : mj_L} {st : List Value} {M : mj_H} : mj_Rn d mj_m20 1 ls st M = mq_k2 d mj_m20 ls M (mj_br (.ifCond .lt 26) 1 st) := mj_R2 (r := (.ifCond .lt 26, 3, 0, 0, 0)) rfl rfl
theorem s20_4 {d : Nat} {ls : mj_L} {st : List Value} {M : mj_H} : mj_Rn d mj_m20 4 ls st M = mq_k0 d mj_m20 5 ls M (mj_ldi (mj_lk ls 2) st) := mj_R0 (r := (.iload_n 2, 1, 0, 0, 0)) rfl rfl
theorem s20_5 {d : Nat} {ls : mj_L} {st : List Value} {M : mj_H} : mj_Rn d mj_m20 5 ls st M = mq_k0 d mj_m20 6 ls M (mj_lda (mj_lk ls 0) st) := mj_R0 (r := (.aload_n 0, 1, 0, 0, 0)) rfl rfl
theorem s20_6 {d : Nat} {ls : mj_L} {st : List Value} {M : mj_H} : mj_Rn d mj_m20 6 ls st M = mq_k0 d mj_m20 7 ls M (mj_ldi (mj_lk ls 1) st) := mj_R0 (r := (.iload_n 1, 1, 0, 0, 0)) rfl rfl
theorem s20_7 {d : Nat} {ls : mj_L} {st : List Value} {M : mj_H} : mj_Rn (d + 1) mj_m20 7 ls st M = mq_k5a (d + 1) mj_m20 10 ls M 21 (mq_cb 0 1 9 st M) := mj_R5e (r := (.invokevirtual 62, 3, 0, 21, 4326)) (z := mj_m21) rfl rfl (by decide) (by decide) rfl
theorem s20_10 {d : Nat} {ls : mj_L} {st : List Value} {M : mj_H} : mj_Rn d mj_m20 10 ls st M = mq_k2 d mj_m20 ls M (mj_br (.if_icmp .ge 17) 10 st) := mj_R2 (r := (.if_icmp .ge 17, 3, 0, 0, 0)) rfl rfl
theorem s20_13 {d : Nat} {ls : mj_L} {st : List Value} {M : mj_H} : mj_Rn d mj_m20 13 ls st M = mq_k0 d mj_m20 14 ls M (mj_ldi (mj_lk ls 1) st) := mj_R0 (r := (.iload_n 1, 1, 0, 0, 0)) rfl rfl
theorem s20_14 {d : Nat} {ls : mj_L} {st : List Value} {M : mj_H} : mj_Rn d mj_m20 14 ls st M = mj_Rn d mj_m20 15 ls (.int 1 :: st) M := mj_R0 (r := (.iconst 1, 1, 0, 0, 0)) rfl rfl
theorem s20_15 {d : Nat} {ls : mj_L} {st : List Value} {M : mj_H} : mj_Rn d mj_m20 15 ls st M = mq_k2 d mj_m20 ls M (mj_br (.if_icmp .lt 12) 15 st) := mj_R2 (r := (.if_icmp .lt 12, 3, 0, 0, 0)) rfl rfl
theorem s20_18 {d : Nat} {ls : mj_L} {st : List Value} {M : mj_H} : mj_Rn d mj_m20 18 ls st M = mq_k0 d mj_m20 19 ls M (mj_ldi (mj_lk ls 1) st) := mj_R0 (r := (.iload_n 1, 1, 0, 0, 0)) rfl rfl
theorem s20_19 {d : Nat} {ls : mj_L} {st : List Value} {M : mj_H} : mj_Rn d mj_m20 19 ls st M = mq_k0 d mj_m20 20 ls M (mj_lda (mj_lk ls 0) st) := mj_R0 (r := (.aload_n 0, 1, 0, 0, 0)) rfl rfl
theorem s20_20 {d : Nat} {ls : mj_L} {st : List Value} {M : mj_H} : mj_Rn d mj_m20 20 ls st M = mq_k0 d mj_m20 23 ls M (mq_gf 9 1 st M) := (mj_R3 (r := (.getfield 15, 3, 9, 1, 8296)) rfl rfl).trans (congrArg (mq_k0 d mj_m20 23 ls M) mq_gf_eq)
theorem s20_23 {d : Nat} {ls : mj_L} {st : List Value} {M : mj_H} : mj_Rn d mj_m20 23 ls st M = mq_k0 d mj_m20 24 ls M (mq_len st M) := (mj_R3 (r := (.arraylength, 1, 0, 0, 0)) rfl rfl).trans (congrArg (mq_k0 d mj_m20 24 ls M) mq_len_eq)
theorem s20_24 {d : Nat} {ls : mj_L} {st : List Value} {M : mj_H} : mj_Rn d mj_m20 24 ls st M = mq_k2 d mj_m20 ls M (mj_br (.if_icmp .lt 5) 24 st) := mj_R2 (r := (.if_icmp .lt 5, 3, 0, 0, 0)) rfl rfl
theorem s20_27 {d : Nat} {ls : mj_L} {st : List Value} {M : mj_H} : mj_Rn d mj_m20 27 ls st M = mj_Rn d mj_m20 28 ls (.int (-1) :: st) M := mj_R0 (r := (.iconst (-1), 1, 0, 0, 0)) rfl rfl
theorem s20_28 {d : Nat} {ls : mj_L} {st : List Value} {M : mj_H} : mj_Rn d mj_m20 28 ls st M = mq_k6 M (mj_re (some .int) (.ireturn) st) := mj_R6 (r := (.ireturn, 1, 0, 0, 0)) rfl rfl
theorem s20_29 {d : Nat} {ls : mj_L} {st : List Value} {M : mj_H} : mj_Rn d mj_m20 29 ls st M = mq_k0 d mj_m20 30 ls M (mj_lda (mj_lk ls 0) st) := mj_R0 (r := (.aload_n 0, 1, 0, 0, 0)) rfl rfl
theorem s20_30 {d : Nat} {ls : mj_L} {st : List Value} {M : mj_H} : mj_Rn d mj_m20 30 ls st M = mq_k0 d mj_m20 33 ls M (mq_gf 9 1 st M) := (mj_R3 (r := (.getfield 15, 3, 9, 1, 8296)) rfl rfl).trans (congrArg (mq_k0 d mj_m20 33 ls M) mq_gf_eq)
theorem s20_33 {d : Nat} {ls : mj_L} {st : List Value} {M : mj_H} : mj_Rn d mj_m20 33 ls st M = mq_k0 d mj_m20 34 ls M (mj_ldi (mj_lk ls 1) st) := mj_R0 (r := (.iload_n 1, 1, 0, 0, 0)) rfl rfl
theorem s20_34 {d : Nat} {ls : mj_L} {st : List Value} {M : mj_H} : mj_Rn d mj_m20 34 ls st M = mj_Rn d mj_m20 35 ls (.int 1 :: st) M := mj_R0 (r := (.iconst 1, 1, 0, 0, 0)) rfl rfl
theorem s20_35 {d : Nat} {ls : mj_L} {st : List Value} {M : mj_H} : mj_Rn d mj_m20 35 ls st M = mq_k0 d mj_m20 36 ls M (mj_pu .isub ls st) := mj_R0 (r := (.isub, 1, 0, 0, 0)) rfl rfl
theorem s20_36 {d : Nat} {ls : mj_L} {st : List Value} {M : mj_H} : mj_Rn d mj_m20 36 ls st M = mq_k0 d mj_m20 37 ls M (mq_al [1000] st M) := (mj_R3 (r := (.iaload, 1, 0, 0, 0)) rfl rfl).trans (congrArg (mq_k0 d mj_m20 37 ls M) mq_ali_eq)
theorem s20_37 {d : Nat} {ls : mj_L} {st : List Value} {M : mj_H} : mj_Rn d mj_m20 37 ls st M = mq_k0 d mj_m20 38 ls M (mj_ldi (mj_lk ls 2) st) := mj_R0 (r := (.iload_n 2, 1, 0, 0, 0)) rfl rfl
theorem s20_38 {d : Nat} {ls : mj_L} {st : List Value} {M : mj_H} : mj_Rn d mj_m20 38 ls st M = mq_k0 d mj_m20 39 ls M (mj_pu .iadd ls st) := mj_R0 (r := (.iadd, 1, 0, 0, 0)) rfl rfl
theorem s20_39 {d : Nat} {ls : mj_L} {st : List Value} {M : mj_H} : mj_Rn d mj_m20 39 ls st M = mq_k1 d mj_m20 40 M (mj_lo 4 (.istore 3) ls st) := (mj_R1 (r := (.istore_n 3, 1, 0, 0, 0)) rfl rfl).trans (congrArg (mq_k1 d mj_m20 40 M) (mq_sti (k := 3)))
theorem s20_40 {d : Nat} {ls : mj_L} {st : List Value} {M : mj_H} : mj_Rn d mj_m20 40 ls st M = mq_k0 d mj_m20 41 ls M (mj_ldi (mj_lk ls 3) st) := mj_R0 (r := (.iload_n 3, 1, 0, 0, 0)) rfl rfl
theorem s20_41 {d : Nat} {ls : mj_L} {st : List Value} {M : mj_H} : mj_Rn d mj_m20 41 ls st M = mq_k2 d mj_m20 ls M (mj_br (.ifCond .lt 12) 41 st) := mj_R2 (r := (.ifCond .lt 12, 3, 0, 0, 0)) rfl rfl
theorem s20_44 {d : Nat} {ls : mj_L} {st : List Value} {M : mj_H} : mj_Rn d mj_m20 44 ls st M = mq_k0 d mj_m20 45 ls M (mj_ldi (mj_lk ls 3) st) := mj_R0 (r := (.iload_n 3, 1, 0, 0, 0)) rfl rfl
theorem s20_45 {d : Nat} {ls : mj_L} {st : List Value} {M : mj_H} : mj_Rn d mj_m20 45 ls st M = mq_k0 d mj_m20 46 ls M (mj_lda (mj_lk ls 0) st) := mj_R0 (r := (.aload_n 0, 1, 0, 0, 0)) rfl rfl
theorem s20_46 {d : Nat} {ls : mj_L} {st : List Value} {M : mj_H} : mj_Rn d mj_m20 46 ls st M = mq_k0 d mj_m20 49 ls M (mq_gf 9 0 st M) := (mj_R3 (r := (.getfield 9, 3, 9, 0, 8294)) rfl rfl).trans (congrArg (mq_k0 d mj_m20 49 ls M) mq_gf_eq)
theorem s20_49 {d : Nat} {ls : mj_L} {st : List Value} {M : mj_H} : mj_Rn d mj_m20 49 ls st M = mq_k0 d mj_m20 50 ls M (mq_len st M) := (mj_R3 (r := (.arraylength, 1, 0, 0, 0)) rfl rfl).trans (congrArg (mq_k0 d mj_m20 50 ls M) mq_len_eq)
theorem s20_50 {d : Nat} {ls : mj_L} {st : List Value} {M : mj_H} : mj_Rn d mj_m20 50 ls st M = mq_k2 d mj_m20 ls M (mj_br (.if_icmp .lt 7) 50 st) := mj_R2 (r := (.if_icmp .lt 7, 3, 0, 0, 0)) rfl rfl
theorem s20_53 {d : Nat} {ls : mj_L} {st : List Value} {M : mj_H} : mj_Rn d mj_m20 53 ls st M = mj_Rn d mj_m20 54 ls (.int (-1) :: st) M := mj_R0 (r := (.iconst (-1), 1, 0, 0, 0)) rfl rfl
theorem s20_54 {d : Nat} {ls : mj_L} {st : List Value} {M : mj_H} : mj_Rn d mj_m20 54 ls st M = mj_Rn d mj_m20 63 ls st M := mj_R2 (r := (.goto 9, 3, 0, 0, 0)) rfl rfl
theorem s20_57 {d : Nat} {ls : mj_L} {st : List Value} {M : mj_H} : mj_Rn d mj_m20 57 ls st M = mq_k0 d mj_m20 58 ls M (mj_lda (mj_lk ls 0) st) := mj_R0 (r := (.aload_n 0, 1, 0, 0, 0)) rfl rfl
theorem s20_58 {d : Nat} {ls : mj_L} {st : List Value} {M : mj_H} : mj_Rn d mj_m20 58 ls st M = mq_k0 d mj_m20 61 ls M (mq_gf 9 0 st M) := (mj_R3 (r := (.getfield 9, 3, 9, 0, 8294)) rfl rfl).trans (congrArg (mq_k0 d mj_m20 61 ls M) mq_gf_eq)
theorem s20_61 {d : Nat} {ls : mj_L} {st : List Value} {M : mj_H} : mj_Rn d mj_m20 61 ls st M = mq_k0 d mj_m20 62 ls M (mj_ldi (mj_lk ls 3) st) := mj_R0 (r := (.iload_n 3, 1, 0, 0, 0)) rfl rfl
theorem s20_62 {d : Nat} {ls : mj_L} {st : List Value} {M : mj_H} : mj_Rn d mj_m20 62 ls st M = mq_k0 d mj_m20 63 ls M (mq_al [1000] st M) := (mj_R3 (r := (.iaload, 1, 0, 0, 0)) rfl rfl).trans (congrArg (mq_k0 d mj_m20 63 ls M) mq_ali_eq)
theorem s20_63 {d : Nat} {ls : mj_L} {st : List Value} {M : mj_H} : mj_Rn d mj_m20 63 ls st M = mq_k6 M (mj_re (some .int) (.ireturn) st) := mj_R6 (r := (.ireturn, 1, 0, 0, 0)) rfl rfl
/- 21 PasskeyHouse$Terms.width(I)I -/
theorem s21_0 {d : Nat} {ls : mj_L} {st : List Value} {M : mj_H} : mj_Rn d mj_m21 0 ls st M = mq_k0 d mj_m21 1 ls M (mj_ldi (mj_lk ls 1) st) := mj_R0 (r := (.iload_n 1, 1, 0, 0, 0)) rfl rfl
theorem s21_1 {d : Nat} {ls : mj_L} {st : List Value} {M : mj_H} : mj_Rn d mj_m21 1 ls st M = mj_Rn d mj_m21 2 ls (.int 1 :: st) M := mj_R0 (r := (.iconst 1, 1, 0, 0, 0)) rfl rfl
theorem s21_2 {d : Nat} {ls : mj_L} {st : List Value} {M : mj_H} : mj_Rn d mj_m21 2 ls st M = mq_k2 d mj_m21 ls M (mj_br (.if_icmp .lt 20) 2 st) := mj_R2 (r := (.if_icmp .lt 20, 3, 0, 0, 0)) rfl rfl
theorem s21_5 {d : Nat} {ls : mj_L} {st : List Value} {M : mj_H} : mj_Rn d mj_m21 5 ls st M = mq_k0 d mj_m21 6 ls M (mj_ldi (mj_lk ls 1) st) := mj_R0 (r := (.iload_n 1, 1, 0, 0, 0)) rfl rfl
theorem s21_6 {d : Nat} {ls : mj_L} {st : List Value} {M : mj_H} : mj_Rn d mj_m21 6 ls st M = mq_k0 d mj_m21 7 ls M (mj_lda (mj_lk ls 0) st) := mj_R0 (r := (.aload_n 0, 1, 0, 0, 0)) rfl rfl
theorem s21_7 {d : Nat} {ls : mj_L} {st : List Value} {M : mj_H} : mj_Rn d mj_m21 7 ls st M = mq_k0 d mj_m21 10 ls M (mq_gf 9 6 st M) := (mj_R3 (r := (.getfield 31, 3, 9, 6, 8306)) rfl rfl).trans (congrArg (mq_k0 d mj_m21 10 ls M) mq_gf_eq)
theorem s21_10 {d : Nat} {ls : mj_L} {st : List Value} {M : mj_H} : mj_Rn d mj_m21 10 ls st M = mq_k2 d mj_m21 ls M (mj_br (.if_icmp .gt 12) 10 st) := mj_R2 (r := (.if_icmp .gt 12, 3, 0, 0, 0)) rfl rfl
theorem s21_13 {d : Nat} {ls : mj_L} {st : List Value} {M : mj_H} : mj_Rn d mj_m21 13 ls st M = mq_k0 d mj_m21 14 ls M (mj_ldi (mj_lk ls 1) st) := mj_R0 (r := (.iload_n 1, 1, 0, 0, 0)) rfl rfl
theorem s21_14 {d : Nat} {ls : mj_L} {st : List Value} {M : mj_H} : mj_Rn d mj_m21 14 ls st M = mq_k0 d mj_m21 15 ls M (mj_lda (mj_lk ls 0) st) := mj_R0 (r := (.aload_n 0, 1, 0, 0, 0)) rfl rfl
theorem s21_15 {d : Nat} {ls : mj_L} {st : List Value} {M : mj_H} : mj_Rn d mj_m21 15 ls st M = mq_k0 d mj_m21 18 ls M (mq_gf 9 1 st M) := (mj_R3 (r := (.getfield 15, 3, 9, 1, 8296)) rfl rfl).trans (congrArg (mq_k0 d mj_m21 18 ls M) mq_gf_eq)
theorem s21_18 {d : Nat} {ls : mj_L} {st : List Value} {M : mj_H} : mj_Rn d mj_m21 18 ls st M = mq_k0 d mj_m21 19 ls M (mq_len st M) := (mj_R3 (r := (.arraylength, 1, 0, 0, 0)) rfl rfl).trans (congrArg (mq_k0 d mj_m21 19 ls M) mq_len_eq)
theorem s21_19 {d : Nat} {ls : mj_L} {st : List Value} {M : mj_H} : mj_Rn d mj_m21 19 ls st M = mq_k2 d mj_m21 ls M (mj_br (.if_icmp .lt 5) 19 st) := mj_R2 (r := (.if_icmp .lt 5, 3, 0, 0, 0)) rfl rfl
theorem s21_22 {d : Nat} {ls : mj_L} {st : List Value} {M : mj_H} : mj_Rn d mj_m21 22 ls st M = mj_Rn d mj_m21 23 ls (.int 0 :: st) M := mj_R0 (r := (.iconst 0, 1, 0, 0, 0)) rfl rfl
theorem s21_23 {d : Nat} {ls : mj_L} {st : List Value} {M : mj_H} : mj_Rn d mj_m21 23 ls st M = mq_k6 M (mj_re (some .int) (.ireturn) st) := mj_R6 (r := (.ireturn, 1, 0, 0, 0)) rfl rfl
theorem s21_24 {d : Nat} {ls : mj_L} {st : List Value} {M : mj_H} : mj_Rn d mj_m21 24 ls st M = mq_k0 d mj_m21 25 ls M (mj_lda (mj_lk ls 0) st) := mj_R0 (r := (.aload_n 0, 1, 0, 0, 0)) rfl rfl
theorem s21_25 {d : Nat} {ls : mj_L} {st : List Value} {M : mj_H} : mj_Rn d mj_m21 25 ls st M = mq_k0 d mj_m21 28 ls M (mq_gf 9 1 st M) := (mj_R3 (r := (.getfield 15, 3, 9, 1, 8296)) rfl rfl).trans (congrArg (mq_k0 d mj_m21 28 ls M) mq_gf_eq)
theorem s21_28 {d : Nat} {ls : mj_L} {st : List Value} {M : mj_H} : mj_Rn d mj_m21 28 ls st M = mq_k0 d mj_m21 29 ls M (mj_ldi (mj_lk ls 1) st) := mj_R0 (r := (.iload_n 1, 1, 0, 0, 0)) rfl rfl
theorem s21_29 {d : Nat} {ls : mj_L} {st : List Value} {M : mj_H} : mj_Rn d mj_m21 29 ls st M = mq_k0 d mj_m21 30 ls M (mq_al [1000] st M) := (mj_R3 (r := (.iaload, 1, 0, 0, 0)) rfl rfl).trans (congrArg (mq_k0 d mj_m21 30 ls M) mq_ali_eq)
theorem s21_30 {d : Nat} {ls : mj_L} {st : List Value} {M : mj_H} : mj_Rn d mj_m21 30 ls st M = mq_k0 d mj_m21 31 ls M (mj_lda (mj_lk ls 0) st) := mj_R0 (r := (.aload_n 0, 1, 0, 0, 0)) rfl rfl
theorem s21_31 {d : Nat} {ls : mj_L} {st : List Value} {M : mj_H} : mj_Rn d mj_m21 31 ls st M = mq_k0 d mj_m21 34 ls M (mq_gf 9 1 st M) := (mj_R3 (r := (.getfield 15, 3, 9, 1, 8296)) rfl rfl).trans (congrArg (mq_k0 d mj_m21 34 ls M) mq_gf_eq)
theorem s21_34 {d : Nat} {ls : mj_L} {st : List Value} {M : mj_H} : mj_Rn d mj_m21 34 ls st M = mq_k0 d mj_m21 35 ls M (mj_ldi (mj_lk ls 1) st) := mj_R0 (r := (.iload_n 1, 1, 0, 0, 0)) rfl rfl
theorem s21_35 {d : Nat} {ls : mj_L} {st : List Value} {M : mj_H} : mj_Rn d mj_m21 35 ls st M = mj_Rn d mj_m21 36 ls (.int 1 :: st) M := mj_R0 (r := (.iconst 1, 1, 0, 0, 0)) rfl rfl
theorem s21_36 {d : Nat} {ls : mj_L} {st : List Value} {M : mj_H} : mj_Rn d mj_m21 36 ls st M = mq_k0 d mj_m21 37 ls M (mj_pu .isub ls st) := mj_R0 (r := (.isub, 1, 0, 0, 0)) rfl rfl
theorem s21_37 {d : Nat} {ls : mj_L} {st : List Value} {M : mj_H} : mj_Rn d mj_m21 37 ls st M = mq_k0 d mj_m21 38 ls M (mq_al [1000] st M) := (mj_R3 (r := (.iaload, 1, 0, 0, 0)) rfl rfl).trans (congrArg (mq_k0 d mj_m21 38 ls M) mq_ali_eq)
theorem s21_38 {d : Nat} {ls : mj_L} {st : List Value} {M : mj_H} : mj_Rn d mj_m21 38 ls st M = mq_k0 d mj_m21 39 ls M (mj_pu .isub ls st) := mj_R0 (r := (.isub, 1, 0, 0, 0)) rfl rfl
theorem s21_39 {d : Nat} {ls : mj_L} {st : List Value} {M : mj_H} : mj_Rn d mj_m21 39 ls st M = mq_k6 M (mj_re (some .int) (.ireturn) st) := mj_R6 (r := (.ireturn, 1, 0, 0, 0)) rfl rfl
/- 18 PasskeyHouse$Terms.count()I -/
theorem s18_0 {d : Nat} {ls : mj_L} {st : List Value} {M : mj_H} : mj_Rn d mj_m18 0 ls st M = mq_k0 d mj_m18 1 ls M (mj_lda (mj_lk ls 0) st) := mj_R0 (r := (.aload_n 0, 1, 0, 0, 0)) rfl rfl
theorem s18_1 {d : Nat} {ls : mj_L} {st : List Value} {M : mj_H} : mj_Rn d mj_m18 1 ls st M = mq_k0 d mj_m18 4 ls M (mq_gf 9 6 st M) := (mj_R3 (r := (.getfield 31, 3, 9, 6, 8306)) rfl rfl).trans (congrArg (mq_k0 d mj_m18 4 ls M) mq_gf_eq)
theorem s18_4 {d : Nat} {ls : mj_L} {st : List Value} {M : mj_H} : mj_Rn d mj_m18 4 ls st M = mq_k6 M (mj_re (some .int) (.ireturn) st) := mj_R6 (r := (.ireturn, 1, 0, 0, 0)) rfl rfl
theorem c28 {d : Nat} {a0 : Nat} {x1 : Int32} {M : mj_H} : mj_V (d + 1) 28 [.ref a0, .int x1] M = mj_Rn d mj_m28 0 [(0, .ref a0), (1, .int x1)] [] M := mj_V_go rfl (Nat.le_of_ble_eq_true rfl)
theorem c29 {d : Nat} {a0 : Nat} {x1 : Int32} {M : mj_H} : mj_V (d + 1) 29 [.ref a0, .int x1] M = mj_Rn d mj_m29 0 [(0, .ref a0), (1, .int x1)] [] M := mj_V_go rfl (Nat.le_of_ble_eq_true rfl)
theorem c122 {d : Nat} {a0 : Nat} {x1 : Int32} {M : mj_H} : mj_V (d + 1) 122 [.ref a0, .int x1] M = mj_Rn d mj_m122 0 [(0, .ref a0), (1, .int x1)] [] M := mj_V_go rfl (Nat.le_of_ble_eq_true rfl)
theorem c113 {d : Nat} {a0 : Nat} {a1 : Nat} {x2 : Int32} {x3 : Int32} {M : mj_H} : mj_V (d + 1) 113 [.ref a0, .ref a1, .int x2, .int x3] M = mj_Rn d mj_m113 0 [(0, .ref a0), (1, .ref a1), (2, .int x2), (3, .int x3)] [] M := mj_V_go rfl (Nat.le_of_ble_eq_true rfl)
theorem c153 {d : Nat} {a0 : Nat} {x1 : Int32} {x2 : Int32} {M : mj_H} : mj_V (d + 1) 153 [.ref a0, .int x1, .int x2] M = mj_Rn d mj_m153 0 [(0, .ref a0), (1, .int x1), (2, .int x2)] [] M := mj_V_go rfl (Nat.le_of_ble_eq_true rfl)
theorem c31 {d : Nat} {a0 : Nat} {M : mj_H} : mj_V (d + 1) 31 [.ref a0] M = mj_Rn d mj_m31 0 [(0, .ref a0)] [] M := mj_V_go rfl (Nat.le_of_ble_eq_true rfl)
theorem c32 {d : Nat} {a0 : Nat} {M : mj_H} : mj_V (d + 1) 32 [.ref a0] M = mj_Rn d mj_m32 0 [(0, .ref a0)] [] M := mj_V_go rfl (Nat.le_of_ble_eq_true rfl)
theorem c33 {d : Nat} {a0 : Nat} {x1 : Int32} {M : mj_H} : mj_V (d + 1) 33 [.ref a0, .int x1] M = mj_Rn d mj_m33 0 [(0, .ref a0), (1, .int x1)] [] M := mj_V_go rfl (Nat.le_of_ble_eq_true rfl)
theorem c20 {d : Nat} {a0 : Nat} {x1 : Int32} {x2 : Int32} {M : mj_H} : mj_V (d + 1) 20 [.ref a0, .int x1, .int x2] M = mj_Rn d mj_m20 0 [(0, .ref a0), (1, .int x1), (2, .int x2)] [] M := mj_V_go rfl (Nat.le_of_ble_eq_true rfl)
theorem c21 {d : Nat} {a0 : Nat} {x1 : Int32} {M : mj_H} : mj_V (d + 1) 21 [.ref a0, .int x1] M = mj_Rn d mj_m21 0 [(0, .ref a0), (1, .int x1)] [] M := mj_V_go rfl (Nat.le_of_ble_eq_true rfl)
theorem c18 {d : Nat} {a0 : Nat} {M : mj_H} : mj_V (d + 1) 18 [.ref a0] M = mj_Rn d mj_m18 0 [(0, .ref a0)] [] M := mj_V_go rfl (Nat.le_of_ble_eq_true rfl)
/-- terms: the rows, one behind the other; how many FRESH ones, how many secrets -/
abbrev Tm : Type := (List (List Int32)) × Nat × Nat
/-- the last term that is a row, among the first t -/
def tm_last (rows : List (List Int32)) (row : List Int32) : Nat → Nat
  | 0 => 0
  | t + 1 => if rows[t]? = some row then t + 1 else tm_last rows row t
def tm_ix (rows : List (List Int32)) (row : List Int32) : Nat := tm_last rows row rows.length
/-- the last term with a bucket, among the first t -/
def tm_prev (bk : List Int32 → Nat) (rows : List (List Int32)) (b : Nat) : Nat → Nat
  | 0 => 0
  | t + 1 => if (rows[t]?).map bk = some b then t + 1 else tm_prev bk rows b t
def tm_row (rows : List (List Int32)) (t : Int32) : List Int32 := if t < 1 then [] else rows.getD (t.toNatClampNeg - 1) []
def tm_end (rows : List (List Int32)) (t : Nat) : Nat := ((rows.take t).map List.length).sum
theorem tm_end_s {rows : List (List Int32)} {t : Nat} (h : t < rows.length) : tm_end rows (t + 1) = tm_end rows t + rows[t].length := by
  unfold tm_end
  rw [List.take_succ_eq_append_getElem h, List.map_append, List.sum_append]; simp
theorem tm_end_le {rows : List (List Int32)} (t : Nat) : tm_end rows t ≤ tm_end rows rows.length := by
  unfold tm_end
  rw [List.take_length]
  conv => rhs; rw [← List.take_append_drop t rows, List.map_append, List.sum_append]
  omega
theorem tm_end_b {rows : List (List Int32)} (h : ∀ r ∈ rows, r.length ≤ 410) (t : Nat) : tm_end rows t ≤ 410 * t := by
  induction t with
  | zero => simp [tm_end]
  | succ t ih =>
    by_cases ht : t < rows.length
    · rw [tm_end_s ht]
      have := h _ (List.getElem_mem ht)
      omega
    · have : tm_end rows (t + 1) = tm_end rows t := by unfold tm_end; rw [List.take_of_length_le (by omega), List.take_of_length_le (by omega)]
      omega
/-- where the numbers of a row lie in the pool -/
theorem tm_flat {rows : List (List Int32)} : ∀ {t : Nat} (h : t < rows.length) {i : Nat} (hi : i < rows[t].length), rows.flatten[tm_end rows t + i]? = some (rows[t][i]) := by
  induction rows with
  | nil => intro t h; simp at h
  | cons r rows ih =>
    intro t h i hi
    cases t with
    | zero =>
      simp only [tm_end, List.take_zero, List.map_nil, List.sum_nil, Nat.zero_add, List.flatten_cons, List.getElem_cons_zero] at hi ⊢
      rw [List.getElem?_append_left hi, List.getElem?_eq_getElem hi]
    | succ t =>
      have h' : t < rows.length := by simpa using h
      have e : tm_end (r :: rows) (t + 1) = r.length + tm_end rows t := by simp [tm_end]
      rw [e, List.flatten_cons, Nat.add_assoc, List.getElem?_append_right (by omega), Nat.add_sub_cancel_left]
      exact ih h' hi
def tb_hs (row : List Int32) : Int32 := row.foldl (fun h v => 31 * h + v) 17
def tb_bk (row : List Int32) : Nat := ((tb_hs row ^^^ ((tb_hs row).toUInt32 >>> (Int32.toUInt32 15 &&& Int32.toUInt32 31)).toInt32) &&& 1023).toNatClampNeg
theorem tb_and {x : Int32} {k : Nat} (hk : k < 31) : ∃ n : Nat, n < 2 ^ k ∧ x &&& nI (2 ^ k - 1) = nI n := by
  refine ⟨x.toBitVec.toNat % 2 ^ k, Nat.mod_lt _ (Nat.pow_pos (by decide)), ?_⟩
  apply Int32.toBitVec_inj.mp
  apply BitVec.eq_of_toNat_eq
  simp [nI]
  rw [Nat.mod_eq_of_lt (b := 4294967296), Nat.mod_eq_of_lt (b := 4294967296), Nat.and_two_pow_sub_one_eq_mod]
  · have : x.toBitVec.toNat % 2 ^ k < 2 ^ k := Nat.mod_lt _ (Nat.pow_pos (by decide))
    have : 2 ^ k ≤ 2 ^ 31 := Nat.pow_le_pow_right (by decide) (by omega)
    omega
  · have : 2 ^ k ≤ 2 ^ 31 := Nat.pow_le_pow_right (by decide) (by omega)
    have : 0 < 2 ^ k := Nat.pow_pos (by decide)
    omega
theorem tb_bk_lt (row : List Int32) : tb_bk row < 1024 := by
  obtain ⟨n, h1, h2⟩ := tb_and (x := tb_hs row ^^^ ((tb_hs row).toUInt32 >>> (Int32.toUInt32 15 &&& Int32.toUInt32 31)).toInt32) (k := 10) (by decide)
  unfold tb_bk
  rw [show (1023 : Int32) = nI (2 ^ 10 - 1) from rfl, h2, nI_clamp (by omega)]
  exact h1
theorem tb_bk_eq (row : List Int32) : (tb_hs row ^^^ ((tb_hs row).toUInt32 >>> (Int32.toUInt32 15 &&& Int32.toUInt32 31)).toInt32) &&& 1023 = nI (tb_bk row) := by
  obtain ⟨n, h1, h2⟩ := tb_and (x := tb_hs row ^^^ ((tb_hs row).toUInt32 >>> (Int32.toUInt32 15 &&& Int32.toUInt32 31)).toInt32) (k := 10) (by decide)
  unfold tb_bk
  rw [show (1023 : Int32) = nI (2 ^ 10 - 1) from rfl, h2, nI_clamp (by omega)]
def tb (M : mj_H) (p e o : Nat) (T : Tm) : Prop := (T.1.length ≤ 1000) ∧ (∀ r ∈ T.1, 0 < r.length ∧ r.length ≤ 410) ∧ (∃ g : List Int32, M[p]? = some (1000, (T.1.flatten ++ g).map Value.int) ∧ (T.1.flatten ++ g).length < 2 ^ 20 ∧ 2048 ≤ (T.1.flatten ++ g).length) ∧ (∃ E : List Int32, M[e]? = some (1000, E.map Value.int) ∧ E.length < 2 ^ 15 ∧ 256 ≤ E.length ∧ T.1.length < E.length ∧ ∀ t, t ≤ T.1.length → E[t]? = some (nI (tm_end T.1 t))) ∧ (∃ O : List Int32, M[o]? = some (1000, O.map Value.int) ∧ O.length = ((M[e]?).getD (0, [])).2.length ∧ ∀ t (h : t < T.1.length), O[t + 1]? = some (nI (tm_prev tb_bk T.1 (tb_bk T.1[t]) t))) ∧ (∃ L : List Int32, M[34]? = some (1000, L.map Value.int) ∧ L.length = 1024 ∧ ∀ b, b < 1024 → L[b]? = some (nI (tm_prev tb_bk T.1 b T.1.length)))
theorem tb.few {M : mj_H} {p e o : Nat} {T : Tm} (hh_ : tb M p e o T) : T.1.length ≤ 1000 := hh_.1
theorem tb.wide {M : mj_H} {p e o : Nat} {T : Tm} (hh_ : tb M p e o T) : ∀ r ∈ T.1, 0 < r.length ∧ r.length ≤ 410 := hh_.2.1
theorem tb.po {M : mj_H} {p e o : Nat} {T : Tm} (hh_ : tb M p e o T) : ∃ g : List Int32, M[p]? = some (1000, (T.1.flatten ++ g).map Value.int) ∧ (T.1.flatten ++ g).length < 2 ^ 20 ∧ 2048 ≤ (T.1.flatten ++ g).length := hh_.2.2.1
theorem tb.en {M : mj_H} {p e o : Nat} {T : Tm} (hh_ : tb M p e o T) : ∃ E : List Int32, M[e]? = some (1000, E.map Value.int) ∧ E.length < 2 ^ 15 ∧ 256 ≤ E.length ∧ T.1.length < E.length ∧ ∀ t, t ≤ T.1.length → E[t]? = some (nI (tm_end T.1 t)) := hh_.2.2.2.1
theorem tb.ol {M : mj_H} {p e o : Nat} {T : Tm} (hh_ : tb M p e o T) : ∃ O : List Int32, M[o]? = some (1000, O.map Value.int) ∧ O.length = ((M[e]?).getD (0, [])).2.length ∧ ∀ t (h : t < T.1.length), O[t + 1]? = some (nI (tm_prev tb_bk T.1 (tb_bk T.1[t]) t)) := hh_.2.2.2.2.1
theorem tb.la {M : mj_H} {p e o : Nat} {T : Tm} (hh_ : tb M p e o T) : ∃ L : List Int32, M[34]? = some (1000, L.map Value.int) ∧ L.length = 1024 ∧ ∀ b, b < 1024 → L[b]? = some (nI (tm_prev tb_bk T.1 b T.1.length)) := hh_.2.2.2.2.2
theorem tb_mk_ {M : mj_H} {p e o : Nat} {T : Tm} (f_0_ : T.1.length ≤ 1000) (f_1_ : ∀ r ∈ T.1, 0 < r.length ∧ r.length ≤ 410) (f_2_ : ∃ g : List Int32, M[p]? = some (1000, (T.1.flatten ++ g).map Value.int) ∧ (T.1.flatten ++ g).length < 2 ^ 20 ∧ 2048 ≤ (T.1.flatten ++ g).length) (f_3_ : ∃ E : List Int32, M[e]? = some (1000, E.map Value.int) ∧ E.length < 2 ^ 15 ∧ 256 ≤ E.length ∧ T.1.length < E.length ∧ ∀ t, t ≤ T.1.length → E[t]? = some (nI (tm_end T.1 t))) (f_4_ : ∃ O : List Int32, M[o]? = some (1000, O.map Value.int) ∧ O.length = ((M[e]?).getD (0, [])).2.length ∧ ∀ t (h : t < T.1.length), O[t + 1]? = some (nI (tm_prev tb_bk T.1 (tb_bk T.1[t]) t))) (f_5_ : ∃ L : List Int32, M[34]? = some (1000, L.map Value.int) ∧ L.length = 1024 ∧ ∀ b, b < 1024 → L[b]? = some (nI (tm_prev tb_bk T.1 b T.1.length))) : tb M p e o T := And.intro f_0_ (And.intro f_1_ (And.intro f_2_ (And.intro f_3_ (And.intro f_4_ f_5_))))
def tt (M : mj_H) (p e o : Nat) (T : Tm) (row : List Int32) : Prop := (M[30]? = some (9, [.ref p, .ref e, .ref o, .ref 34, .ref 35, .int (nI row.length), .int (nI T.1.length), .int (nI T.2.1), .int (nI T.2.2)])) ∧ (∃ g : List Int32, M[35]? = some (1000, (row ++ g).map Value.int) ∧ (row ++ g).length = 410) ∧ (tb M p e o T) ∧ (mj_E ≤ p ∧ mj_E ≤ e ∧ mj_E ≤ o ∧ p ≠ e ∧ p ≠ o ∧ e ≠ o ∧ p ≠ 30 ∧ e ≠ 30 ∧ o ≠ 30 ∧ p ≠ 34 ∧ e ≠ 34 ∧ o ≠ 34 ∧ p ≠ 35 ∧ e ≠ 35 ∧ o ≠ 35)
theorem tt.ob {M : mj_H} {p e o : Nat} {T : Tm} {row : List Int32} (hh_ : tt M p e o T row) : M[30]? = some (9, [.ref p, .ref e, .ref o, .ref 34, .ref 35, .int (nI row.length), .int (nI T.1.length), .int (nI T.2.1), .int (nI T.2.2)]) := hh_.1
theorem tt.rw {M : mj_H} {p e o : Nat} {T : Tm} {row : List Int32} (hh_ : tt M p e o T row) : ∃ g : List Int32, M[35]? = some (1000, (row ++ g).map Value.int) ∧ (row ++ g).length = 410 := hh_.2.1
theorem tt.tbl {M : mj_H} {p e o : Nat} {T : Tm} {row : List Int32} (hh_ : tt M p e o T row) : tb M p e o T := hh_.2.2.1
theorem tt.dis {M : mj_H} {p e o : Nat} {T : Tm} {row : List Int32} (hh_ : tt M p e o T row) : mj_E ≤ p ∧ mj_E ≤ e ∧ mj_E ≤ o ∧ p ≠ e ∧ p ≠ o ∧ e ≠ o ∧ p ≠ 30 ∧ e ≠ 30 ∧ o ≠ 30 ∧ p ≠ 34 ∧ e ≠ 34 ∧ o ≠ 34 ∧ p ≠ 35 ∧ e ≠ 35 ∧ o ≠ 35 := hh_.2.2.2
theorem tt_mk_ {M : mj_H} {p e o : Nat} {T : Tm} {row : List Int32} (f_0_ : M[30]? = some (9, [.ref p, .ref e, .ref o, .ref 34, .ref 35, .int (nI row.length), .int (nI T.1.length), .int (nI T.2.1), .int (nI T.2.2)])) (f_1_ : ∃ g : List Int32, M[35]? = some (1000, (row ++ g).map Value.int) ∧ (row ++ g).length = 410) (f_2_ : tb M p e o T) (f_3_ : mj_E ≤ p ∧ mj_E ≤ e ∧ mj_E ≤ o ∧ p ≠ e ∧ p ≠ o ∧ e ≠ o ∧ p ≠ 30 ∧ e ≠ 30 ∧ o ≠ 30 ∧ p ≠ 34 ∧ e ≠ 34 ∧ o ≠ 34 ∧ p ≠ 35 ∧ e ≠ 35 ∧ o ≠ 35) : tt M p e o T row := And.intro f_0_ (And.intro f_1_ (And.intro f_2_ f_3_))
theorem tb.fr {M M' : mj_H} {p e o : Nat} {T : Tm} (h : tb M p e o T) (h1 : M'[p]? = M[p]?) (h2 : M'[e]? = M[e]?) (h3 : M'[o]? = M[o]?) (h4 : M'[34]? = M[34]?) : tb M' p e o T :=
  (tb_mk_ h.few h.wide (by rw [h1]; exact h.po) (by rw [h2]; exact h.en) (by rw [h3, h2]; exact h.ol) (by rw [h4]; exact h.la))
theorem tt.fr {M M' : mj_H} {p e o : Nat} {T : Tm} {row : List Int32} (h : tt M p e o T row) (h0 : M'[30]? = M[30]?) (h1 : M'[p]? = M[p]?) (h2 : M'[e]? = M[e]?) (h3 : M'[o]? = M[o]?) (h4 : M'[34]? = M[34]?) (h5 : M'[35]? = M[35]?) : tt M' p e o T row :=
  (tt_mk_ (by rw [h0]; exact h.ob) (by rw [h5]; exact h.rw) (h.tbl.fr h1 h2 h3 h4) h.dis)
theorem tt.wid {M : mj_H} {p e o : Nat} {T : Tm} {row : List Int32} (h : tt M p e o T row) : row.length ≤ 410 := by
  obtain ⟨g, -, h2⟩ := h.rw
  rw [← h2]; simp
theorem t_add {d p e o : Nat} {T : Tm} {row : List Int32} {M : mj_H} (h : tt M p e o T row) (hl : row.length < 410) (v : Int32) : ∃ M', mj_V (d + 1) 29 [.ref 30, .int v] M = some (none, M') ∧ tt M' p e o T (row ++ [v]) ∧ mq_fr [30, 35] M M' := by
  obtain ⟨g, h2, hg⟩ := h.rw
  have ho := h.ob
  obtain ⟨c, g', rfl⟩ : ∃ c g', g = c :: g' := by
    cases g with
    | nil => simp at hg; omega
    | cons c g' => exact ⟨c, g', rfl⟩
  have q4 : ((row ++ c :: g').map Value.int).set row.length (.int v) = ((row ++ [v]) ++ g').map Value.int := by
    rw [← List.map_set]; simp
  have hl2 : ((row ++ c :: g').map Value.int).length = 410 := by rw [List.length_map, hg]
  have l30 := mq_lt ho
  have l35 := mq_lt h2
  have hd := h.dis
  refine ⟨(M.set 35 (1000, ((row ++ [v]) ++ g').map Value.int)).set 30 (9, [.ref p, .ref e, .ref o, .ref 34, .ref 35, .int (nI (row ++ [v]).length), .int (nI T.1.length), .int (nI T.2.1), .int (nI T.2.2)]), ?_, (tt_mk_ ?_ (⟨g', ?_, ?_⟩) (h.tbl.fr ?_ ?_ ?_ ?_) h.dis), (mq_fr.rf.set (by simp)).set (by simp)⟩
  · generalize hz : (row ++ c :: g').map Value.int = zs at *
    simp (disch := (first | omega | decide)) [c29, s29_0, s29_1, s29_4, s29_7, s29_8, s29_11, s29_12, s29_15, s29_16, s29_19, s29_20, s29_23, s29_24, s29_27, s29_28, s29_29, s29_30, s29_31, s29_34, s29_35, s29_36, s29_39, mq_k0s, mq_k1s, mq_k2s, mq_k4s, mq_k5s, mq_k5n, mq_k5as, mq_k6s, mj_pu, mj_lo, mj_br, mj_hr, mj_hw, mq_gf, mq_len, mq_al, mq_pf, mq_ok, mj_re, mq_lkm, mq_lkn, mj_ldi, mj_ldl, mj_lda, mj_ii, mj_ll, mj_li, mj_i1, ms_1, ms_2, f1_n, f1_i, f1_r, f1_u, f1_l, f2_n, f2_i, f2_r, f2_u, f2_l, mj_tg, mj_c1, mj_c2, mj_ar, mj_aw, mq_cb, mq_oi, mj_rm, Value.category, -getElem?_pos, List.getElem?_cons_zero, decide_eq_true, decide_eq_false, nl_lt, nl_le, ln_lt, ln_le, nl_eq, ln_eq, nl_add, ln_add, nl_sub, ln_mul, nI_sub, nI_mul, nI_add, nI_lt_iff, nI_le_iff, nI_inj, nI_num, mq_ix, nI_1, ho, h2, hl2, mj_E, q4, List.getElem?_set, l30, l35]
  · simp [List.getElem?_set, l30]
  · simp [List.getElem?_set, l35]
  · simpa using hg
  · simp [List.getElem?_set, Ne.symm hd.2.2.2.2.2.2.1, Ne.symm hd.2.2.2.2.2.2.2.2.2.2.2.2.1]
  · simp [List.getElem?_set, Ne.symm hd.2.2.2.2.2.2.2.1, Ne.symm hd.2.2.2.2.2.2.2.2.2.2.2.2.2.1]
  · simp [List.getElem?_set, Ne.symm hd.2.2.2.2.2.2.2.2.1, Ne.symm hd.2.2.2.2.2.2.2.2.2.2.2.2.2.2]
  · simp [List.getElem?_set]
theorem t_begin {d p e o : Nat} {T : Tm} {row : List Int32} {M : mj_H} (h : tt M p e o T row) (v : Int32) : ∃ M', mj_V (d + 2) 28 [.ref 30, .int v] M = some (none, M') ∧ tt M' p e o T [v] ∧ mq_fr [30, 35] M M' := by
  obtain ⟨g, h2, hg⟩ := h.rw
  have ho := h.ob
  have l30 := mq_lt ho
  have hd := h.dis
  have h' : tt (M.set 30 (9, [.ref p, .ref e, .ref o, .ref 34, .ref 35, .int (nI 0), .int (nI T.1.length), .int (nI T.2.1), .int (nI T.2.2)])) p e o T [] := by
    refine (tt_mk_ (by simp [List.getElem?_set, l30]) (⟨row ++ g, by simp [List.getElem?_set, h2], by simpa using hg⟩) (h.tbl.fr ?_ ?_ ?_ ?_) h.dis)
    · simp [List.getElem?_set, Ne.symm hd.2.2.2.2.2.2.1]
    · simp [List.getElem?_set, Ne.symm hd.2.2.2.2.2.2.2.1]
    · simp [List.getElem?_set, Ne.symm hd.2.2.2.2.2.2.2.2.1]
    · simp [List.getElem?_set]
  obtain ⟨M', r1, r2, r3⟩ := t_add (d := d) h' (by simp) v
  refine ⟨M', ?_, by simpa using r2, (mq_fr.rf.set (by simp)).tr r3⟩
  simp only [nI_0] at r1
  simp (disch := (first | omega | decide)) [c28, s28_0, s28_1, s28_2, s28_5, s28_6, s28_7, s28_10, mq_k0s, mq_k1s, mq_k2s, mq_k4s, mq_k5s, mq_k5n, mq_k5as, mq_k6s, mj_pu, mj_lo, mj_br, mj_hr, mj_hw, mq_gf, mq_len, mq_al, mq_pf, mq_ok, mj_re, mq_lkm, mq_lkn, mj_ldi, mj_ldl, mj_lda, mj_ii, mj_ll, mj_li, mj_i1, ms_1, ms_2, f1_n, f1_i, f1_r, f1_u, f1_l, f2_n, f2_i, f2_r, f2_u, f2_l, mj_tg, mj_c1, mj_c2, mj_ar, mj_aw, mq_cb, mq_oi, mj_rm, Value.category, -getElem?_pos, List.getElem?_cons_zero, decide_eq_true, decide_eq_false, nl_lt, nl_le, ln_lt, ln_le, nl_eq, ln_eq, nl_add, ln_add, nl_sub, ln_mul, nI_sub, nI_mul, nI_add, nI_lt_iff, nI_le_iff, nI_inj, nI_num, mq_ix, nI_1, ho, mj_E, List.getElem?_set, l30, r1]

/-- the four bytes of a number, the highest first -/
def bt_4 (v : Int32) : List Int32 := [(v.toUInt32 >>> (Int32.toUInt32 24 &&& Int32.toUInt32 31)).toInt32 &&& 255, (v.toUInt32 >>> (Int32.toUInt32 16 &&& Int32.toUInt32 31)).toInt32 &&& 255, (v.toUInt32 >>> (Int32.toUInt32 8 &&& Int32.toUInt32 31)).toInt32 &&& 255, (v.toUInt32 >>> (Int32.toUInt32 0 &&& Int32.toUInt32 31)).toInt32 &&& 255]
theorem t_addFour {d p e o : Nat} {T : Tm} {row : List Int32} {M : mj_H} (h : tt M p e o T row) (hl : row.length + 4 ≤ 410) (v : Int32) : ∃ M', mj_V (d + 2) 122 [.ref 30, .int v] M = some (none, M') ∧ tt M' p e o T (row ++ bt_4 v) ∧ mq_fr [30, 35] M M' := by
  obtain ⟨M1, p1, r1, f1⟩ := t_add (d := d) h (by omega) ((v.toUInt32 >>> (Int32.toUInt32 24 &&& Int32.toUInt32 31)).toInt32 &&& 255)
  obtain ⟨M2, p2, r2, f2⟩ := t_add (d := d) r1 (by simp; omega) ((v.toUInt32 >>> (Int32.toUInt32 16 &&& Int32.toUInt32 31)).toInt32 &&& 255)
  obtain ⟨M3, p3, r3, f3⟩ := t_add (d := d) r2 (by simp; omega) ((v.toUInt32 >>> (Int32.toUInt32 8 &&& Int32.toUInt32 31)).toInt32 &&& 255)
  obtain ⟨M4, p4, r4, f4⟩ := t_add (d := d) r3 (by simp; omega) ((v.toUInt32 >>> (Int32.toUInt32 0 &&& Int32.toUInt32 31)).toInt32 &&& 255)
  refine ⟨M4, ?_, by simpa [bt_4] using r4, ((f1.tr f2).tr f3).tr f4⟩
  have z : ∀ k : Int32, k + Int32.ofInt (-8) = k - 8 := by intro k; rw [Int32.sub_eq_add_neg]; rfl
  simp [c122, s122_0, s122_2, s122_3, s122_4, s122_7, s122_8, s122_9, s122_10, s122_11, s122_14, s122_15, s122_18, s122_21, s122_24, mq_k0s, mq_k1s, mq_k2s, mq_k4s, mq_k5s, mq_k5n, mq_k5as, mq_k6s, mj_pu, mj_lo, mj_br, mj_hr, mj_hw, mq_gf, mq_len, mq_al, mq_pf, mq_ok, mj_re, mj_lk, mj_ldi, mj_ldl, mj_lda, mj_ii, mj_ll, mj_li, mj_i1, mj_s1, mj_s2, mj_tg, mj_c1, mj_c2, mj_ar, mj_aw, mq_cb, mq_oi, mj_rm, Value.category, h.ob, r1.ob, r2.ob, r3.ob, p1, p2, p3, p4, z]
theorem l_addBytes {d p e o c b cap q n : Nat} {T : Tm} {ys : List Int32} (hc : c ≠ 30 ∧ c ≠ 35 ∧ b ≠ 30 ∧ b ≠ 35) (hn : q + n ≤ ys.length) : ∀ (m j : Nat) (row : List Int32) (M : mj_H), j + m = n → row.length + m ≤ 410 → tt M p e o T row → bb M c b cap ys → ∃ M', mj_Rn (d + 1) mj_m113 3 [(4, .int (nI j)), (0, .ref 30), (1, .ref c), (2, .int (nI q)), (3, .int (nI n))] [] M = some (none, M') ∧ tt M' p e o T (row ++ (ys.drop (q + j)).take m) ∧ mq_fr [30, 35] M M' := by
  intro m
  induction m with
  | zero =>
    intro j row M hj hl h hy
    have := hy.len
    have := hy.2.2.2.1
    refine ⟨M, ?_, by simpa using h, mq_fr.rf⟩
    simp (disch := (first | omega | decide)) [s113_0, s113_1, s113_3, s113_5, s113_6, s113_9, s113_10, s113_11, s113_12, s113_14, s113_15, s113_18, s113_21, s113_22, s113_25, s113_28, s113_31, mq_k0s, mq_k1s, mq_k2s, mq_k4s, mq_k5s, mq_k5n, mq_k5as, mq_k6s, mj_pu, mj_lo, mj_br, mj_hr, mj_hw, mq_gf, mq_len, mq_al, mq_pf, mq_ok, mj_re, mq_lkm, mq_lkn, mj_ldi, mj_ldl, mj_lda, mj_ii, mj_ll, mj_li, mj_i1, ms_1, ms_2, f1_n, f1_i, f1_r, f1_u, f1_l, f2_n, f2_i, f2_r, f2_u, f2_l, mj_tg, mj_c1, mj_c2, mj_ar, mj_aw, mq_cb, mq_oi, mj_rm, Value.category, -getElem?_pos, List.getElem?_cons_zero, decide_eq_true, decide_eq_false, nl_lt, nl_le, ln_lt, ln_le, nl_eq, ln_eq, nl_add, ln_add, nl_sub, ln_mul, nI_sub, nI_mul, nI_add, nI_lt_iff, nI_le_iff, nI_inj, nI_num, mq_ix, nI_1, show n ≤ j by omega]
  | succ m ih =>
    intro j row M hj hl h hy
    have hle := hy.len
    have hcap := hy.2.2.2.1
    have hv := v_item (d := d) hy (nI (q + j))
    have hk : q + j < ys.length := by omega
    have hg : ys.getD (q + j) (-1) = ys[q + j] := by simp [List.getD, hk]
    have h8 : ys[q + j] &&& 255 = ys[q + j] := hy.2.2.2.2.1 _ (List.getElem_mem hk)
    rw [bt_at_nI (by omega), hg] at hv
    obtain ⟨M1, p1, r1, f1⟩ := t_add (d := d) h (by omega) ys[q + j]
    have hy1 : bb M1 c b cap ys := hy.fr (f1.2 c (by simp [hc])) (f1.2 b (by simp [hc]))
    obtain ⟨M', r4, r5, r6⟩ := ih (j + 1) _ M1 (by omega) (by simp; omega) r1 hy1
    refine ⟨M', ?_, ?_, f1.tr r6⟩
    · rw [s113_3]
      have ha1 := hy.2.2.2.2.2.1
      generalize ys[q + j] = u at *
      simp (disch := (first | omega | decide)) [s113_0, s113_1, s113_5, s113_6, s113_9, s113_10, s113_11, s113_12, s113_14, s113_15, s113_18, s113_21, s113_22, s113_25, s113_28, s113_31, mq_k0s, mq_k1s, mq_k2s, mq_k4s, mq_k5s, mq_k5n, mq_k5as, mq_k6s, mj_pu, mj_lo, mj_br, mj_hr, mj_hw, mq_gf, mq_len, mq_al, mq_pf, mq_ok, mj_re, mq_lkm, mq_lkn, mj_ldi, mj_ldl, mj_lda, mj_ii, mj_ll, mj_li, mj_i1, ms_1, ms_2, f1_n, f1_i, f1_r, f1_u, f1_l, f2_n, f2_i, f2_r, f2_u, f2_l, mj_tg, mj_c1, mj_c2, mj_ar, mj_aw, mq_cb, mq_oi, mj_rm, Value.category, -getElem?_pos, List.getElem?_cons_zero, decide_eq_true, decide_eq_false, nl_lt, nl_le, ln_lt, ln_le, nl_eq, ln_eq, nl_add, ln_add, nl_sub, ln_mul, nI_sub, nI_mul, nI_add, nI_lt_iff, nI_le_iff, nI_inj, nI_num, mq_ix, nI_1, show ¬ n ≤ j by omega, ha1, h.ob, hv, h8, p1]
      refine mq_wk ?_ r4
      simp [mq_sub, mj_lk]
    · have : row ++ (ys.drop (q + j)).take (m + 1) = row ++ [ys[q + j]] ++ (ys.drop (q + (j + 1))).take m := by
        rw [List.drop_eq_getElem_cons hk]; simp [Nat.add_assoc]
      rw [this]; exact r5
theorem t_addBytes {d p e o c b cap q n : Nat} {T : Tm} {row ys : List Int32} {M : mj_H} (hc : c ≠ 30 ∧ c ≠ 35 ∧ b ≠ 30 ∧ b ≠ 35) (hn : q + n ≤ ys.length) (hl : row.length + n ≤ 410) (h : tt M p e o T row) (hy : bb M c b cap ys) : ∃ M', mj_V (d + 2) 113 [.ref 30, .ref c, .int (nI q), .int (nI n)] M = some (none, M') ∧ tt M' p e o T (row ++ (ys.drop q).take n) ∧ mq_fr [30, 35] M M' := by
  obtain ⟨M', r1, r2, r3⟩ := l_addBytes (d := d) hc hn n 0 row M (by omega) hl h hy
  rw [nI_0] at r1
  refine ⟨M', ?_, by simpa using r2, r3⟩
  simp [c113, s113_0, s113_1, mq_k0s, mq_k1s, mq_k2s, mq_k4s, mq_k5s, mq_k5n, mq_k5as, mq_k6s, mj_pu, mj_lo, mj_br, mj_hr, mj_hw, mq_gf, mq_len, mq_al, mq_pf, mq_ok, mj_re, mj_lk, mj_ldi, mj_ldl, mj_lda, mj_ii, mj_ll, mj_li, mj_i1, mj_s1, mj_s2, mj_tg, mj_c1, mj_c2, mj_ar, mj_aw, mq_cb, mq_oi, mj_rm, Value.category]
  exact r1
theorem tm_row_nI {rows : List (List Int32)} {t : Nat} (ht : t + 1 < 2 ^ 31) : tm_row rows (nI (t + 1)) = rows.getD t [] := by
  unfold tm_row
  rw [if_neg (by rw [show (1 : Int32) = nI 1 from rfl]; exact nI_nlt (by omega) ht), nI_clamp ht]; rfl
theorem t_count {d p e o : Nat} {T : Tm} {row : List Int32} {M : mj_H} (h : tt M p e o T row) : mj_V (d + 1) 18 [.ref 30] M = some (some (.int (nI T.1.length)), M) := by
  simp [c18, s18_0, s18_1, s18_4, mq_k0s, mq_k1s, mq_k2s, mq_k4s, mq_k5s, mq_k5n, mq_k5as, mq_k6s, mj_pu, mj_lo, mj_br, mj_hr, mj_hw, mq_gf, mq_len, mq_al, mq_pf, mq_ok, mj_re, mj_lk, mj_ldi, mj_ldl, mj_lda, mj_ii, mj_ll, mj_li, mj_i1, mj_s1, mj_s2, mj_tg, mj_c1, mj_c2, mj_ar, mj_aw, mq_cb, mq_oi, mj_rm, Value.category, h.ob, narrow]
/-- an int is below 1, or a small number above -/
theorem mq_int1 (x : Int32) : x < 1 ∨ ∃ k : Nat, k + 1 < 2 ^ 31 ∧ x = nI (k + 1) := by
  by_cases h : x < 1
  · exact Or.inl h
  · have h0 : ¬ x < 0 := by
      intro z
      apply h
      rw [Int32.lt_iff_toInt_lt] at z ⊢
      exact Int.lt_trans z (by decide)
    obtain ⟨k, hk, rfl⟩ := nI_of h0
    cases k with
    | zero => exact absurd (by decide) h
    | succ k => exact Or.inr ⟨k, hk, rfl⟩
theorem t_width {d p e o : Nat} {T : Tm} {row : List Int32} {M : mj_H} (h : tt M p e o T row) (t : Int32) : mj_V (d + 1) 21 [.ref 30, .int t] M = some (some (.int (nI (tm_row T.1 t).length)), M) := by
  obtain ⟨E, e1, e2, e3, e4, e5⟩ := h.tbl.en
  have few := h.tbl.few
  rcases mq_int1 t with ht | ⟨k, hk, rfl⟩
  · have : tm_row T.1 t = [] := by unfold tm_row; rw [if_pos ht]
    simp [c21, s21_0, s21_1, s21_2, s21_5, s21_6, s21_7, s21_10, s21_13, s21_14, s21_15, s21_18, s21_19, s21_22, s21_23, s21_24, s21_25, s21_28, s21_29, s21_30, s21_31, s21_34, s21_35, s21_36, s21_37, s21_38, s21_39, mq_k0s, mq_k1s, mq_k2s, mq_k4s, mq_k5s, mq_k5n, mq_k5as, mq_k6s, mj_pu, mj_lo, mj_br, mj_hr, mj_hw, mq_gf, mq_len, mq_al, mq_pf, mq_ok, mj_re, mj_lk, mj_ldi, mj_ldl, mj_lda, mj_ii, mj_ll, mj_li, mj_i1, mj_s1, mj_s2, mj_tg, mj_c1, mj_c2, mj_ar, mj_aw, mq_cb, mq_oi, mj_rm, Value.category, ht, this, narrow, nI_0]
  · rw [tm_row_nI hk]
    by_cases hkn : k < T.1.length
    · have a1 := e5 (k + 1) (by omega)
      have a2 := e5 k (by omega)
      have a3 := tm_end_s hkn
      have a4 : tm_end T.1 k ≤ 410 * k := tm_end_b (fun r hr => (h.tbl.wide r hr).2) k
      have a5 : T.1.getD k [] = T.1[k] := by simp [List.getD, hkn]
      have a6 := (h.tbl.wide _ (List.getElem_mem hkn)).2
      rw [a5]
      rw [a3] at a1
      generalize T.1[k] = rk at *
      have b1 : (E.map Value.int)[k + 1]? = some (.int (nI (tm_end T.1 k + rk.length))) := by rw [List.getElem?_map, a1]; rfl
      have b2 : (E.map Value.int)[k]? = some (.int (nI (tm_end T.1 k))) := by rw [List.getElem?_map, a2]; rfl
      have b3 : (E.map Value.int).length = E.length := List.length_map ..
      generalize E.map Value.int = zs at *
      simp (disch := (first | omega | decide)) [c21, s21_0, s21_1, s21_2, s21_5, s21_6, s21_7, s21_10, s21_13, s21_14, s21_15, s21_18, s21_19, s21_22, s21_23, s21_24, s21_25, s21_28, s21_29, s21_30, s21_31, s21_34, s21_35, s21_36, s21_37, s21_38, s21_39, mq_k0s, mq_k1s, mq_k2s, mq_k4s, mq_k5s, mq_k5n, mq_k5as, mq_k6s, mj_pu, mj_lo, mj_br, mj_hr, mj_hw, mq_gf, mq_len, mq_al, mq_pf, mq_ok, mj_re, mq_lkm, mq_lkn, mj_ldi, mj_ldl, mj_lda, mj_ii, mj_ll, mj_li, mj_i1, ms_1, ms_2, f1_n, f1_i, f1_r, f1_u, f1_l, f2_n, f2_i, f2_r, f2_u, f2_l, mj_tg, mj_c1, mj_c2, mj_ar, mj_aw, mq_cb, mq_oi, mj_rm, Value.category, -getElem?_pos, List.getElem?_cons_zero, decide_eq_true, decide_eq_false, nl_lt, nl_le, ln_lt, ln_le, nl_eq, ln_eq, nl_add, ln_add, nl_sub, ln_mul, nI_sub, nI_mul, nI_add, nI_lt_iff, nI_le_iff, nI_inj, nI_num, mq_ix, nI_1, h.ob, e1, b1, b2, b3, narrow]
    · have a5 : T.1.getD k [] = [] := by simp [List.getD, hkn]
      rw [a5]
      simp (disch := (first | omega | decide)) [c21, s21_0, s21_1, s21_2, s21_5, s21_6, s21_7, s21_10, s21_13, s21_14, s21_15, s21_18, s21_19, s21_22, s21_23, s21_24, s21_25, s21_28, s21_29, s21_30, s21_31, s21_34, s21_35, s21_36, s21_37, s21_38, s21_39, mq_k0s, mq_k1s, mq_k2s, mq_k4s, mq_k5s, mq_k5n, mq_k5as, mq_k6s, mj_pu, mj_lo, mj_br, mj_hr, mj_hw, mq_gf, mq_len, mq_al, mq_pf, mq_ok, mj_re, mq_lkm, mq_lkn, mj_ldi, mj_ldl, mj_lda, mj_ii, mj_ll, mj_li, mj_i1, ms_1, ms_2, f1_n, f1_i, f1_r, f1_u, f1_l, f2_n, f2_i, f2_r, f2_u, f2_l, mj_tg, mj_c1, mj_c2, mj_ar, mj_aw, mq_cb, mq_oi, mj_rm, Value.category, -getElem?_pos, List.getElem?_cons_zero, decide_eq_true, decide_eq_false, nl_lt, nl_le, ln_lt, ln_le, nl_eq, ln_eq, nl_add, ln_add, nl_sub, ln_mul, nI_sub, nI_mul, nI_add, nI_lt_iff, nI_le_iff, nI_inj, nI_num, mq_ix, nI_1, h.ob, e1, narrow, show T.1.length < k + 1 by omega, nI_0]
theorem t_part {d p e o : Nat} {T : Tm} {row : List Int32} {M : mj_H} (h : tt M p e o T row) (t i : Int32) : mj_V (d + 2) 20 [.ref 30, .int t, .int i] M = some (some (.int (bt_at (tm_row T.1 t) i)), M) := by
  obtain ⟨E, e1, e2, e3, e4, e5⟩ := h.tbl.en
  obtain ⟨g, g1, g2, g3⟩ := h.tbl.po
  have few := h.tbl.few
  have hw := t_width (d := d) h t
  unfold bt_at
  rcases mq_int i with hi | ⟨j, hj, rfl⟩
  · simp [c20, s20_0, s20_1, s20_4, s20_5, s20_6, s20_7, s20_10, s20_13, s20_14, s20_15, s20_18, s20_19, s20_20, s20_23, s20_24, s20_27, s20_28, s20_29, s20_30, s20_33, s20_34, s20_35, s20_36, s20_37, s20_38, s20_39, s20_40, s20_41, s20_44, s20_45, s20_46, s20_49, s20_50, s20_53, s20_54, s20_57, s20_58, s20_61, s20_62, s20_63, mq_k0s, mq_k1s, mq_k2s, mq_k4s, mq_k5s, mq_k5n, mq_k5as, mq_k6s, mj_pu, mj_lo, mj_br, mj_hr, mj_hw, mq_gf, mq_len, mq_al, mq_pf, mq_ok, mj_re, mj_lk, mj_ldi, mj_ldl, mj_lda, mj_ii, mj_ll, mj_li, mj_i1, mj_s1, mj_s2, mj_tg, mj_c1, mj_c2, mj_ar, mj_aw, mq_cb, mq_oi, mj_rm, Value.category, hi, narrow]
  · rw [if_neg (nI_pos hj), nI_clamp hj]
    rcases mq_int1 t with ht | ⟨k, hk, rfl⟩
    · have : tm_row T.1 t = [] := by unfold tm_row; rw [if_pos ht]
      rw [this] at hw ⊢
      simp (disch := (first | omega | decide)) [c20, s20_0, s20_1, s20_4, s20_5, s20_6, s20_7, s20_10, s20_13, s20_14, s20_15, s20_18, s20_19, s20_20, s20_23, s20_24, s20_27, s20_28, s20_29, s20_30, s20_33, s20_34, s20_35, s20_36, s20_37, s20_38, s20_39, s20_40, s20_41, s20_44, s20_45, s20_46, s20_49, s20_50, s20_53, s20_54, s20_57, s20_58, s20_61, s20_62, s20_63, mq_k0s, mq_k1s, mq_k2s, mq_k4s, mq_k5s, mq_k5n, mq_k5as, mq_k6s, mj_pu, mj_lo, mj_br, mj_hr, mj_hw, mq_gf, mq_len, mq_al, mq_pf, mq_ok, mj_re, mq_lkm, mq_lkn, mj_ldi, mj_ldl, mj_lda, mj_ii, mj_ll, mj_li, mj_i1, ms_1, ms_2, f1_n, f1_i, f1_r, f1_u, f1_l, f2_n, f2_i, f2_r, f2_u, f2_l, mj_tg, mj_c1, mj_c2, mj_ar, mj_aw, mq_cb, mq_oi, mj_rm, Value.category, -getElem?_pos, List.getElem?_cons_zero, decide_eq_true, decide_eq_false, nl_lt, nl_le, ln_lt, ln_le, nl_eq, ln_eq, nl_add, ln_add, nl_sub, ln_mul, nI_sub, nI_mul, nI_add, nI_lt_iff, nI_le_iff, nI_inj, nI_num, mq_ix, nI_1, h.ob, hw, narrow]
    · rw [tm_row_nI hk] at hw ⊢
      by_cases hkn : k < T.1.length
      · have a2 := e5 k (by omega)
        have a4 : tm_end T.1 k ≤ 410 * k := tm_end_b (fun r hr => (h.tbl.wide r hr).2) k
        have a5 : T.1.getD k [] = T.1[k] := by simp [List.getD, hkn]
        have a6 := (h.tbl.wide _ (List.getElem_mem hkn)).2
        rw [a5] at hw ⊢
        by_cases hjw : j < T.1[k].length
        · have a7 := tm_flat hkn hjw
          have a8 : tm_end T.1 k + j < (T.1.flatten ++ g).length := by
            have := (List.getElem?_eq_some_iff.mp a7).1
            simp only [List.length_append]; omega
          have b1 : ((T.1.flatten ++ g).map Value.int)[tm_end T.1 k + j]? = some (.int (T.1[k].getD j (-1))) := by
            rw [List.getElem?_map, List.getElem?_append_left (List.getElem?_eq_some_iff.mp a7).1, a7]
            simp [List.getD, hjw]
          have b2 : (E.map Value.int)[k]? = some (.int (nI (tm_end T.1 k))) := by rw [List.getElem?_map, a2]; rfl
          have b3 : (E.map Value.int).length = E.length := List.length_map ..
          have b4 : ((T.1.flatten ++ g).map Value.int).length = (T.1.flatten ++ g).length := List.length_map ..
          generalize T.1[k] = rk at *
          generalize E.map Value.int = zs at *
          generalize (T.1.flatten ++ g).map Value.int = ws at *
          generalize (T.1.flatten ++ g).length = wl at *
          generalize rk.getD j (-1) = u at *
          simp (disch := (first | omega | decide)) [c20, s20_0, s20_1, s20_4, s20_5, s20_6, s20_7, s20_10, s20_13, s20_14, s20_15, s20_18, s20_19, s20_20, s20_23, s20_24, s20_27, s20_28, s20_29, s20_30, s20_33, s20_34, s20_35, s20_36, s20_37, s20_38, s20_39, s20_40, s20_41, s20_44, s20_45, s20_46, s20_49, s20_50, s20_53, s20_54, s20_57, s20_58, s20_61, s20_62, s20_63, mq_k0s, mq_k1s, mq_k2s, mq_k4s, mq_k5s, mq_k5n, mq_k5as, mq_k6s, mj_pu, mj_lo, mj_br, mj_hr, mj_hw, mq_gf, mq_len, mq_al, mq_pf, mq_ok, mj_re, mq_lkm, mq_lkn, mj_ldi, mj_ldl, mj_lda, mj_ii, mj_ll, mj_li, mj_i1, ms_1, ms_2, f1_n, f1_i, f1_r, f1_u, f1_l, f2_n, f2_i, f2_r, f2_u, f2_l, mj_tg, mj_c1, mj_c2, mj_ar, mj_aw, mq_cb, mq_oi, mj_rm, Value.category, -getElem?_pos, List.getElem?_cons_zero, decide_eq_true, decide_eq_false, nl_lt, nl_le, ln_lt, ln_le, nl_eq, ln_eq, nl_add, ln_add, nl_sub, ln_mul, nI_sub, nI_mul, nI_add, nI_lt_iff, nI_le_iff, nI_inj, nI_num, mq_ix, nI_1, h.ob, hw, e1, g1, b1, b2, b3, b4, hjw, a8, narrow, show k + 1 < E.length by omega]
        · have a7 : T.1[k].getD j (-1) = -1 := by simp [List.getD, hjw]
          rw [a7]
          generalize T.1[k] = rk at *
          simp (disch := (first | omega | decide)) [c20, s20_0, s20_1, s20_4, s20_5, s20_6, s20_7, s20_10, s20_13, s20_14, s20_15, s20_18, s20_19, s20_20, s20_23, s20_24, s20_27, s20_28, s20_29, s20_30, s20_33, s20_34, s20_35, s20_36, s20_37, s20_38, s20_39, s20_40, s20_41, s20_44, s20_45, s20_46, s20_49, s20_50, s20_53, s20_54, s20_57, s20_58, s20_61, s20_62, s20_63, mq_k0s, mq_k1s, mq_k2s, mq_k4s, mq_k5s, mq_k5n, mq_k5as, mq_k6s, mj_pu, mj_lo, mj_br, mj_hr, mj_hw, mq_gf, mq_len, mq_al, mq_pf, mq_ok, mj_re, mq_lkm, mq_lkn, mj_ldi, mj_ldl, mj_lda, mj_ii, mj_ll, mj_li, mj_i1, ms_1, ms_2, f1_n, f1_i, f1_r, f1_u, f1_l, f2_n, f2_i, f2_r, f2_u, f2_l, mj_tg, mj_c1, mj_c2, mj_ar, mj_aw, mq_cb, mq_oi, mj_rm, Value.category, -getElem?_pos, List.getElem?_cons_zero, decide_eq_true, decide_eq_false, nl_lt, nl_le, ln_lt, ln_le, nl_eq, ln_eq, nl_add, ln_add, nl_sub, ln_mul, nI_sub, nI_mul, nI_add, nI_lt_iff, nI_le_iff, nI_inj, nI_num, mq_ix, nI_1, h.ob, hw, show rk.length ≤ j by omega, narrow]
      · have a5 : T.1.getD k [] = [] := by simp [List.getD, hkn]
        rw [a5] at hw ⊢
        simp (disch := (first | omega | decide)) [c20, s20_0, s20_1, s20_4, s20_5, s20_6, s20_7, s20_10, s20_13, s20_14, s20_15, s20_18, s20_19, s20_20, s20_23, s20_24, s20_27, s20_28, s20_29, s20_30, s20_33, s20_34, s20_35, s20_36, s20_37, s20_38, s20_39, s20_40, s20_41, s20_44, s20_45, s20_46, s20_49, s20_50, s20_53, s20_54, s20_57, s20_58, s20_61, s20_62, s20_63, mq_k0s, mq_k1s, mq_k2s, mq_k4s, mq_k5s, mq_k5n, mq_k5as, mq_k6s, mj_pu, mj_lo, mj_br, mj_hr, mj_hw, mq_gf, mq_len, mq_al, mq_pf, mq_ok, mj_re, mq_lkm, mq_lkn, mj_ldi, mj_ldl, mj_lda, mj_ii, mj_ll, mj_li, mj_i1, ms_1, ms_2, f1_n, f1_i, f1_r, f1_u, f1_l, f2_n, f2_i, f2_r, f2_u, f2_l, mj_tg, mj_c1, mj_c2, mj_ar, mj_aw, mq_cb, mq_oi, mj_rm, Value.category, -getElem?_pos, List.getElem?_cons_zero, decide_eq_true, decide_eq_false, nl_lt, nl_le, ln_lt, ln_le, nl_eq, ln_eq, nl_add, ln_add, nl_sub, ln_mul, nI_sub, nI_mul, nI_add, nI_lt_iff, nI_le_iff, nI_inj, nI_num, mq_ix, nI_1, h.ob, hw, narrow]
end
/- 46.words -/
section
set_option maxRecDepth 512
/-! Numbers and their bytes. -/
/-- a word as a number without sign -/
def uN (v : Int32) : Nat := v.toBitVec.toNat
def uL (w : Int64) : Nat := w.toBitVec.toNat
theorem uN_lt (v : Int32) : uN v < 2 ^ 32 := v.toBitVec.isLt
theorem uL_lt (w : Int64) : uL w < 2 ^ 64 := w.toBitVec.isLt
theorem uN_nI (n : Nat) : uN (nI n) = n % 2 ^ 32 := by simp [uN, nI]
theorem uL_nL (n : Nat) : uL (nL n) = n % 2 ^ 64 := by simp [uL, nL]
theorem nI_uN (v : Int32) : nI (uN v) = v := by
  apply Int32.toBitVec_inj.mp
  simp [nI, uN]
theorem nL_uL (w : Int64) : nL (uL w) = w := by
  apply Int64.toBitVec_inj.mp
  simp [nL, uL]
theorem uN_inj {a b : Int32} (h : uN a = uN b) : a = b := by rw [← nI_uN a, h, nI_uN]
theorem nI_mod (n : Nat) : nI (n % 2 ^ 32) = nI n := by rw [← uN_nI, nI_uN]
theorem uN_255 (v : Int32) : uN (v &&& 255) = uN v % 256 := by
  simp [uN]
  exact Nat.and_two_pow_sub_one_eq_mod (n := 8) ..
theorem by_uN {v : Int32} (h : v &&& 255 = v) : uN v < 256 := by rw [← h, uN_255]; omega
theorem uN_cl {v : Int32} (h : v &&& 255 = v) : v.toNatClampNeg = uN v := by
  obtain ⟨n, h1, rfl⟩ := by_nI h
  rw [nI_clamp (by omega), uN_nI]; omega
theorem sh_amt : ∀ m : Nat, m < 8 → ((8 : Int32) * nI m).toInt64.toUInt64 &&& Int64.toUInt64 63 = UInt64.ofNat (8 * m) := by decide +kernel
theorem bt_by_nat (w : Int64) {m : Nat} (hm : m < 8) : bt_by w m = nI (uL w / 256 ^ m % 256) := by
  apply uN_inj
  unfold bt_by
  rw [uN_255, uN_nI, sh_amt m hm]
  have e1 : uN ((w.toUInt64 >>> UInt64.ofNat (8 * m)).toInt64.toInt32) = (uL w / 256 ^ m) % 2 ^ 32 := by
    simp only [uN, Int64.toBitVec_toInt32, UInt64.toBitVec_toInt64, UInt64.toBitVec_shiftRight, BitVec.toNat_setWidth, Int64.toBitVec_toUInt64]
    rw [show (UInt64.ofNat (8 * m)).toBitVec % 64 = BitVec.ofNat 64 (8 * m) from by
      apply BitVec.eq_of_toNat_eq
      simp
      omega]
    rw [BitVec.ushiftRight_eq', BitVec.signExtend_eq_setWidth_of_le _ (by decide), BitVec.toNat_setWidth, BitVec.toNat_ushiftRight, Nat.shiftRight_eq_div_pow]
    congr 2
    simp
    rw [Nat.mod_eq_of_lt (by omega), Nat.pow_mul]
  rw [e1]
  omega
theorem bt_low_len (w : Int64) (n : Nat) : (bt_low w n).length = n := by
  induction n with
  | zero => rfl
  | succ n ih => simp [bt_low, ih]
theorem bt_low_by (w : Int64) (n : Nat) : ∀ v ∈ bt_low w n, v &&& 255 = v := by
  induction n with
  | zero => intro v hv; cases hv
  | succ n ih =>
    intro v hv
    rcases List.mem_cons.mp hv with rfl | hv
    · exact bt_255 _
    · exact ih v hv
theorem uL_ls {w : Int64} {v : Int32} (hv : v &&& 255 = v) : uL (bt_ls w v) = (256 * uL w + uN v) % 2 ^ 64 := by
  obtain ⟨b, hb, rfl⟩ := by_nI hv
  unfold bt_ls
  rw [b64 b hb, show (8 : Int32).toInt64 &&& 63 = (8 : Int64) from by decide, uN_nI]
  simp only [uL, Int64.toBitVec_or, Int64.toBitVec_shiftLeft, Int64.toBitVec_ofNat, BitVec.toNat_or]
  rw [show (BitVec.smod (8 : BitVec 64) 64) = 8#64 from by decide, BitVec.shiftLeft_eq', BitVec.toNat_shiftLeft]
  simp
  rw [Nat.mod_eq_of_lt (show b < 18446744073709551616 by omega), Nat.mod_eq_of_lt (show b < 4294967296 by omega), Nat.shiftLeft_eq]
  have h2 : w.toBitVec.toNat * 2 ^ 8 % 18446744073709551616 = ((w.toBitVec.toNat % 72057594037927936) <<< 8) := by rw [Nat.shiftLeft_eq]; omega
  rw [h2, ← Nat.shiftLeft_add_eq_or_of_lt (i := 8) (b := b) (by omega), Nat.shiftLeft_eq]
  omega
theorem bt_low_ls {w : Int64} {v : Int32} (hv : v &&& 255 = v) : ∀ n, n < 8 → bt_low (bt_ls w v) (n + 1) = bt_low w n ++ [v] := by
  intro n
  induction n with
  | zero =>
    intro _
    simp only [bt_low, List.nil_append]
    rw [bt_by_nat _ (by omega), uL_ls hv]
    have := by_uN hv
    congr 1
    apply uN_inj
    rw [uN_nI]
    omega
  | succ n ih =>
    intro hn
    rw [bt_low, ih (by omega)]
    have : bt_by (bt_ls w v) (n + 1) = bt_by w n := by
      rw [bt_by_nat _ (by omega), bt_by_nat _ (by omega), uL_ls hv]
      congr 1
      have h1 := by_uN hv
      have h2 := uL_lt w
      generalize uL w = X at *
      generalize uN v = Y at *
      rcases (show n = 0 ∨ n = 1 ∨ n = 2 ∨ n = 3 ∨ n = 4 ∨ n = 5 ∨ n = 6 by omega) with rfl | rfl | rfl | rfl | rfl | rfl | rfl <;> omega
    rw [this]; rfl
/-- bytes become a number and bytes again -/
theorem bt_lo_low : ∀ (l : List Int32), (∀ v ∈ l, v &&& 255 = v) → l.length ≤ 8 → bt_low (bt_lo l) l.length = l := by
  have key : ∀ (n : Nat) (l : List Int32), l.length = n → (∀ v ∈ l, v &&& 255 = v) → n ≤ 8 → bt_low (bt_lo l) n = l := by
    intro n
    induction n with
    | zero => intro l hl _ _; rw [List.eq_nil_of_length_eq_zero hl]; rfl
    | succ n ih =>
      intro l hl h8 hn
      have hne : l ≠ [] := by intro z; rw [z] at hl; cases hl
      have e := List.dropLast_concat_getLast hne
      have hd : l.dropLast.length = n := by rw [List.length_dropLast]; omega
      have e2 : bt_lo l = bt_ls (bt_lo l.dropLast) (l.getLast hne) := by
        conv => lhs; rw [← e]
        unfold bt_lo
        rw [List.foldl_append]; rfl
      rw [e2, bt_low_ls (h8 _ (List.getLast_mem hne)) n (by omega), ih _ hd (fun v hv => h8 v (List.dropLast_subset _ hv)) (by omega), e]
  intro l h8 hl
  exact key _ l rfl h8 hl
theorem bt_lo_inj {l l' : List Int32} (h : ∀ v ∈ l, v &&& 255 = v) (h' : ∀ v ∈ l', v &&& 255 = v) (hl : l.length ≤ 8) (hll : l.length = l'.length) (e : bt_lo l = bt_lo l') : l = l' := by
  rw [← bt_lo_low l h hl, e, hll, bt_lo_low l' h' (by omega)]
/-- four bytes -/
def b4 (v : Int32) : List Int32 := [nI (uN v / 16777216 % 256), nI (uN v / 65536 % 256), nI (uN v / 256 % 256), nI (uN v % 256)]
theorem uL_toInt64 (v : Int32) : uL v.toInt64 % 2 ^ 32 = uN v := by
  simp only [uL, uN, Int32.toBitVec_toInt64]
  rw [BitVec.toNat_signExtend]
  split <;> simp <;> have := v.toBitVec.isLt <;> omega
theorem b4_low (v : Int32) : bt_low v.toInt64 4 = b4 v := by
  have h := uL_toInt64 v
  simp only [bt_low]
  rw [bt_by_nat _ (by omega), bt_by_nat _ (by omega), bt_by_nat _ (by omega), bt_by_nat _ (by omega)]
  unfold b4
  generalize uL v.toInt64 = X at *
  generalize uN v = Y at *
  have e1 : X / 256 ^ 3 % 256 = Y / 16777216 % 256 := by omega
  have e2 : X / 256 ^ 2 % 256 = Y / 65536 % 256 := by omega
  have e3 : X / 256 ^ 1 % 256 = Y / 256 % 256 := by omega
  have e4 : X / 256 ^ 0 % 256 = Y % 256 := by omega
  rw [e1, e2, e3, e4]
theorem ush_nat (v : Int32) : ∀ k : Nat, k < 32 → uN ((v.toUInt32 >>> (Int32.toUInt32 (nI k) &&& Int32.toUInt32 31)).toInt32) = uN v / 2 ^ k := by
  intro k hk
  have e : Int32.toUInt32 (nI k) &&& Int32.toUInt32 31 = UInt32.ofNat k := by
    have : ∀ k : Nat, k < 32 → Int32.toUInt32 (nI k) &&& Int32.toUInt32 31 = UInt32.ofNat k := by decide +kernel
    exact this k hk
  rw [e]
  simp only [uN, UInt32.toBitVec_toInt32, UInt32.toBitVec_shiftRight, Int32.toBitVec_toUInt32]
  rw [show (UInt32.ofNat k).toBitVec % 32 = BitVec.ofNat 32 k from by
    apply BitVec.eq_of_toNat_eq
    simp
    omega, BitVec.ushiftRight_eq', BitVec.toNat_ushiftRight, Nat.shiftRight_eq_div_pow]
  congr 2
  simp
  omega
theorem b4_4 (v : Int32) : bt_4 v = b4 v := by
  have e : ∀ k, k < 32 → (v.toUInt32 >>> (Int32.toUInt32 (nI k) &&& Int32.toUInt32 31)).toInt32 &&& 255 = nI (uN v / 2 ^ k % 256) := by
    intro k hk
    apply uN_inj
    rw [uN_255, ush_nat v k hk, uN_nI]
    omega
  have h0 := e 0 (by omega)
  simp only [Nat.pow_zero, Nat.div_one] at h0
  have h24 := e 24 (by omega)
  have h16 := e 16 (by omega)
  have h8 := e 8 (by omega)
  show [_, _, _, _] = [_, _, _, _]
  rw [show (24 : Int32) = nI 24 from rfl, show (16 : Int32) = nI 16 from rfl, show (8 : Int32) = nI 8 from rfl, show (0 : Int32) = nI 0 from rfl, h24, h16, h8, h0]
theorem b4_by (v : Int32) : ∀ x ∈ b4 v, x &&& 255 = x := by rw [← b4_low]; exact bt_low_by _ _
theorem b4_len (v : Int32) : (b4 v).length = 4 := rfl
/-- four bytes as a number -/
def w4 (l : List Int32) : Int32 := nI (bn l)
theorem w4_lo (l : List Int32) (h : ∀ v ∈ l, v &&& 255 = v) (hl : l.length ≤ 7) : (bt_lo l).toInt32 = w4 l := by
  rw [bt_lo_nat l h hl, i64_i]; rfl
theorem w4_b4 (v : Int32) : w4 (b4 v) = v := by
  have hb : ∀ n : Nat, (nI (n % 256)).toNatClampNeg = n % 256 := fun n => nI_clamp (by omega)
  unfold w4 b4 bn
  simp only [List.foldl_cons, List.foldl_nil, hb]
  rw [show 256 * (256 * (256 * (256 * 0 + uN v / 16777216 % 256) + uN v / 65536 % 256) + uN v / 256 % 256) + uN v % 256 = uN v from by have := uN_lt v; omega, nI_uN]
theorem b4_w4 {l : List Int32} (h : ∀ v ∈ l, v &&& 255 = v) (hl : l.length = 4) : b4 (w4 l) = l := by
  have e := bt_lo_low l h (by omega)
  rw [hl] at e
  have e2 := b4_low (w4 l)
  rw [← e2, ← w4_lo l h (by omega)]
  conv => rhs; rw [← e]
  rw [bt_lo_nat l h (by omega), i64_i]
  have hb := bn_lt l h
  rw [hl] at hb
  have key : ∀ m, m < 4 → bt_by (nI (bn l)).toInt64 m = bt_by (Int64.ofNat (bn l)) m := by
    intro m hm
    rw [bt_by_nat _ (by omega), bt_by_nat _ (by omega)]
    have h1 := uL_toInt64 (nI (bn l))
    rw [uN_nI] at h1
    have h2 : uL (Int64.ofNat (bn l)) = bn l := by rw [show Int64.ofNat (bn l) = nL (bn l) from rfl, uL_nL]; omega
    rw [h2]
    congr 1
    generalize uL (nI (bn l)).toInt64 = X at *
    rcases (show m = 0 ∨ m = 1 ∨ m = 2 ∨ m = 3 by omega) with rfl | rfl | rfl | rfl <;> omega
  simp only [bt_low]
  rw [key 3 (by omega), key 2 (by omega), key 1 (by omega), key 0 (by omega)]
end
/- 51.terms2 -/
section
set_option maxRecDepth 512
/-! Class: Terms, the search. -/
theorem tb_hs_take {row : List Int32} {j : Nat} (h : j < row.length) : tb_hs (row.take (j + 1)) = 31 * tb_hs (row.take j) + row[j] := by
  unfold tb_hs
  rw [List.take_succ_eq_append_getElem h, List.foldl_append]; rfl
theorem l_bucket {d p e o : Nat} {T : Tm} {row : List Int32} {M : mj_H} (h : tt M p e o T row) : ∀ (m j : Nat), j + m = row.length → mj_Rn d mj_m32 5 [(2, .int (nI j)), (1, .int (tb_hs (row.take j))), (0, .ref 30)] [] M = some (some (.int (nI (tb_bk row))), M) := by
  obtain ⟨g, h2, hg⟩ := h.rw
  have hw := h.wid
  intro m
  induction m with
  | zero =>
    intro j hj
    have e1 : row.take j = row := List.take_of_length_le (by omega)
    rw [e1]
    simp (disch := (first | omega | decide)) [s32_0, s32_2, s32_3, s32_4, s32_5, s32_6, s32_7, s32_10, s32_13, s32_14, s32_15, s32_18, s32_19, s32_22, s32_24, s32_25, s32_26, s32_27, s32_30, s32_31, s32_32, s32_33, s32_34, s32_37, s32_40, s32_41, s32_42, s32_44, s32_45, s32_46, s32_49, s32_50, mq_k0s, mq_k1s, mq_k2s, mq_k4s, mq_k5s, mq_k5n, mq_k5as, mq_k6s, mj_pu, mj_lo, mj_br, mj_hr, mj_hw, mq_gf, mq_len, mq_al, mq_pf, mq_ok, mj_re, mq_lkm, mq_lkn, mj_ldi, mj_ldl, mj_lda, mj_ii, mj_ll, mj_li, mj_i1, ms_1, ms_2, f1_n, f1_i, f1_r, f1_u, f1_l, f2_n, f2_i, f2_r, f2_u, f2_l, mj_tg, mj_c1, mj_c2, mj_ar, mj_aw, mq_cb, mq_oi, mj_rm, Value.category, -getElem?_pos, List.getElem?_cons_zero, decide_eq_true, decide_eq_false, nl_lt, nl_le, ln_lt, ln_le, nl_eq, ln_eq, nl_add, ln_add, nl_sub, ln_mul, nI_sub, nI_mul, nI_add, nI_lt_iff, nI_le_iff, nI_inj, nI_num, mq_ix, nI_1, h.ob, tb_bk_eq, narrow]
  | succ m ih =>
    intro j hj
    have r := ih (j + 1) (by omega)
    have hjl : j < row.length := by omega
    rw [tb_hs_take hjl] at r
    have b1 : ((row ++ g).map Value.int)[j]? = some (.int row[j]) := by rw [List.getElem?_map, List.getElem?_append_left hjl, List.getElem?_eq_getElem hjl]; rfl
    have b2 : ((row ++ g).map Value.int).length = 410 := by rw [List.length_map, hg]
    generalize (row ++ g).map Value.int = zs at *
    generalize row[j] = u at *
    rw [s32_5]
    simp (disch := (first | omega | decide)) [s32_0, s32_2, s32_3, s32_4, s32_6, s32_7, s32_10, s32_13, s32_14, s32_15, s32_18, s32_19, s32_22, s32_24, s32_25, s32_26, s32_27, s32_30, s32_31, s32_32, s32_33, s32_34, s32_37, s32_40, s32_41, s32_42, s32_44, s32_45, s32_46, s32_49, s32_50, mq_k0s, mq_k1s, mq_k2s, mq_k4s, mq_k5s, mq_k5n, mq_k5as, mq_k6s, mj_pu, mj_lo, mj_br, mj_hr, mj_hw, mq_gf, mq_len, mq_al, mq_pf, mq_ok, mj_re, mq_lkm, mq_lkn, mj_ldi, mj_ldl, mj_lda, mj_ii, mj_ll, mj_li, mj_i1, ms_1, ms_2, f1_n, f1_i, f1_r, f1_u, f1_l, f2_n, f2_i, f2_r, f2_u, f2_l, mj_tg, mj_c1, mj_c2, mj_ar, mj_aw, mq_cb, mq_oi, mj_rm, Value.category, -getElem?_pos, List.getElem?_cons_zero, decide_eq_true, decide_eq_false, nl_lt, nl_le, ln_lt, ln_le, nl_eq, ln_eq, nl_add, ln_add, nl_sub, ln_mul, nI_sub, nI_mul, nI_add, nI_lt_iff, nI_le_iff, nI_inj, nI_num, mq_ix, nI_1, h.ob, h2, b1, b2]
    exact r
theorem t_bucket {d p e o : Nat} {T : Tm} {row : List Int32} {M : mj_H} (h : tt M p e o T row) : mj_V (d + 1) 32 [.ref 30] M = some (some (.int (nI (tb_bk row))), M) := by
  have r := l_bucket (d := d) h row.length 0 (by omega)
  simp [tb_hs, nI_0] at r
  simp [c32, s32_0, s32_2, s32_3, s32_4, mq_k0s, mq_k1s, mq_k2s, mq_k4s, mq_k5s, mq_k5n, mq_k5as, mq_k6s, mj_pu, mj_lo, mj_br, mj_hr, mj_hw, mq_gf, mq_len, mq_al, mq_pf, mq_ok, mj_re, mj_lk, mj_ldi, mj_ldl, mj_lda, mj_ii, mj_ll, mj_li, mj_i1, mj_s1, mj_s2, mj_tg, mj_c1, mj_c2, mj_ar, mj_aw, mq_cb, mq_oi, mj_rm, Value.category]
  exact r
theorem l_isRow {d p e o : Nat} {T : Tm} {row : List Int32} {M : mj_H} (h : tt M p e o T row) {k : Nat} (hk : k < T.1.length) (hw : T.1[k].length = row.length) : ∀ (m j : Nat), j + m = row.length →
    mj_Rn d mj_m33 49 [(3, .int (nI j)), (2, .int (nI (tm_end T.1 k))), (0, .ref 30), (1, .int (nI (k + 1)))] [] M = some (some (.int (if T.1[k].drop j = row.drop j then 1 else 0)), M) := by
  obtain ⟨g, h2, hg⟩ := h.rw
  obtain ⟨f, g1, g2, g3⟩ := h.tbl.po
  have few := h.tbl.few
  have hwd := h.wid
  have a4 : tm_end T.1 k ≤ 410 * k := tm_end_b (fun r hr => (h.tbl.wide r hr).2) k
  intro m
  induction m with
  | zero =>
    intro j hj
    have e1 : row.drop j = [] := List.drop_eq_nil_of_le (by omega)
    have e2 : T.1[k].drop j = [] := List.drop_eq_nil_of_le (by omega)
    rw [e1, e2, if_pos rfl]
    simp (disch := (first | omega | decide)) [s33_0, s33_1, s33_2, s33_5, s33_6, s33_7, s33_10, s33_11, s33_14, s33_15, s33_18, s33_19, s33_20, s33_21, s33_24, s33_25, s33_26, s33_27, s33_28, s33_29, s33_30, s33_33, s33_36, s33_37, s33_38, s33_39, s33_42, s33_43, s33_44, s33_45, s33_46, s33_47, s33_48, s33_49, s33_50, s33_51, s33_54, s33_57, s33_58, s33_59, s33_60, s33_62, s33_63, s33_64, s33_67, s33_68, s33_71, s33_73, s33_76, s33_78, s33_79, s33_82, s33_83, s33_86, s33_87, s33_90, s33_92, s33_93, s33_94, s33_97, s33_98, s33_99, s33_102, s33_103, s33_104, s33_107, s33_110, s33_111, mq_k0s, mq_k1s, mq_k2s, mq_k4s, mq_k5s, mq_k5n, mq_k5as, mq_k6s, mj_pu, mj_lo, mj_br, mj_hr, mj_hw, mq_gf, mq_len, mq_al, mq_pf, mq_ok, mj_re, mq_lkm, mq_lkn, mj_ldi, mj_ldl, mj_lda, mj_ii, mj_ll, mj_li, mj_i1, ms_1, ms_2, f1_n, f1_i, f1_r, f1_u, f1_l, f2_n, f2_i, f2_r, f2_u, f2_l, mj_tg, mj_c1, mj_c2, mj_ar, mj_aw, mq_cb, mq_oi, mj_rm, Value.category, -getElem?_pos, List.getElem?_cons_zero, decide_eq_true, decide_eq_false, nl_lt, nl_le, ln_lt, ln_le, nl_eq, ln_eq, nl_add, ln_add, nl_sub, ln_mul, nI_sub, nI_mul, nI_add, nI_lt_iff, nI_le_iff, nI_inj, nI_num, mq_ix, nI_1, h.ob, narrow_b1]
  | succ m ih =>
    intro j hj
    have r := ih (j + 1) (by omega)
    have hjl : j < row.length := by omega
    have hjk : j < T.1[k].length := by omega
    have b1 : ((row ++ g).map Value.int)[j]? = some (.int row[j]) := by rw [List.getElem?_map, List.getElem?_append_left hjl, List.getElem?_eq_getElem hjl]; rfl
    have b2 : ((row ++ g).map Value.int).length = 410 := by rw [List.length_map, hg]
    have a7 := tm_flat hk hjk
    have a8 : tm_end T.1 k + j < (T.1.flatten ++ f).length := by
      have := (List.getElem?_eq_some_iff.mp a7).1
      simp only [List.length_append]; omega
    have b3 : ((T.1.flatten ++ f).map Value.int)[tm_end T.1 k + j]? = some (.int T.1[k][j]) := by
      rw [List.getElem?_map, List.getElem?_append_left (List.getElem?_eq_some_iff.mp a7).1, a7]; rfl
    have b4 : ((T.1.flatten ++ f).map Value.int).length = (T.1.flatten ++ f).length := List.length_map ..
    have e1 : T.1[k].drop j = T.1[k][j] :: T.1[k].drop (j + 1) := List.drop_eq_getElem_cons hjk
    have e2 : row.drop j = row[j] :: row.drop (j + 1) := List.drop_eq_getElem_cons hjl
    rw [e1, e2]
    generalize T.1[k][j] = u at *
    generalize row[j] = v at *
    generalize (row ++ g).map Value.int = zs at *
    generalize (T.1.flatten ++ f).map Value.int = ws at *
    generalize (T.1.flatten ++ f).length = wl at *
    rw [s33_49]
    by_cases huv : u = v
    · subst huv
      simp (disch := (first | omega | decide)) [s33_0, s33_1, s33_2, s33_5, s33_6, s33_7, s33_10, s33_11, s33_14, s33_15, s33_18, s33_19, s33_20, s33_21, s33_24, s33_25, s33_26, s33_27, s33_28, s33_29, s33_30, s33_33, s33_36, s33_37, s33_38, s33_39, s33_42, s33_43, s33_44, s33_45, s33_46, s33_47, s33_48, s33_50, s33_51, s33_54, s33_57, s33_58, s33_59, s33_60, s33_62, s33_63, s33_64, s33_67, s33_68, s33_71, s33_73, s33_76, s33_78, s33_79, s33_82, s33_83, s33_86, s33_87, s33_90, s33_92, s33_93, s33_94, s33_97, s33_98, s33_99, s33_102, s33_103, s33_104, s33_107, s33_110, s33_111, mq_k0s, mq_k1s, mq_k2s, mq_k4s, mq_k5s, mq_k5n, mq_k5as, mq_k6s, mj_pu, mj_lo, mj_br, mj_hr, mj_hw, mq_gf, mq_len, mq_al, mq_pf, mq_ok, mj_re, mq_lkm, mq_lkn, mj_ldi, mj_ldl, mj_lda, mj_ii, mj_ll, mj_li, mj_i1, ms_1, ms_2, f1_n, f1_i, f1_r, f1_u, f1_l, f2_n, f2_i, f2_r, f2_u, f2_l, mj_tg, mj_c1, mj_c2, mj_ar, mj_aw, mq_cb, mq_oi, mj_rm, Value.category, -getElem?_pos, List.getElem?_cons_zero, decide_eq_true, decide_eq_false, nl_lt, nl_le, ln_lt, ln_le, nl_eq, ln_eq, nl_add, ln_add, nl_sub, ln_mul, nI_sub, nI_mul, nI_add, nI_lt_iff, nI_le_iff, nI_inj, nI_num, mq_ix, nI_1, h.ob, h2, g1, b1, b2, b3, b4]
      refine mq_wk ?_ r
      simp [mq_sub, mj_lk]
    · simp (disch := (first | omega | decide)) [s33_0, s33_1, s33_2, s33_5, s33_6, s33_7, s33_10, s33_11, s33_14, s33_15, s33_18, s33_19, s33_20, s33_21, s33_24, s33_25, s33_26, s33_27, s33_28, s33_29, s33_30, s33_33, s33_36, s33_37, s33_38, s33_39, s33_42, s33_43, s33_44, s33_45, s33_46, s33_47, s33_48, s33_50, s33_51, s33_54, s33_57, s33_58, s33_59, s33_60, s33_62, s33_63, s33_64, s33_67, s33_68, s33_71, s33_73, s33_76, s33_78, s33_79, s33_82, s33_83, s33_86, s33_87, s33_90, s33_92, s33_93, s33_94, s33_97, s33_98, s33_99, s33_102, s33_103, s33_104, s33_107, s33_110, s33_111, mq_k0s, mq_k1s, mq_k2s, mq_k4s, mq_k5s, mq_k5n, mq_k5as, mq_k6s, mj_pu, mj_lo, mj_br, mj_hr, mj_hw, mq_gf, mq_len, mq_al, mq_pf, mq_ok, mj_re, mq_lkm, mq_lkn, mj_ldi, mj_ldl, mj_lda, mj_ii, mj_ll, mj_li, mj_i1, ms_1, ms_2, f1_n, f1_i, f1_r, f1_u, f1_l, f2_n, f2_i, f2_r, f2_u, f2_l, mj_tg, mj_c1, mj_c2, mj_ar, mj_aw, mq_cb, mq_oi, mj_rm, Value.category, -getElem?_pos, List.getElem?_cons_zero, decide_eq_true, decide_eq_false, nl_lt, nl_le, ln_lt, ln_le, nl_eq, ln_eq, nl_add, ln_add, nl_sub, ln_mul, nI_sub, nI_mul, nI_add, nI_lt_iff, nI_le_iff, nI_inj, nI_num, mq_ix, nI_1, h.ob, h2, g1, b1, b2, b3, b4, huv, narrow_b0]
theorem t_isRow {d p e o : Nat} {T : Tm} {row : List Int32} {M : mj_H} (h : tt M p e o T row) {k : Nat} (hk : k < T.1.length) : mj_V (d + 1) 33 [.ref 30, .int (nI (k + 1))] M = some (some (.int (if T.1[k]? = some row then 1 else 0)), M) := by
  obtain ⟨E, e1, e2, e3, e4, e5⟩ := h.tbl.en
  have few := h.tbl.few
  have hwd := h.wid
  have a1 := e5 (k + 1) (by omega)
  have a2 := e5 k (by omega)
  have a3 := tm_end_s hk
  have a4 : tm_end T.1 k ≤ 410 * k := tm_end_b (fun r hr => (h.tbl.wide r hr).2) k
  have a6 := (h.tbl.wide _ (List.getElem_mem hk)).2
  rw [List.getElem?_eq_getElem hk]
  rw [a3] at a1
  have b1 : (E.map Value.int)[k + 1]? = some (.int (nI (tm_end T.1 k + T.1[k].length))) := by rw [List.getElem?_map, a1]; rfl
  have b2 : (E.map Value.int)[k]? = some (.int (nI (tm_end T.1 k))) := by rw [List.getElem?_map, a2]; rfl
  have b3 : (E.map Value.int).length = E.length := List.length_map ..
  generalize E.map Value.int = zs at *
  by_cases hw : T.1[k].length = row.length
  · have r := l_isRow (d := d) h hk hw row.length 0 (by omega)
    simp only [List.drop_zero, nI_0] at r
    simp only [Option.some.injEq]
    generalize T.1[k] = rk at *
    simp (disch := (first | omega | decide)) [c33, s33_0, s33_1, s33_2, s33_5, s33_6, s33_7, s33_10, s33_11, s33_14, s33_15, s33_18, s33_19, s33_20, s33_21, s33_24, s33_25, s33_26, s33_27, s33_28, s33_29, s33_30, s33_33, s33_36, s33_37, s33_38, s33_39, s33_42, s33_43, s33_44, s33_45, s33_46, s33_47, s33_48, s33_50, s33_51, s33_54, s33_57, s33_58, s33_59, s33_60, s33_62, s33_63, s33_64, s33_67, s33_68, s33_71, s33_73, s33_76, s33_78, s33_79, s33_82, s33_83, s33_86, s33_87, s33_90, s33_92, s33_93, s33_94, s33_97, s33_98, s33_99, s33_102, s33_103, s33_104, s33_107, s33_110, s33_111, mq_k0s, mq_k1s, mq_k2s, mq_k4s, mq_k5s, mq_k5n, mq_k5as, mq_k6s, mj_pu, mj_lo, mj_br, mj_hr, mj_hw, mq_gf, mq_len, mq_al, mq_pf, mq_ok, mj_re, mq_lkm, mq_lkn, mj_ldi, mj_ldl, mj_lda, mj_ii, mj_ll, mj_li, mj_i1, ms_1, ms_2, f1_n, f1_i, f1_r, f1_u, f1_l, f2_n, f2_i, f2_r, f2_u, f2_l, mj_tg, mj_c1, mj_c2, mj_ar, mj_aw, mq_cb, mq_oi, mj_rm, Value.category, -getElem?_pos, List.getElem?_cons_zero, decide_eq_true, decide_eq_false, nl_lt, nl_le, ln_lt, ln_le, nl_eq, ln_eq, nl_add, ln_add, nl_sub, ln_mul, nI_sub, nI_mul, nI_add, nI_lt_iff, nI_le_iff, nI_inj, nI_num, mq_ix, nI_1, h.ob, e1, b1, b2, b3, hw]
    refine mq_wk ?_ r
    simp [mq_sub, mj_lk]
  · have : ¬ T.1[k] = row := fun z => hw (by rw [z])
    simp only [Option.some.injEq, if_neg this]
    generalize T.1[k] = rk at *
    simp (disch := (first | omega | decide)) [c33, s33_0, s33_1, s33_2, s33_5, s33_6, s33_7, s33_10, s33_11, s33_14, s33_15, s33_18, s33_19, s33_20, s33_21, s33_24, s33_25, s33_26, s33_27, s33_28, s33_29, s33_30, s33_33, s33_36, s33_37, s33_38, s33_39, s33_42, s33_43, s33_44, s33_45, s33_46, s33_47, s33_48, s33_50, s33_51, s33_54, s33_57, s33_58, s33_59, s33_60, s33_62, s33_63, s33_64, s33_67, s33_68, s33_71, s33_73, s33_76, s33_78, s33_79, s33_82, s33_83, s33_86, s33_87, s33_90, s33_92, s33_93, s33_94, s33_97, s33_98, s33_99, s33_102, s33_103, s33_104, s33_107, s33_110, s33_111, mq_k0s, mq_k1s, mq_k2s, mq_k4s, mq_k5s, mq_k5n, mq_k5as, mq_k6s, mj_pu, mj_lo, mj_br, mj_hr, mj_hw, mq_gf, mq_len, mq_al, mq_pf, mq_ok, mj_re, mq_lkm, mq_lkn, mj_ldi, mj_ldl, mj_lda, mj_ii, mj_ll, mj_li, mj_i1, ms_1, ms_2, f1_n, f1_i, f1_r, f1_u, f1_l, f2_n, f2_i, f2_r, f2_u, f2_l, mj_tg, mj_c1, mj_c2, mj_ar, mj_aw, mq_cb, mq_oi, mj_rm, Value.category, -getElem?_pos, List.getElem?_cons_zero, decide_eq_true, decide_eq_false, nl_lt, nl_le, ln_lt, ln_le, nl_eq, ln_eq, nl_add, ln_add, nl_sub, ln_mul, nI_sub, nI_mul, nI_add, nI_lt_iff, nI_le_iff, nI_inj, nI_num, mq_ix, nI_1, h.ob, e1, b1, b2, b3, hw, narrow_b0]
theorem tm_last_b {rows : List (List Int32)} {row : List Int32} (bk : List Int32 → Nat) (t : Nat) : tm_prev bk rows (bk row) t = 0 → tm_last rows row t = 0 := by
  induction t with
  | zero => intro _; rfl
  | succ t ih =>
    unfold tm_prev tm_last
    by_cases hb : (rows[t]?).map bk = some (bk row)
    · rw [if_pos hb]; omega
    · rw [if_neg hb]
      intro h
      rw [if_neg (fun z => hb (by rw [z]; rfl)), ih h]
theorem tm_prev_le (bk : List Int32 → Nat) (rows : List (List Int32)) (b t : Nat) : tm_prev bk rows b t ≤ t := by
  induction t with
  | zero => simp [tm_prev]
  | succ t ih => unfold tm_prev; split <;> omega
theorem l_known {d p e o : Nat} {T : Tm} {row : List Int32} {M : mj_H} (h : tt M p e o T row) {bk : Int32} : ∀ (t s : Nat), t ≤ T.1.length → s + t ≤ 1000 →
    mj_Rn (d + 1) mj_m31 31 [(3, .int (nI s)), (2, .int (nI (tm_prev tb_bk T.1 (tb_bk row) t))), (1, .int bk), (0, .ref 30)] [] M = some (some (.int (nI (tm_last T.1 row t))), M) := by
  obtain ⟨E, e1, e2, e3, e4, e5⟩ := h.tbl.en
  obtain ⟨O, o1, o2, o3⟩ := h.tbl.ol
  rw [e1] at o2
  have o2 : O.length = E.length := by simpa using o2
  intro t
  induction t with
  | zero =>
    intro s _ _
    simp (disch := (first | omega | decide)) [tm_prev, tm_last, s31_0, s31_1, s31_4, s31_5, s31_6, s31_9, s31_10, s31_11, s31_14, s31_15, s31_18, s31_19, s31_22, s31_23, s31_26, s31_27, s31_28, s31_29, s31_30, s31_31, s31_32, s31_35, s31_36, s31_37, s31_40, s31_41, s31_44, s31_45, s31_48, s31_51, s31_52, s31_53, s31_56, s31_59, s31_60, s31_61, s31_62, s31_65, s31_66, s31_67, s31_68, s31_71, s31_74, s31_75, mq_k0s, mq_k1s, mq_k2s, mq_k4s, mq_k5s, mq_k5n, mq_k5as, mq_k6s, mj_pu, mj_lo, mj_br, mj_hr, mj_hw, mq_gf, mq_len, mq_al, mq_pf, mq_ok, mj_re, mq_lkm, mq_lkn, mj_ldi, mj_ldl, mj_lda, mj_ii, mj_ll, mj_li, mj_i1, ms_1, ms_2, f1_n, f1_i, f1_r, f1_u, f1_l, f2_n, f2_i, f2_r, f2_u, f2_l, mj_tg, mj_c1, mj_c2, mj_ar, mj_aw, mq_cb, mq_oi, mj_rm, Value.category, -getElem?_pos, List.getElem?_cons_zero, decide_eq_true, decide_eq_false, nl_lt, nl_le, ln_lt, ln_le, nl_eq, ln_eq, nl_add, ln_add, nl_sub, ln_mul, nI_sub, nI_mul, nI_add, nI_lt_iff, nI_le_iff, nI_inj, nI_num, mq_ix, nI_1, nI_0, narrow]
  | succ t ih =>
    intro s ht hs
    have htl : t < T.1.length := by omega
    unfold tm_prev tm_last
    by_cases hb : (T.1[t]?).map tb_bk = some (tb_bk row)
    · rw [if_pos hb]
      have r := ih (s + 1) (by omega) (by omega)
      have hr := t_isRow (d := d) h htl
      have b1 := o3 t htl
      have hb' : tb_bk T.1[t] = tb_bk row := by
        rw [List.getElem?_eq_getElem htl] at hb
        exact Option.some.inj hb
      rw [hb'] at b1
      have b2 : (O.map Value.int)[t + 1]? = some (.int (nI (tm_prev tb_bk T.1 (tb_bk row) t))) := by rw [List.getElem?_map, b1]; rfl
      have b3 : (O.map Value.int).length = E.length := by rw [List.length_map, o2]
      generalize O.map Value.int = zs at *
      rw [s31_31]
      by_cases hrow : T.1[t]? = some row
      · rw [if_pos hrow] at hr ⊢
        simp (disch := (first | omega | decide)) [s31_0, s31_1, s31_4, s31_5, s31_6, s31_9, s31_10, s31_11, s31_14, s31_15, s31_18, s31_19, s31_22, s31_23, s31_26, s31_27, s31_28, s31_29, s31_30, s31_32, s31_35, s31_36, s31_37, s31_40, s31_41, s31_44, s31_45, s31_48, s31_51, s31_52, s31_53, s31_56, s31_59, s31_60, s31_61, s31_62, s31_65, s31_66, s31_67, s31_68, s31_71, s31_74, s31_75, mq_k0s, mq_k1s, mq_k2s, mq_k4s, mq_k5s, mq_k5n, mq_k5as, mq_k6s, mj_pu, mj_lo, mj_br, mj_hr, mj_hw, mq_gf, mq_len, mq_al, mq_pf, mq_ok, mj_re, mq_lkm, mq_lkn, mj_ldi, mj_ldl, mj_lda, mj_ii, mj_ll, mj_li, mj_i1, ms_1, ms_2, f1_n, f1_i, f1_r, f1_u, f1_l, f2_n, f2_i, f2_r, f2_u, f2_l, mj_tg, mj_c1, mj_c2, mj_ar, mj_aw, mq_cb, mq_oi, mj_rm, Value.category, -getElem?_pos, List.getElem?_cons_zero, decide_eq_true, decide_eq_false, nl_lt, nl_le, ln_lt, ln_le, nl_eq, ln_eq, nl_add, ln_add, nl_sub, ln_mul, nI_sub, nI_mul, nI_add, nI_lt_iff, nI_le_iff, nI_inj, nI_num, mq_ix, nI_1, h.ob, o1, b2, b3, hr, narrow]
      · rw [if_neg hrow] at hr ⊢
        simp (disch := (first | omega | decide)) [s31_0, s31_1, s31_4, s31_5, s31_6, s31_9, s31_10, s31_11, s31_14, s31_15, s31_18, s31_19, s31_22, s31_23, s31_26, s31_27, s31_28, s31_29, s31_30, s31_32, s31_35, s31_36, s31_37, s31_40, s31_41, s31_44, s31_45, s31_48, s31_51, s31_52, s31_53, s31_56, s31_59, s31_60, s31_61, s31_62, s31_65, s31_66, s31_67, s31_68, s31_71, s31_74, s31_75, mq_k0s, mq_k1s, mq_k2s, mq_k4s, mq_k5s, mq_k5n, mq_k5as, mq_k6s, mj_pu, mj_lo, mj_br, mj_hr, mj_hw, mq_gf, mq_len, mq_al, mq_pf, mq_ok, mj_re, mq_lkm, mq_lkn, mj_ldi, mj_ldl, mj_lda, mj_ii, mj_ll, mj_li, mj_i1, ms_1, ms_2, f1_n, f1_i, f1_r, f1_u, f1_l, f2_n, f2_i, f2_r, f2_u, f2_l, mj_tg, mj_c1, mj_c2, mj_ar, mj_aw, mq_cb, mq_oi, mj_rm, Value.category, -getElem?_pos, List.getElem?_cons_zero, decide_eq_true, decide_eq_false, nl_lt, nl_le, ln_lt, ln_le, nl_eq, ln_eq, nl_add, ln_add, nl_sub, ln_mul, nI_sub, nI_mul, nI_add, nI_lt_iff, nI_le_iff, nI_inj, nI_num, mq_ix, nI_1, h.ob, o1, b2, b3, hr]
        refine mq_wk ?_ r
        simp [mq_sub, mj_lk]
    · rw [if_neg hb]
      rw [if_neg (fun z => hb (by rw [z]; rfl))]
      exact ih s (by omega) (by omega)
theorem tc_known {d p e o : Nat} {T : Tm} {row : List Int32} {M : mj_H} (h : tt M p e o T row) : mj_V (d + 2) 31 [.ref 30] M = some (some (.int (nI (tm_ix T.1 row))), M) := by
  obtain ⟨L, l1, l2, l3⟩ := h.tbl.la
  have hb := tb_bk_lt row
  have few := h.tbl.few
  have r := l_known (d := d) h (bk := nI (tb_bk row)) T.1.length 0 (by omega) (by omega)
  have hk := t_bucket (d := d) h
  have b1 : (L.map Value.int)[tb_bk row]? = some (.int (nI (tm_prev tb_bk T.1 (tb_bk row) T.1.length))) := by rw [List.getElem?_map, l3 _ hb]; rfl
  have b3 : (L.map Value.int).length = 1024 := by rw [List.length_map, l2]
  generalize L.map Value.int = zs at *
  rw [nI_0] at r
  simp (disch := (first | omega | decide)) [c31, s31_0, s31_1, s31_4, s31_5, s31_6, s31_9, s31_10, s31_11, s31_14, s31_15, s31_18, s31_19, s31_22, s31_23, s31_26, s31_27, s31_28, s31_29, s31_30, s31_32, s31_35, s31_36, s31_37, s31_40, s31_41, s31_44, s31_45, s31_48, s31_51, s31_52, s31_53, s31_56, s31_59, s31_60, s31_61, s31_62, s31_65, s31_66, s31_67, s31_68, s31_71, s31_74, s31_75, mq_k0s, mq_k1s, mq_k2s, mq_k4s, mq_k5s, mq_k5n, mq_k5as, mq_k6s, mj_pu, mj_lo, mj_br, mj_hr, mj_hw, mq_gf, mq_len, mq_al, mq_pf, mq_ok, mj_re, mq_lkm, mq_lkn, mj_ldi, mj_ldl, mj_lda, mj_ii, mj_ll, mj_li, mj_i1, ms_1, ms_2, f1_n, f1_i, f1_r, f1_u, f1_l, f2_n, f2_i, f2_r, f2_u, f2_l, mj_tg, mj_c1, mj_c2, mj_ar, mj_aw, mq_cb, mq_oi, mj_rm, Value.category, -getElem?_pos, List.getElem?_cons_zero, decide_eq_true, decide_eq_false, nl_lt, nl_le, ln_lt, ln_le, nl_eq, ln_eq, nl_add, ln_add, nl_sub, ln_mul, nI_sub, nI_mul, nI_add, nI_lt_iff, nI_le_iff, nI_inj, nI_num, mq_ix, nI_1, h.ob, l1, b1, b3, hk]
  exact r
theorem tm_last_le (rows : List (List Int32)) (row : List Int32) (t : Nat) : tm_last rows row t ≤ t := by
  induction t with
  | zero => simp [tm_last]
  | succ t ih => unfold tm_last; split <;> omega
theorem tm_ix_le (rows : List (List Int32)) (row : List Int32) : tm_ix rows row ≤ rows.length := tm_last_le ..
end
/- 52.terms3 -/
section
set_option maxRecDepth 512
/-! Class: Terms, a new row. -/
/- 27 PasskeyHouse$Terms.freshTerm()I -/
theorem s27_0 {d : Nat} {ls : mj_L} {st : List Value} {M : mj_H} : mj_Rn d mj_m27 0 ls st M = mq_k0 d mj_m27 1 ls M (mj_lda (mj_lk ls 0) st) := mj_R0 (r := (.aload_n 0, 1, 0, 0, 0)) rfl rfl
theorem s27_1 {d : Nat} {ls : mj_L} {st : List Value} {M : mj_H} : mj_Rn d mj_m27 1 ls st M = mj_Rn d mj_m27 2 ls (.int 1 :: st) M := mj_R0 (r := (.iconst 1, 1, 0, 0, 0)) rfl rfl
theorem s27_2 {d : Nat} {ls : mj_L} {st : List Value} {M : mj_H} : mj_Rn (d + 1) mj_m27 2 ls st M = mq_k5a (d + 1) mj_m27 5 ls M 28 (mq_cb 0 1 9 st M) := mj_R5e (r := (.invokevirtual 44, 3, 0, 28, 8357)) (z := mj_m28) rfl rfl (by decide) (by decide) rfl
theorem s27_5 {d : Nat} {ls : mj_L} {st : List Value} {M : mj_H} : mj_Rn d mj_m27 5 ls st M = mq_k0 d mj_m27 6 ls M (mj_lda (mj_lk ls 0) st) := mj_R0 (r := (.aload_n 0, 1, 0, 0, 0)) rfl rfl
theorem s27_6 {d : Nat} {ls : mj_L} {st : List Value} {M : mj_H} : mj_Rn d mj_m27 6 ls st M = mq_k0 d mj_m27 7 ls M (mj_lda (mj_lk ls 0) st) := mj_R0 (r := (.aload_n 0, 1, 0, 0, 0)) rfl rfl
theorem s27_7 {d : Nat} {ls : mj_L} {st : List Value} {M : mj_H} : mj_Rn d mj_m27 7 ls st M = mq_k0 d mj_m27 10 ls M (mq_gf 9 7 st M) := (mj_R3 (r := (.getfield 34, 3, 9, 7, 8308)) rfl rfl).trans (congrArg (mq_k0 d mj_m27 10 ls M) mq_gf_eq)
theorem s27_10 {d : Nat} {ls : mj_L} {st : List Value} {M : mj_H} : mj_Rn (d + 1) mj_m27 10 ls st M = mq_k5a (d + 1) mj_m27 13 ls M 29 (mq_cb 0 1 9 st M) := mj_R5e (r := (.invokevirtual 40, 3, 0, 29, 8361)) (z := mj_m29) rfl rfl (by decide) (by decide) rfl
theorem s27_13 {d : Nat} {ls : mj_L} {st : List Value} {M : mj_H} : mj_Rn d mj_m27 13 ls st M = mq_k0 d mj_m27 14 ls M (mj_lda (mj_lk ls 0) st) := mj_R0 (r := (.aload_n 0, 1, 0, 0, 0)) rfl rfl
theorem s27_14 {d : Nat} {ls : mj_L} {st : List Value} {M : mj_H} : mj_Rn d mj_m27 14 ls st M = mq_k0 d mj_m27 15 ls M (mj_pu .dup ls st) := mj_R0 (r := (.dup, 1, 0, 0, 0)) rfl rfl
theorem s27_15 {d : Nat} {ls : mj_L} {st : List Value} {M : mj_H} : mj_Rn d mj_m27 15 ls st M = mq_k0 d mj_m27 18 ls M (mq_gf 9 7 st M) := (mj_R3 (r := (.getfield 34, 3, 9, 7, 8308)) rfl rfl).trans (congrArg (mq_k0 d mj_m27 18 ls M) mq_gf_eq)
theorem s27_18 {d : Nat} {ls : mj_L} {st : List Value} {M : mj_H} : mj_Rn d mj_m27 18 ls st M = mj_Rn d mj_m27 19 ls (.int 1 :: st) M := mj_R0 (r := (.iconst 1, 1, 0, 0, 0)) rfl rfl
theorem s27_19 {d : Nat} {ls : mj_L} {st : List Value} {M : mj_H} : mj_Rn d mj_m27 19 ls st M = mq_k0 d mj_m27 20 ls M (mj_pu .iadd ls st) := mj_R0 (r := (.iadd, 1, 0, 0, 0)) rfl rfl
theorem s27_20 {d : Nat} {ls : mj_L} {st : List Value} {M : mj_H} : mj_Rn d mj_m27 20 ls st M = mq_k4 d mj_m27 23 ls (mq_pf 9 7 0 st M) := (mj_R4 (r := (.putfield 34, 3, 9, 7, 8308)) rfl rfl).trans (congrArg (mq_k4 d mj_m27 23 ls) (mq_pf_eq rfl rfl))
theorem s27_23 {d : Nat} {ls : mj_L} {st : List Value} {M : mj_H} : mj_Rn d mj_m27 23 ls st M = mq_k0 d mj_m27 24 ls M (mj_lda (mj_lk ls 0) st) := mj_R0 (r := (.aload_n 0, 1, 0, 0, 0)) rfl rfl
theorem s27_24 {d : Nat} {ls : mj_L} {st : List Value} {M : mj_H} : mj_Rn (d + 1) mj_m27 24 ls st M = mq_k5a (d + 1) mj_m27 27 ls M 30 (mq_cb 0 0 9 st M) := mj_R5e (r := (.invokevirtual 84, 3, 0, 30, 8365)) (z := mj_m30) rfl rfl (by decide) (by decide) rfl
theorem s27_27 {d : Nat} {ls : mj_L} {st : List Value} {M : mj_H} : mj_Rn d mj_m27 27 ls st M = mq_k6 M (mj_re (some .int) (.ireturn) st) := mj_R6 (r := (.ireturn, 1, 0, 0, 0)) rfl rfl
/- 30 PasskeyHouse$Terms.made()I -/
theorem s30_0 {d : Nat} {ls : mj_L} {st : List Value} {M : mj_H} : mj_Rn d mj_m30 0 ls st M = mq_k0 d mj_m30 1 ls M (mj_lda (mj_lk ls 0) st) := mj_R0 (r := (.aload_n 0, 1, 0, 0, 0)) rfl rfl
theorem s30_1 {d : Nat} {ls : mj_L} {st : List Value} {M : mj_H} : mj_Rn (d + 1) mj_m30 1 ls st M = mq_k5a (d + 1) mj_m30 4 ls M 31 (mq_cb 0 0 9 st M) := mj_R5e (r := (.invokevirtual 75, 3, 0, 31, 8369)) (z := mj_m31) rfl rfl (by decide) (by decide) rfl
theorem s30_4 {d : Nat} {ls : mj_L} {st : List Value} {M : mj_H} : mj_Rn d mj_m30 4 ls st M = mq_k1 d mj_m30 5 M (mj_lo 2 (.istore 1) ls st) := (mj_R1 (r := (.istore_n 1, 1, 0, 0, 0)) rfl rfl).trans (congrArg (mq_k1 d mj_m30 5 M) (mq_sti (k := 1)))
theorem s30_5 {d : Nat} {ls : mj_L} {st : List Value} {M : mj_H} : mj_Rn d mj_m30 5 ls st M = mq_k0 d mj_m30 6 ls M (mj_ldi (mj_lk ls 1) st) := mj_R0 (r := (.iload_n 1, 1, 0, 0, 0)) rfl rfl
theorem s30_6 {d : Nat} {ls : mj_L} {st : List Value} {M : mj_H} : mj_Rn d mj_m30 6 ls st M = mq_k2 d mj_m30 ls M (mj_br (.ifCond .le 5) 6 st) := mj_R2 (r := (.ifCond .le 5, 3, 0, 0, 0)) rfl rfl
theorem s30_9 {d : Nat} {ls : mj_L} {st : List Value} {M : mj_H} : mj_Rn d mj_m30 9 ls st M = mq_k0 d mj_m30 10 ls M (mj_ldi (mj_lk ls 1) st) := mj_R0 (r := (.iload_n 1, 1, 0, 0, 0)) rfl rfl
theorem s30_10 {d : Nat} {ls : mj_L} {st : List Value} {M : mj_H} : mj_Rn d mj_m30 10 ls st M = mq_k6 M (mj_re (some .int) (.ireturn) st) := mj_R6 (r := (.ireturn, 1, 0, 0, 0)) rfl rfl
theorem s30_11 {d : Nat} {ls : mj_L} {st : List Value} {M : mj_H} : mj_Rn d mj_m30 11 ls st M = mq_k0 d mj_m30 12 ls M (mj_lda (mj_lk ls 0) st) := mj_R0 (r := (.aload_n 0, 1, 0, 0, 0)) rfl rfl
theorem s30_12 {d : Nat} {ls : mj_L} {st : List Value} {M : mj_H} : mj_Rn (d + 1) mj_m30 12 ls st M = mq_k5a (d + 1) mj_m30 15 ls M 34 (mq_cb 0 0 9 st M) := mj_R5e (r := (.invokevirtual 78, 3, 0, 34, 8381)) (z := mj_m34) rfl rfl (by decide) (by decide) rfl
theorem s30_15 {d : Nat} {ls : mj_L} {st : List Value} {M : mj_H} : mj_Rn d mj_m30 15 ls st M = mq_k0 d mj_m30 16 ls M (mj_lda (mj_lk ls 0) st) := mj_R0 (r := (.aload_n 0, 1, 0, 0, 0)) rfl rfl
theorem s30_16 {d : Nat} {ls : mj_L} {st : List Value} {M : mj_H} : mj_Rn (d + 1) mj_m30 16 ls st M = mq_k5a (d + 1) mj_m30 19 ls M 37 (mq_cb 0 0 9 st M) := mj_R5e (r := (.invokevirtual 81, 3, 0, 37, 8402)) (z := mj_m37) rfl rfl (by decide) (by decide) rfl
theorem s30_19 {d : Nat} {ls : mj_L} {st : List Value} {M : mj_H} : mj_Rn d mj_m30 19 ls st M = mq_k6 M (mj_re (some .int) (.ireturn) st) := mj_R6 (r := (.ireturn, 1, 0, 0, 0)) rfl rfl
/- 34 PasskeyHouse$Terms.makeRoom()V -/
theorem s34_0 {d : Nat} {ls : mj_L} {st : List Value} {M : mj_H} : mj_Rn d mj_m34 0 ls st M = mq_k0 d mj_m34 1 ls M (mj_lda (mj_lk ls 0) st) := mj_R0 (r := (.aload_n 0, 1, 0, 0, 0)) rfl rfl
theorem s34_1 {d : Nat} {ls : mj_L} {st : List Value} {M : mj_H} : mj_Rn d mj_m34 1 ls st M = mq_k0 d mj_m34 4 ls M (mq_gf 9 6 st M) := (mj_R3 (r := (.getfield 31, 3, 9, 6, 8306)) rfl rfl).trans (congrArg (mq_k0 d mj_m34 4 ls M) mq_gf_eq)
theorem s34_4 {d : Nat} {ls : mj_L} {st : List Value} {M : mj_H} : mj_Rn d mj_m34 4 ls st M = mj_Rn d mj_m34 5 ls (.int 1 :: st) M := mj_R0 (r := (.iconst 1, 1, 0, 0, 0)) rfl rfl
theorem s34_5 {d : Nat} {ls : mj_L} {st : List Value} {M : mj_H} : mj_Rn d mj_m34 5 ls st M = mq_k0 d mj_m34 6 ls M (mj_pu .iadd ls st) := mj_R0 (r := (.iadd, 1, 0, 0, 0)) rfl rfl
theorem s34_6 {d : Nat} {ls : mj_L} {st : List Value} {M : mj_H} : mj_Rn d mj_m34 6 ls st M = mq_k0 d mj_m34 7 ls M (mj_lda (mj_lk ls 0) st) := mj_R0 (r := (.aload_n 0, 1, 0, 0, 0)) rfl rfl
theorem s34_7 {d : Nat} {ls : mj_L} {st : List Value} {M : mj_H} : mj_Rn d mj_m34 7 ls st M = mq_k0 d mj_m34 10 ls M (mq_gf 9 1 st M) := (mj_R3 (r := (.getfield 15, 3, 9, 1, 8296)) rfl rfl).trans (congrArg (mq_k0 d mj_m34 10 ls M) mq_gf_eq)
theorem s34_10 {d : Nat} {ls : mj_L} {st : List Value} {M : mj_H} : mj_Rn d mj_m34 10 ls st M = mq_k0 d mj_m34 11 ls M (mq_len st M) := (mj_R3 (r := (.arraylength, 1, 0, 0, 0)) rfl rfl).trans (congrArg (mq_k0 d mj_m34 11 ls M) mq_len_eq)
theorem s34_11 {d : Nat} {ls : mj_L} {st : List Value} {M : mj_H} : mj_Rn d mj_m34 11 ls st M = mq_k2 d mj_m34 ls M (mj_br (.if_icmp .lt 48) 11 st) := mj_R2 (r := (.if_icmp .lt 48, 3, 0, 0, 0)) rfl rfl
theorem s34_14 {d : Nat} {ls : mj_L} {st : List Value} {M : mj_H} : mj_Rn d mj_m34 14 ls st M = mq_k0 d mj_m34 15 ls M (mj_lda (mj_lk ls 0) st) := mj_R0 (r := (.aload_n 0, 1, 0, 0, 0)) rfl rfl
theorem s34_15 {d : Nat} {ls : mj_L} {st : List Value} {M : mj_H} : mj_Rn d mj_m34 15 ls st M = mq_k0 d mj_m34 18 ls M (mq_gf 9 1 st M) := (mj_R3 (r := (.getfield 15, 3, 9, 1, 8296)) rfl rfl).trans (congrArg (mq_k0 d mj_m34 18 ls M) mq_gf_eq)
theorem s34_18 {d : Nat} {ls : mj_L} {st : List Value} {M : mj_H} : mj_Rn d mj_m34 18 ls st M = mq_k0 d mj_m34 19 ls M (mq_len st M) := (mj_R3 (r := (.arraylength, 1, 0, 0, 0)) rfl rfl).trans (congrArg (mq_k0 d mj_m34 19 ls M) mq_len_eq)
theorem s34_19 {d : Nat} {ls : mj_L} {st : List Value} {M : mj_H} : mj_Rn d mj_m34 19 ls st M = mj_Rn d mj_m34 22 ls (.int 16384 :: st) M := mj_R0 (r := (.sipush 16384, 3, 0, 0, 0)) rfl rfl
theorem s34_22 {d : Nat} {ls : mj_L} {st : List Value} {M : mj_H} : mj_Rn d mj_m34 22 ls st M = mq_k2 d mj_m34 ls M (mj_br (.if_icmp .ge 37) 22 st) := mj_R2 (r := (.if_icmp .ge 37, 3, 0, 0, 0)) rfl rfl
theorem s34_25 {d : Nat} {ls : mj_L} {st : List Value} {M : mj_H} : mj_Rn d mj_m34 25 ls st M = mq_k0 d mj_m34 26 ls M (mj_lda (mj_lk ls 0) st) := mj_R0 (r := (.aload_n 0, 1, 0, 0, 0)) rfl rfl
theorem s34_26 {d : Nat} {ls : mj_L} {st : List Value} {M : mj_H} : mj_Rn d mj_m34 26 ls st M = mq_k0 d mj_m34 27 ls M (mj_lda (mj_lk ls 0) st) := mj_R0 (r := (.aload_n 0, 1, 0, 0, 0)) rfl rfl
theorem s34_27 {d : Nat} {ls : mj_L} {st : List Value} {M : mj_H} : mj_Rn d mj_m34 27 ls st M = mq_k0 d mj_m34 30 ls M (mq_gf 9 1 st M) := (mj_R3 (r := (.getfield 15, 3, 9, 1, 8296)) rfl rfl).trans (congrArg (mq_k0 d mj_m34 30 ls M) mq_gf_eq)
theorem s34_30 {d : Nat} {ls : mj_L} {st : List Value} {M : mj_H} : mj_Rn d mj_m34 30 ls st M = mj_Rn d mj_m34 31 ls (.int 2 :: st) M := mj_R0 (r := (.iconst 2, 1, 0, 0, 0)) rfl rfl
theorem s34_31 {d : Nat} {ls : mj_L} {st : List Value} {M : mj_H} : mj_Rn d mj_m34 31 ls st M = mq_k0 d mj_m34 32 ls M (mj_lda (mj_lk ls 0) st) := mj_R0 (r := (.aload_n 0, 1, 0, 0, 0)) rfl rfl
theorem s34_32 {d : Nat} {ls : mj_L} {st : List Value} {M : mj_H} : mj_Rn d mj_m34 32 ls st M = mq_k0 d mj_m34 35 ls M (mq_gf 9 1 st M) := (mj_R3 (r := (.getfield 15, 3, 9, 1, 8296)) rfl rfl).trans (congrArg (mq_k0 d mj_m34 35 ls M) mq_gf_eq)
theorem s34_35 {d : Nat} {ls : mj_L} {st : List Value} {M : mj_H} : mj_Rn d mj_m34 35 ls st M = mq_k0 d mj_m34 36 ls M (mq_len st M) := (mj_R3 (r := (.arraylength, 1, 0, 0, 0)) rfl rfl).trans (congrArg (mq_k0 d mj_m34 36 ls M) mq_len_eq)
theorem s34_36 {d : Nat} {ls : mj_L} {st : List Value} {M : mj_H} : mj_Rn d mj_m34 36 ls st M = mq_k0 d mj_m34 37 ls M (mj_pu .imul ls st) := mj_R0 (r := (.imul, 1, 0, 0, 0)) rfl rfl
theorem s34_37 {d : Nat} {ls : mj_L} {st : List Value} {M : mj_H} : mj_Rn (d + 1) mj_m34 37 ls st M = mq_k5a (d + 1) mj_m34 40 ls M 35 (mq_cb 2 2 999 st M) := mj_R5e (r := (.invokestatic 88, 3, 2, 35, 8385)) (z := mj_m35) rfl rfl (by decide) (by decide) rfl
theorem s34_40 {d : Nat} {ls : mj_L} {st : List Value} {M : mj_H} : mj_Rn d mj_m34 40 ls st M = mq_k4 d mj_m34 43 ls (mq_pf 9 1 2 st M) := (mj_R4 (r := (.putfield 15, 3, 9, 1, 8296)) rfl rfl).trans (congrArg (mq_k4 d mj_m34 43 ls) (mq_pf_eq rfl rfl))
theorem s34_43 {d : Nat} {ls : mj_L} {st : List Value} {M : mj_H} : mj_Rn d mj_m34 43 ls st M = mq_k0 d mj_m34 44 ls M (mj_lda (mj_lk ls 0) st) := mj_R0 (r := (.aload_n 0, 1, 0, 0, 0)) rfl rfl
theorem s34_44 {d : Nat} {ls : mj_L} {st : List Value} {M : mj_H} : mj_Rn d mj_m34 44 ls st M = mq_k0 d mj_m34 45 ls M (mj_lda (mj_lk ls 0) st) := mj_R0 (r := (.aload_n 0, 1, 0, 0, 0)) rfl rfl
theorem s34_45 {d : Nat} {ls : mj_L} {st : List Value} {M : mj_H} : mj_Rn d mj_m34 45 ls st M = mq_k0 d mj_m34 48 ls M (mq_gf 9 2 st M) := (mj_R3 (r := (.getfield 18, 3, 9, 2, 8298)) rfl rfl).trans (congrArg (mq_k0 d mj_m34 48 ls M) mq_gf_eq)
theorem s34_48 {d : Nat} {ls : mj_L} {st : List Value} {M : mj_H} : mj_Rn d mj_m34 48 ls st M = mq_k0 d mj_m34 49 ls M (mj_lda (mj_lk ls 0) st) := mj_R0 (r := (.aload_n 0, 1, 0, 0, 0)) rfl rfl
theorem s34_49 {d : Nat} {ls : mj_L} {st : List Value} {M : mj_H} : mj_Rn d mj_m34 49 ls st M = mq_k0 d mj_m34 52 ls M (mq_gf 9 1 st M) := (mj_R3 (r := (.getfield 15, 3, 9, 1, 8296)) rfl rfl).trans (congrArg (mq_k0 d mj_m34 52 ls M) mq_gf_eq)
theorem s34_52 {d : Nat} {ls : mj_L} {st : List Value} {M : mj_H} : mj_Rn d mj_m34 52 ls st M = mq_k0 d mj_m34 53 ls M (mq_len st M) := (mj_R3 (r := (.arraylength, 1, 0, 0, 0)) rfl rfl).trans (congrArg (mq_k0 d mj_m34 53 ls M) mq_len_eq)
theorem s34_53 {d : Nat} {ls : mj_L} {st : List Value} {M : mj_H} : mj_Rn (d + 1) mj_m34 53 ls st M = mq_k5a (d + 1) mj_m34 56 ls M 35 (mq_cb 2 2 999 st M) := mj_R5e (r := (.invokestatic 88, 3, 2, 35, 8385)) (z := mj_m35) rfl rfl (by decide) (by decide) rfl
theorem s34_56 {d : Nat} {ls : mj_L} {st : List Value} {M : mj_H} : mj_Rn d mj_m34 56 ls st M = mq_k4 d mj_m34 59 ls (mq_pf 9 2 2 st M) := (mj_R4 (r := (.putfield 18, 3, 9, 2, 8298)) rfl rfl).trans (congrArg (mq_k4 d mj_m34 59 ls) (mq_pf_eq rfl rfl))
theorem s34_59 {d : Nat} {ls : mj_L} {st : List Value} {M : mj_H} : mj_Rn d mj_m34 59 ls st M = mq_k0 d mj_m34 60 ls M (mj_lda (mj_lk ls 0) st) := mj_R0 (r := (.aload_n 0, 1, 0, 0, 0)) rfl rfl
theorem s34_60 {d : Nat} {ls : mj_L} {st : List Value} {M : mj_H} : mj_Rn d mj_m34 60 ls st M = mq_k0 d mj_m34 63 ls M (mq_gf 9 6 st M) := (mj_R3 (r := (.getfield 31, 3, 9, 6, 8306)) rfl rfl).trans (congrArg (mq_k0 d mj_m34 63 ls M) mq_gf_eq)
theorem s34_63 {d : Nat} {ls : mj_L} {st : List Value} {M : mj_H} : mj_Rn d mj_m34 63 ls st M = mq_k2 d mj_m34 ls M (mj_br (.ifCond .lt 15) 63 st) := mj_R2 (r := (.ifCond .lt 15, 3, 0, 0, 0)) rfl rfl
theorem s34_66 {d : Nat} {ls : mj_L} {st : List Value} {M : mj_H} : mj_Rn d mj_m34 66 ls st M = mq_k0 d mj_m34 67 ls M (mj_lda (mj_lk ls 0) st) := mj_R0 (r := (.aload_n 0, 1, 0, 0, 0)) rfl rfl
theorem s34_67 {d : Nat} {ls : mj_L} {st : List Value} {M : mj_H} : mj_Rn d mj_m34 67 ls st M = mq_k0 d mj_m34 70 ls M (mq_gf 9 6 st M) := (mj_R3 (r := (.getfield 31, 3, 9, 6, 8306)) rfl rfl).trans (congrArg (mq_k0 d mj_m34 70 ls M) mq_gf_eq)
theorem s34_70 {d : Nat} {ls : mj_L} {st : List Value} {M : mj_H} : mj_Rn d mj_m34 70 ls st M = mq_k0 d mj_m34 71 ls M (mj_lda (mj_lk ls 0) st) := mj_R0 (r := (.aload_n 0, 1, 0, 0, 0)) rfl rfl
theorem s34_71 {d : Nat} {ls : mj_L} {st : List Value} {M : mj_H} : mj_Rn d mj_m34 71 ls st M = mq_k0 d mj_m34 74 ls M (mq_gf 9 1 st M) := (mj_R3 (r := (.getfield 15, 3, 9, 1, 8296)) rfl rfl).trans (congrArg (mq_k0 d mj_m34 74 ls M) mq_gf_eq)
theorem s34_74 {d : Nat} {ls : mj_L} {st : List Value} {M : mj_H} : mj_Rn d mj_m34 74 ls st M = mq_k0 d mj_m34 75 ls M (mq_len st M) := (mj_R3 (r := (.arraylength, 1, 0, 0, 0)) rfl rfl).trans (congrArg (mq_k0 d mj_m34 75 ls M) mq_len_eq)
theorem s34_75 {d : Nat} {ls : mj_L} {st : List Value} {M : mj_H} : mj_Rn d mj_m34 75 ls st M = mq_k2 d mj_m34 ls M (mj_br (.if_icmp .lt 7) 75 st) := mj_R2 (r := (.if_icmp .lt 7, 3, 0, 0, 0)) rfl rfl
theorem s34_78 {d : Nat} {ls : mj_L} {st : List Value} {M : mj_H} : mj_Rn d mj_m34 78 ls st M = mj_Rn d mj_m34 79 ls (.int 0 :: st) M := mj_R0 (r := (.iconst 0, 1, 0, 0, 0)) rfl rfl
theorem s34_79 {d : Nat} {ls : mj_L} {st : List Value} {M : mj_H} : mj_Rn d mj_m34 79 ls st M = mj_Rn d mj_m34 91 ls st M := mj_R2 (r := (.goto 12, 3, 0, 0, 0)) rfl rfl
theorem s34_82 {d : Nat} {ls : mj_L} {st : List Value} {M : mj_H} : mj_Rn d mj_m34 82 ls st M = mq_k0 d mj_m34 83 ls M (mj_lda (mj_lk ls 0) st) := mj_R0 (r := (.aload_n 0, 1, 0, 0, 0)) rfl rfl
theorem s34_83 {d : Nat} {ls : mj_L} {st : List Value} {M : mj_H} : mj_Rn d mj_m34 83 ls st M = mq_k0 d mj_m34 86 ls M (mq_gf 9 1 st M) := (mj_R3 (r := (.getfield 15, 3, 9, 1, 8296)) rfl rfl).trans (congrArg (mq_k0 d mj_m34 86 ls M) mq_gf_eq)
theorem s34_86 {d : Nat} {ls : mj_L} {st : List Value} {M : mj_H} : mj_Rn d mj_m34 86 ls st M = mq_k0 d mj_m34 87 ls M (mj_lda (mj_lk ls 0) st) := mj_R0 (r := (.aload_n 0, 1, 0, 0, 0)) rfl rfl
theorem s34_87 {d : Nat} {ls : mj_L} {st : List Value} {M : mj_H} : mj_Rn d mj_m34 87 ls st M = mq_k0 d mj_m34 90 ls M (mq_gf 9 6 st M) := (mj_R3 (r := (.getfield 31, 3, 9, 6, 8306)) rfl rfl).trans (congrArg (mq_k0 d mj_m34 90 ls M) mq_gf_eq)
theorem s34_90 {d : Nat} {ls : mj_L} {st : List Value} {M : mj_H} : mj_Rn d mj_m34 90 ls st M = mq_k0 d mj_m34 91 ls M (mq_al [1000] st M) := (mj_R3 (r := (.iaload, 1, 0, 0, 0)) rfl rfl).trans (congrArg (mq_k0 d mj_m34 91 ls M) mq_ali_eq)
theorem s34_91 {d : Nat} {ls : mj_L} {st : List Value} {M : mj_H} : mj_Rn d mj_m34 91 ls st M = mq_k1 d mj_m34 92 M (mj_lo 2 (.istore 1) ls st) := (mj_R1 (r := (.istore_n 1, 1, 0, 0, 0)) rfl rfl).trans (congrArg (mq_k1 d mj_m34 92 M) (mq_sti (k := 1)))
theorem s34_92 {d : Nat} {ls : mj_L} {st : List Value} {M : mj_H} : mj_Rn d mj_m34 92 ls st M = mq_k0 d mj_m34 93 ls M (mj_ldi (mj_lk ls 1) st) := mj_R0 (r := (.iload_n 1, 1, 0, 0, 0)) rfl rfl
theorem s34_93 {d : Nat} {ls : mj_L} {st : List Value} {M : mj_H} : mj_Rn d mj_m34 93 ls st M = mq_k0 d mj_m34 94 ls M (mj_lda (mj_lk ls 0) st) := mj_R0 (r := (.aload_n 0, 1, 0, 0, 0)) rfl rfl
theorem s34_94 {d : Nat} {ls : mj_L} {st : List Value} {M : mj_H} : mj_Rn d mj_m34 94 ls st M = mq_k0 d mj_m34 97 ls M (mq_gf 9 4 st M) := (mj_R3 (r := (.getfield 24, 3, 9, 4, 8302)) rfl rfl).trans (congrArg (mq_k0 d mj_m34 97 ls M) mq_gf_eq)
theorem s34_97 {d : Nat} {ls : mj_L} {st : List Value} {M : mj_H} : mj_Rn d mj_m34 97 ls st M = mq_k0 d mj_m34 98 ls M (mq_len st M) := (mj_R3 (r := (.arraylength, 1, 0, 0, 0)) rfl rfl).trans (congrArg (mq_k0 d mj_m34 98 ls M) mq_len_eq)
theorem s34_98 {d : Nat} {ls : mj_L} {st : List Value} {M : mj_H} : mj_Rn d mj_m34 98 ls st M = mq_k0 d mj_m34 99 ls M (mj_pu .iadd ls st) := mj_R0 (r := (.iadd, 1, 0, 0, 0)) rfl rfl
theorem s34_99 {d : Nat} {ls : mj_L} {st : List Value} {M : mj_H} : mj_Rn d mj_m34 99 ls st M = mq_k0 d mj_m34 100 ls M (mj_lda (mj_lk ls 0) st) := mj_R0 (r := (.aload_n 0, 1, 0, 0, 0)) rfl rfl
theorem s34_100 {d : Nat} {ls : mj_L} {st : List Value} {M : mj_H} : mj_Rn d mj_m34 100 ls st M = mq_k0 d mj_m34 103 ls M (mq_gf 9 0 st M) := (mj_R3 (r := (.getfield 9, 3, 9, 0, 8294)) rfl rfl).trans (congrArg (mq_k0 d mj_m34 103 ls M) mq_gf_eq)
theorem s34_103 {d : Nat} {ls : mj_L} {st : List Value} {M : mj_H} : mj_Rn d mj_m34 103 ls st M = mq_k0 d mj_m34 104 ls M (mq_len st M) := (mj_R3 (r := (.arraylength, 1, 0, 0, 0)) rfl rfl).trans (congrArg (mq_k0 d mj_m34 104 ls M) mq_len_eq)
theorem s34_104 {d : Nat} {ls : mj_L} {st : List Value} {M : mj_H} : mj_Rn d mj_m34 104 ls st M = mq_k2 d mj_m34 ls M (mj_br (.if_icmp .le 31) 104 st) := mj_R2 (r := (.if_icmp .le 31, 3, 0, 0, 0)) rfl rfl
theorem s34_107 {d : Nat} {ls : mj_L} {st : List Value} {M : mj_H} : mj_Rn d mj_m34 107 ls st M = mq_k0 d mj_m34 108 ls M (mj_lda (mj_lk ls 0) st) := mj_R0 (r := (.aload_n 0, 1, 0, 0, 0)) rfl rfl
theorem s34_108 {d : Nat} {ls : mj_L} {st : List Value} {M : mj_H} : mj_Rn d mj_m34 108 ls st M = mq_k0 d mj_m34 111 ls M (mq_gf 9 0 st M) := (mj_R3 (r := (.getfield 9, 3, 9, 0, 8294)) rfl rfl).trans (congrArg (mq_k0 d mj_m34 111 ls M) mq_gf_eq)
theorem s34_111 {d : Nat} {ls : mj_L} {st : List Value} {M : mj_H} : mj_Rn d mj_m34 111 ls st M = mq_k0 d mj_m34 112 ls M (mq_len st M) := (mj_R3 (r := (.arraylength, 1, 0, 0, 0)) rfl rfl).trans (congrArg (mq_k0 d mj_m34 112 ls M) mq_len_eq)
theorem s34_112 {d : Nat} {ls : mj_L} {st : List Value} {M : mj_H} : mj_Rn d mj_m34 112 ls st M = mj_Rn d mj_m34 114 ls (.int 524288 :: st) M := mj_R3 (r := (.ldc 87, 2, 0, 0, 8401)) rfl rfl
theorem s34_114 {d : Nat} {ls : mj_L} {st : List Value} {M : mj_H} : mj_Rn d mj_m34 114 ls st M = mq_k2 d mj_m34 ls M (mj_br (.if_icmp .ge 21) 114 st) := mj_R2 (r := (.if_icmp .ge 21, 3, 0, 0, 0)) rfl rfl
theorem s34_117 {d : Nat} {ls : mj_L} {st : List Value} {M : mj_H} : mj_Rn d mj_m34 117 ls st M = mq_k0 d mj_m34 118 ls M (mj_lda (mj_lk ls 0) st) := mj_R0 (r := (.aload_n 0, 1, 0, 0, 0)) rfl rfl
theorem s34_118 {d : Nat} {ls : mj_L} {st : List Value} {M : mj_H} : mj_Rn d mj_m34 118 ls st M = mq_k0 d mj_m34 119 ls M (mj_lda (mj_lk ls 0) st) := mj_R0 (r := (.aload_n 0, 1, 0, 0, 0)) rfl rfl
theorem s34_119 {d : Nat} {ls : mj_L} {st : List Value} {M : mj_H} : mj_Rn d mj_m34 119 ls st M = mq_k0 d mj_m34 122 ls M (mq_gf 9 0 st M) := (mj_R3 (r := (.getfield 9, 3, 9, 0, 8294)) rfl rfl).trans (congrArg (mq_k0 d mj_m34 122 ls M) mq_gf_eq)
theorem s34_122 {d : Nat} {ls : mj_L} {st : List Value} {M : mj_H} : mj_Rn d mj_m34 122 ls st M = mj_Rn d mj_m34 123 ls (.int 2 :: st) M := mj_R0 (r := (.iconst 2, 1, 0, 0, 0)) rfl rfl
theorem s34_123 {d : Nat} {ls : mj_L} {st : List Value} {M : mj_H} : mj_Rn d mj_m34 123 ls st M = mq_k0 d mj_m34 124 ls M (mj_lda (mj_lk ls 0) st) := mj_R0 (r := (.aload_n 0, 1, 0, 0, 0)) rfl rfl
theorem s34_124 {d : Nat} {ls : mj_L} {st : List Value} {M : mj_H} : mj_Rn d mj_m34 124 ls st M = mq_k0 d mj_m34 127 ls M (mq_gf 9 0 st M) := (mj_R3 (r := (.getfield 9, 3, 9, 0, 8294)) rfl rfl).trans (congrArg (mq_k0 d mj_m34 127 ls M) mq_gf_eq)
theorem s34_127 {d : Nat} {ls : mj_L} {st : List Value} {M : mj_H} : mj_Rn d mj_m34 127 ls st M = mq_k0 d mj_m34 128 ls M (mq_len st M) := (mj_R3 (r := (.arraylength, 1, 0, 0, 0)) rfl rfl).trans (congrArg (mq_k0 d mj_m34 128 ls M) mq_len_eq)
theorem s34_128 {d : Nat} {ls : mj_L} {st : List Value} {M : mj_H} : mj_Rn d mj_m34 128 ls st M = mq_k0 d mj_m34 129 ls M (mj_pu .imul ls st) := mj_R0 (r := (.imul, 1, 0, 0, 0)) rfl rfl
theorem s34_129 {d : Nat} {ls : mj_L} {st : List Value} {M : mj_H} : mj_Rn (d + 1) mj_m34 129 ls st M = mq_k5a (d + 1) mj_m34 132 ls M 35 (mq_cb 2 2 999 st M) := mj_R5e (r := (.invokestatic 88, 3, 2, 35, 8385)) (z := mj_m35) rfl rfl (by decide) (by decide) rfl
theorem s34_132 {d : Nat} {ls : mj_L} {st : List Value} {M : mj_H} : mj_Rn d mj_m34 132 ls st M = mq_k4 d mj_m34 135 ls (mq_pf 9 0 2 st M) := (mj_R4 (r := (.putfield 9, 3, 9, 0, 8294)) rfl rfl).trans (congrArg (mq_k4 d mj_m34 135 ls) (mq_pf_eq rfl rfl))
theorem s34_135 {d : Nat} {ls : mj_L} {st : List Value} {M : mj_H} : mj_Rn d mj_m34 135 ls st M = mq_k6 M (mj_re none (.return_) st) := mj_R6 (r := (.return_, 1, 0, 0, 0)) rfl rfl
/- 35 java/util/Arrays.copyOf([II)[I -/
theorem s35_0 {d : Nat} {ls : mj_L} {st : List Value} {M : mj_H} : mj_Rn d mj_m35 0 ls st M = mq_k0 d mj_m35 1 ls M (mj_ldi (mj_lk ls 1) st) := mj_R0 (r := (.iload_n 1, 1, 0, 0, 0)) rfl rfl
theorem s35_1 {d : Nat} {ls : mj_L} {st : List Value} {M : mj_H} : mj_Rn d mj_m35 1 ls st M = mq_k0 d mj_m35 2 ls M (mj_lda (mj_lk ls 0) st) := mj_R0 (r := (.aload_n 0, 1, 0, 0, 0)) rfl rfl
theorem s35_2 {d : Nat} {ls : mj_L} {st : List Value} {M : mj_H} : mj_Rn d mj_m35 2 ls st M = mq_k0 d mj_m35 3 ls M (mq_len st M) := (mj_R3 (r := (.arraylength, 1, 0, 0, 0)) rfl rfl).trans (congrArg (mq_k0 d mj_m35 3 ls M) mq_len_eq)
theorem s35_3 {d : Nat} {ls : mj_L} {st : List Value} {M : mj_H} : mj_Rn d mj_m35 3 ls st M = mq_k2 d mj_m35 ls M (mj_br (.if_icmp .ne 11) 3 st) := mj_R2 (r := (.if_icmp .ne 11, 3, 0, 0, 0)) rfl rfl
theorem s35_6 {d : Nat} {ls : mj_L} {st : List Value} {M : mj_H} : mj_Rn d mj_m35 6 ls st M = mq_k0 d mj_m35 7 ls M (mj_lda (mj_lk ls 0) st) := mj_R0 (r := (.aload_n 0, 1, 0, 0, 0)) rfl rfl
theorem s35_13 {d : Nat} {ls : mj_L} {st : List Value} {M : mj_H} : mj_Rn d mj_m35 13 ls st M = mq_k6 M (mj_re (some (.array .int)) (.areturn) st) := mj_R6 (r := (.areturn, 1, 0, 0, 0)) rfl rfl
theorem s35_14 {d : Nat} {ls : mj_L} {st : List Value} {M : mj_H} : mj_Rn d mj_m35 14 ls st M = mq_k0 d mj_m35 15 ls M (mj_ldi (mj_lk ls 1) st) := mj_R0 (r := (.iload_n 1, 1, 0, 0, 0)) rfl rfl
theorem s35_15 {d : Nat} {ls : mj_L} {st : List Value} {M : mj_H} : mj_Rn d mj_m35 15 ls st M = mq_k4 d mj_m35 17 ls (mj_hw (.newarray .int, 2, 1000, 0, 4140) st M) := mj_R4 (r := (.newarray .int, 2, 1000, 0, 4140)) rfl rfl
theorem s35_17 {d : Nat} {ls : mj_L} {st : List Value} {M : mj_H} : mj_Rn d mj_m35 17 ls st M = mq_k1 d mj_m35 18 M (mj_lo 3 (.astore 2) ls st) := (mj_R1 (r := (.astore_n 2, 1, 0, 0, 0)) rfl rfl).trans (congrArg (mq_k1 d mj_m35 18 M) (mq_sta (k := 2)))
theorem s35_18 {d : Nat} {ls : mj_L} {st : List Value} {M : mj_H} : mj_Rn d mj_m35 18 ls st M = mq_k0 d mj_m35 19 ls M (mj_lda (mj_lk ls 0) st) := mj_R0 (r := (.aload_n 0, 1, 0, 0, 0)) rfl rfl
theorem s35_19 {d : Nat} {ls : mj_L} {st : List Value} {M : mj_H} : mj_Rn d mj_m35 19 ls st M = mj_Rn d mj_m35 20 ls (.int 0 :: st) M := mj_R0 (r := (.iconst 0, 1, 0, 0, 0)) rfl rfl
theorem s35_20 {d : Nat} {ls : mj_L} {st : List Value} {M : mj_H} : mj_Rn d mj_m35 20 ls st M = mq_k0 d mj_m35 21 ls M (mj_lda (mj_lk ls 2) st) := mj_R0 (r := (.aload_n 2, 1, 0, 0, 0)) rfl rfl
theorem s35_21 {d : Nat} {ls : mj_L} {st : List Value} {M : mj_H} : mj_Rn d mj_m35 21 ls st M = mj_Rn d mj_m35 22 ls (.int 0 :: st) M := mj_R0 (r := (.iconst 0, 1, 0, 0, 0)) rfl rfl
theorem s35_22 {d : Nat} {ls : mj_L} {st : List Value} {M : mj_H} : mj_Rn d mj_m35 22 ls st M = mq_k0 d mj_m35 23 ls M (mj_lda (mj_lk ls 0) st) := mj_R0 (r := (.aload_n 0, 1, 0, 0, 0)) rfl rfl
theorem s35_23 {d : Nat} {ls : mj_L} {st : List Value} {M : mj_H} : mj_Rn d mj_m35 23 ls st M = mq_k0 d mj_m35 24 ls M (mq_len st M) := (mj_R3 (r := (.arraylength, 1, 0, 0, 0)) rfl rfl).trans (congrArg (mq_k0 d mj_m35 24 ls M) mq_len_eq)
theorem s35_24 {d : Nat} {ls : mj_L} {st : List Value} {M : mj_H} : mj_Rn d mj_m35 24 ls st M = mq_k0 d mj_m35 25 ls M (mj_ldi (mj_lk ls 1) st) := mj_R0 (r := (.iload_n 1, 1, 0, 0, 0)) rfl rfl
theorem s35_25 {d : Nat} {ls : mj_L} {st : List Value} {M : mj_H} : mj_Rn (d + 1) mj_m35 25 ls st M = mq_k5a (d + 1) mj_m35 28 ls M 36 (mq_cb 2 2 999 st M) := mj_R5e (r := (.invokestatic 304, 3, 2, 36, 8395)) (z := mj_m36) rfl rfl (by decide) (by decide) rfl
theorem s35_28 {d : Nat} {ls : mj_L} {st : List Value} {M : mj_H} : mj_Rn (d + 1) mj_m35 28 ls st M = mq_k4 (d + 1) mj_m35 31 ls (mq_cpr st M) := mj_R5ce (r := (.invokestatic 150, 3, 7, 0, 8398)) rfl rfl rfl
theorem s35_31 {d : Nat} {ls : mj_L} {st : List Value} {M : mj_H} : mj_Rn d mj_m35 31 ls st M = mq_k0 d mj_m35 32 ls M (mj_lda (mj_lk ls 2) st) := mj_R0 (r := (.aload_n 2, 1, 0, 0, 0)) rfl rfl
theorem s35_32 {d : Nat} {ls : mj_L} {st : List Value} {M : mj_H} : mj_Rn d mj_m35 32 ls st M = mq_k6 M (mj_re (some (.array .int)) (.areturn) st) := mj_R6 (r := (.areturn, 1, 0, 0, 0)) rfl rfl
/- 36 java/lang/Math.min(II)I -/
theorem s36_0 {d : Nat} {ls : mj_L} {st : List Value} {M : mj_H} : mj_Rn d mj_m36 0 ls st M = mq_k0 d mj_m36 1 ls M (mj_ldi (mj_lk ls 0) st) := mj_R0 (r := (.iload_n 0, 1, 0, 0, 0)) rfl rfl
theorem s36_1 {d : Nat} {ls : mj_L} {st : List Value} {M : mj_H} : mj_Rn d mj_m36 1 ls st M = mq_k0 d mj_m36 2 ls M (mj_ldi (mj_lk ls 1) st) := mj_R0 (r := (.iload_n 1, 1, 0, 0, 0)) rfl rfl
theorem s36_2 {d : Nat} {ls : mj_L} {st : List Value} {M : mj_H} : mj_Rn d mj_m36 2 ls st M = mq_k2 d mj_m36 ls M (mj_br (.if_icmp .gt 7) 2 st) := mj_R2 (r := (.if_icmp .gt 7, 3, 0, 0, 0)) rfl rfl
theorem s36_5 {d : Nat} {ls : mj_L} {st : List Value} {M : mj_H} : mj_Rn d mj_m36 5 ls st M = mq_k0 d mj_m36 6 ls M (mj_ldi (mj_lk ls 0) st) := mj_R0 (r := (.iload_n 0, 1, 0, 0, 0)) rfl rfl
theorem s36_6 {d : Nat} {ls : mj_L} {st : List Value} {M : mj_H} : mj_Rn d mj_m36 6 ls st M = mj_Rn d mj_m36 10 ls st M := mj_R2 (r := (.goto 4, 3, 0, 0, 0)) rfl rfl
theorem s36_9 {d : Nat} {ls : mj_L} {st : List Value} {M : mj_H} : mj_Rn d mj_m36 9 ls st M = mq_k0 d mj_m36 10 ls M (mj_ldi (mj_lk ls 1) st) := mj_R0 (r := (.iload_n 1, 1, 0, 0, 0)) rfl rfl
theorem s36_10 {d : Nat} {ls : mj_L} {st : List Value} {M : mj_H} : mj_Rn d mj_m36 10 ls st M = mq_k6 M (mj_re (some .int) (.ireturn) st) := mj_R6 (r := (.ireturn, 1, 0, 0, 0)) rfl rfl
/- 3 java/lang/Math.max(II)I -/
theorem s3_0 {d : Nat} {ls : mj_L} {st : List Value} {M : mj_H} : mj_Rn d mj_m3 0 ls st M = mq_k0 d mj_m3 1 ls M (mj_ldi (mj_lk ls 0) st) := mj_R0 (r := (.iload_n 0, 1, 0, 0, 0)) rfl rfl
theorem s3_1 {d : Nat} {ls : mj_L} {st : List Value} {M : mj_H} : mj_Rn d mj_m3 1 ls st M = mq_k0 d mj_m3 2 ls M (mj_ldi (mj_lk ls 1) st) := mj_R0 (r := (.iload_n 1, 1, 0, 0, 0)) rfl rfl
theorem s3_2 {d : Nat} {ls : mj_L} {st : List Value} {M : mj_H} : mj_Rn d mj_m3 2 ls st M = mq_k2 d mj_m3 ls M (mj_br (.if_icmp .lt 7) 2 st) := mj_R2 (r := (.if_icmp .lt 7, 3, 0, 0, 0)) rfl rfl
theorem s3_5 {d : Nat} {ls : mj_L} {st : List Value} {M : mj_H} : mj_Rn d mj_m3 5 ls st M = mq_k0 d mj_m3 6 ls M (mj_ldi (mj_lk ls 0) st) := mj_R0 (r := (.iload_n 0, 1, 0, 0, 0)) rfl rfl
theorem s3_6 {d : Nat} {ls : mj_L} {st : List Value} {M : mj_H} : mj_Rn d mj_m3 6 ls st M = mj_Rn d mj_m3 10 ls st M := mj_R2 (r := (.goto 4, 3, 0, 0, 0)) rfl rfl
theorem s3_9 {d : Nat} {ls : mj_L} {st : List Value} {M : mj_H} : mj_Rn d mj_m3 9 ls st M = mq_k0 d mj_m3 10 ls M (mj_ldi (mj_lk ls 1) st) := mj_R0 (r := (.iload_n 1, 1, 0, 0, 0)) rfl rfl
theorem s3_10 {d : Nat} {ls : mj_L} {st : List Value} {M : mj_H} : mj_Rn d mj_m3 10 ls st M = mq_k6 M (mj_re (some .int) (.ireturn) st) := mj_R6 (r := (.ireturn, 1, 0, 0, 0)) rfl rfl
/- 37 PasskeyHouse$Terms.added()I -/
theorem s37_0 {d : Nat} {ls : mj_L} {st : List Value} {M : mj_H} : mj_Rn d mj_m37 0 ls st M = mq_k0 d mj_m37 1 ls M (mj_lda (mj_lk ls 0) st) := mj_R0 (r := (.aload_n 0, 1, 0, 0, 0)) rfl rfl
theorem s37_1 {d : Nat} {ls : mj_L} {st : List Value} {M : mj_H} : mj_Rn d mj_m37 1 ls st M = mq_k0 d mj_m37 4 ls M (mq_gf 9 6 st M) := (mj_R3 (r := (.getfield 31, 3, 9, 6, 8306)) rfl rfl).trans (congrArg (mq_k0 d mj_m37 4 ls M) mq_gf_eq)
theorem s37_4 {d : Nat} {ls : mj_L} {st : List Value} {M : mj_H} : mj_Rn d mj_m37 4 ls st M = mj_Rn d mj_m37 5 ls (.int 1 :: st) M := mj_R0 (r := (.iconst 1, 1, 0, 0, 0)) rfl rfl
theorem s37_5 {d : Nat} {ls : mj_L} {st : List Value} {M : mj_H} : mj_Rn d mj_m37 5 ls st M = mq_k0 d mj_m37 6 ls M (mj_pu .iadd ls st) := mj_R0 (r := (.iadd, 1, 0, 0, 0)) rfl rfl
theorem s37_6 {d : Nat} {ls : mj_L} {st : List Value} {M : mj_H} : mj_Rn d mj_m37 6 ls st M = mq_k1 d mj_m37 7 M (mj_lo 4 (.istore 1) ls st) := (mj_R1 (r := (.istore_n 1, 1, 0, 0, 0)) rfl rfl).trans (congrArg (mq_k1 d mj_m37 7 M) (mq_sti (k := 1)))
theorem s37_7 {d : Nat} {ls : mj_L} {st : List Value} {M : mj_H} : mj_Rn d mj_m37 7 ls st M = mq_k0 d mj_m37 8 ls M (mj_lda (mj_lk ls 0) st) := mj_R0 (r := (.aload_n 0, 1, 0, 0, 0)) rfl rfl
theorem s37_8 {d : Nat} {ls : mj_L} {st : List Value} {M : mj_H} : mj_Rn d mj_m37 8 ls st M = mq_k0 d mj_m37 11 ls M (mq_gf 9 6 st M) := (mj_R3 (r := (.getfield 31, 3, 9, 6, 8306)) rfl rfl).trans (congrArg (mq_k0 d mj_m37 11 ls M) mq_gf_eq)
theorem s37_11 {d : Nat} {ls : mj_L} {st : List Value} {M : mj_H} : mj_Rn d mj_m37 11 ls st M = mq_k2 d mj_m37 ls M (mj_br (.ifCond .lt 15) 11 st) := mj_R2 (r := (.ifCond .lt 15, 3, 0, 0, 0)) rfl rfl
theorem s37_14 {d : Nat} {ls : mj_L} {st : List Value} {M : mj_H} : mj_Rn d mj_m37 14 ls st M = mq_k0 d mj_m37 15 ls M (mj_lda (mj_lk ls 0) st) := mj_R0 (r := (.aload_n 0, 1, 0, 0, 0)) rfl rfl
theorem s37_15 {d : Nat} {ls : mj_L} {st : List Value} {M : mj_H} : mj_Rn d mj_m37 15 ls st M = mq_k0 d mj_m37 18 ls M (mq_gf 9 6 st M) := (mj_R3 (r := (.getfield 31, 3, 9, 6, 8306)) rfl rfl).trans (congrArg (mq_k0 d mj_m37 18 ls M) mq_gf_eq)
theorem s37_18 {d : Nat} {ls : mj_L} {st : List Value} {M : mj_H} : mj_Rn d mj_m37 18 ls st M = mq_k0 d mj_m37 19 ls M (mj_lda (mj_lk ls 0) st) := mj_R0 (r := (.aload_n 0, 1, 0, 0, 0)) rfl rfl
theorem s37_19 {d : Nat} {ls : mj_L} {st : List Value} {M : mj_H} : mj_Rn d mj_m37 19 ls st M = mq_k0 d mj_m37 22 ls M (mq_gf 9 1 st M) := (mj_R3 (r := (.getfield 15, 3, 9, 1, 8296)) rfl rfl).trans (congrArg (mq_k0 d mj_m37 22 ls M) mq_gf_eq)
theorem s37_22 {d : Nat} {ls : mj_L} {st : List Value} {M : mj_H} : mj_Rn d mj_m37 22 ls st M = mq_k0 d mj_m37 23 ls M (mq_len st M) := (mj_R3 (r := (.arraylength, 1, 0, 0, 0)) rfl rfl).trans (congrArg (mq_k0 d mj_m37 23 ls M) mq_len_eq)
theorem s37_23 {d : Nat} {ls : mj_L} {st : List Value} {M : mj_H} : mj_Rn d mj_m37 23 ls st M = mq_k2 d mj_m37 ls M (mj_br (.if_icmp .lt 8) 23 st) := mj_R2 (r := (.if_icmp .lt 8, 3, 0, 0, 0)) rfl rfl
theorem s37_26 {d : Nat} {ls : mj_L} {st : List Value} {M : mj_H} : mj_Rn d mj_m37 26 ls st M = mj_Rn d mj_m37 28 ls (.int 524288 :: st) M := mj_R3 (r := (.ldc 87, 2, 0, 0, 8401)) rfl rfl
theorem s37_28 {d : Nat} {ls : mj_L} {st : List Value} {M : mj_H} : mj_Rn d mj_m37 28 ls st M = mj_Rn d mj_m37 40 ls st M := mj_R2 (r := (.goto 12, 3, 0, 0, 0)) rfl rfl
theorem s37_31 {d : Nat} {ls : mj_L} {st : List Value} {M : mj_H} : mj_Rn d mj_m37 31 ls st M = mq_k0 d mj_m37 32 ls M (mj_lda (mj_lk ls 0) st) := mj_R0 (r := (.aload_n 0, 1, 0, 0, 0)) rfl rfl
theorem s37_32 {d : Nat} {ls : mj_L} {st : List Value} {M : mj_H} : mj_Rn d mj_m37 32 ls st M = mq_k0 d mj_m37 35 ls M (mq_gf 9 1 st M) := (mj_R3 (r := (.getfield 15, 3, 9, 1, 8296)) rfl rfl).trans (congrArg (mq_k0 d mj_m37 35 ls M) mq_gf_eq)
theorem s37_35 {d : Nat} {ls : mj_L} {st : List Value} {M : mj_H} : mj_Rn d mj_m37 35 ls st M = mq_k0 d mj_m37 36 ls M (mj_lda (mj_lk ls 0) st) := mj_R0 (r := (.aload_n 0, 1, 0, 0, 0)) rfl rfl
theorem s37_36 {d : Nat} {ls : mj_L} {st : List Value} {M : mj_H} : mj_Rn d mj_m37 36 ls st M = mq_k0 d mj_m37 39 ls M (mq_gf 9 6 st M) := (mj_R3 (r := (.getfield 31, 3, 9, 6, 8306)) rfl rfl).trans (congrArg (mq_k0 d mj_m37 39 ls M) mq_gf_eq)
theorem s37_39 {d : Nat} {ls : mj_L} {st : List Value} {M : mj_H} : mj_Rn d mj_m37 39 ls st M = mq_k0 d mj_m37 40 ls M (mq_al [1000] st M) := (mj_R3 (r := (.iaload, 1, 0, 0, 0)) rfl rfl).trans (congrArg (mq_k0 d mj_m37 40 ls M) mq_ali_eq)
theorem s37_40 {d : Nat} {ls : mj_L} {st : List Value} {M : mj_H} : mj_Rn d mj_m37 40 ls st M = mq_k1 d mj_m37 41 M (mj_lo 4 (.istore 2) ls st) := (mj_R1 (r := (.istore_n 2, 1, 0, 0, 0)) rfl rfl).trans (congrArg (mq_k1 d mj_m37 41 M) (mq_sti (k := 2)))
theorem s37_41 {d : Nat} {ls : mj_L} {st : List Value} {M : mj_H} : mj_Rn d mj_m37 41 ls st M = mq_k0 d mj_m37 42 ls M (mj_ldi (mj_lk ls 1) st) := mj_R0 (r := (.iload_n 1, 1, 0, 0, 0)) rfl rfl
theorem s37_42 {d : Nat} {ls : mj_L} {st : List Value} {M : mj_H} : mj_Rn d mj_m37 42 ls st M = mq_k0 d mj_m37 43 ls M (mj_lda (mj_lk ls 0) st) := mj_R0 (r := (.aload_n 0, 1, 0, 0, 0)) rfl rfl
theorem s37_43 {d : Nat} {ls : mj_L} {st : List Value} {M : mj_H} : mj_Rn d mj_m37 43 ls st M = mq_k0 d mj_m37 46 ls M (mq_gf 9 1 st M) := (mj_R3 (r := (.getfield 15, 3, 9, 1, 8296)) rfl rfl).trans (congrArg (mq_k0 d mj_m37 46 ls M) mq_gf_eq)
theorem s37_46 {d : Nat} {ls : mj_L} {st : List Value} {M : mj_H} : mj_Rn d mj_m37 46 ls st M = mq_k0 d mj_m37 47 ls M (mq_len st M) := (mj_R3 (r := (.arraylength, 1, 0, 0, 0)) rfl rfl).trans (congrArg (mq_k0 d mj_m37 47 ls M) mq_len_eq)
theorem s37_47 {d : Nat} {ls : mj_L} {st : List Value} {M : mj_H} : mj_Rn d mj_m37 47 ls st M = mq_k2 d mj_m37 ls M (mj_br (.if_icmp .ge 30) 47 st) := mj_R2 (r := (.if_icmp .ge 30, 3, 0, 0, 0)) rfl rfl
theorem s37_50 {d : Nat} {ls : mj_L} {st : List Value} {M : mj_H} : mj_Rn d mj_m37 50 ls st M = mq_k0 d mj_m37 51 ls M (mj_ldi (mj_lk ls 1) st) := mj_R0 (r := (.iload_n 1, 1, 0, 0, 0)) rfl rfl
theorem s37_51 {d : Nat} {ls : mj_L} {st : List Value} {M : mj_H} : mj_Rn d mj_m37 51 ls st M = mq_k0 d mj_m37 52 ls M (mj_lda (mj_lk ls 0) st) := mj_R0 (r := (.aload_n 0, 1, 0, 0, 0)) rfl rfl
theorem s37_52 {d : Nat} {ls : mj_L} {st : List Value} {M : mj_H} : mj_Rn d mj_m37 52 ls st M = mq_k0 d mj_m37 55 ls M (mq_gf 9 2 st M) := (mj_R3 (r := (.getfield 18, 3, 9, 2, 8298)) rfl rfl).trans (congrArg (mq_k0 d mj_m37 55 ls M) mq_gf_eq)
theorem s37_55 {d : Nat} {ls : mj_L} {st : List Value} {M : mj_H} : mj_Rn d mj_m37 55 ls st M = mq_k0 d mj_m37 56 ls M (mq_len st M) := (mj_R3 (r := (.arraylength, 1, 0, 0, 0)) rfl rfl).trans (congrArg (mq_k0 d mj_m37 56 ls M) mq_len_eq)
theorem s37_56 {d : Nat} {ls : mj_L} {st : List Value} {M : mj_H} : mj_Rn d mj_m37 56 ls st M = mq_k2 d mj_m37 ls M (mj_br (.if_icmp .ge 21) 56 st) := mj_R2 (r := (.if_icmp .ge 21, 3, 0, 0, 0)) rfl rfl
theorem s37_59 {d : Nat} {ls : mj_L} {st : List Value} {M : mj_H} : mj_Rn d mj_m37 59 ls st M = mq_k0 d mj_m37 60 ls M (mj_ldi (mj_lk ls 2) st) := mj_R0 (r := (.iload_n 2, 1, 0, 0, 0)) rfl rfl
theorem s37_60 {d : Nat} {ls : mj_L} {st : List Value} {M : mj_H} : mj_Rn d mj_m37 60 ls st M = mq_k2 d mj_m37 ls M (mj_br (.ifCond .lt 17) 60 st) := mj_R2 (r := (.ifCond .lt 17, 3, 0, 0, 0)) rfl rfl
theorem s37_63 {d : Nat} {ls : mj_L} {st : List Value} {M : mj_H} : mj_Rn d mj_m37 63 ls st M = mq_k0 d mj_m37 64 ls M (mj_ldi (mj_lk ls 2) st) := mj_R0 (r := (.iload_n 2, 1, 0, 0, 0)) rfl rfl
theorem s37_64 {d : Nat} {ls : mj_L} {st : List Value} {M : mj_H} : mj_Rn d mj_m37 64 ls st M = mq_k0 d mj_m37 65 ls M (mj_lda (mj_lk ls 0) st) := mj_R0 (r := (.aload_n 0, 1, 0, 0, 0)) rfl rfl
theorem s37_65 {d : Nat} {ls : mj_L} {st : List Value} {M : mj_H} : mj_Rn d mj_m37 65 ls st M = mq_k0 d mj_m37 68 ls M (mq_gf 9 5 st M) := (mj_R3 (r := (.getfield 27, 3, 9, 5, 8304)) rfl rfl).trans (congrArg (mq_k0 d mj_m37 68 ls M) mq_gf_eq)
theorem s37_68 {d : Nat} {ls : mj_L} {st : List Value} {M : mj_H} : mj_Rn d mj_m37 68 ls st M = mq_k0 d mj_m37 69 ls M (mj_pu .iadd ls st) := mj_R0 (r := (.iadd, 1, 0, 0, 0)) rfl rfl
theorem s37_69 {d : Nat} {ls : mj_L} {st : List Value} {M : mj_H} : mj_Rn d mj_m37 69 ls st M = mq_k0 d mj_m37 70 ls M (mj_lda (mj_lk ls 0) st) := mj_R0 (r := (.aload_n 0, 1, 0, 0, 0)) rfl rfl
theorem s37_70 {d : Nat} {ls : mj_L} {st : List Value} {M : mj_H} : mj_Rn d mj_m37 70 ls st M = mq_k0 d mj_m37 73 ls M (mq_gf 9 0 st M) := (mj_R3 (r := (.getfield 9, 3, 9, 0, 8294)) rfl rfl).trans (congrArg (mq_k0 d mj_m37 73 ls M) mq_gf_eq)
theorem s37_73 {d : Nat} {ls : mj_L} {st : List Value} {M : mj_H} : mj_Rn d mj_m37 73 ls st M = mq_k0 d mj_m37 74 ls M (mq_len st M) := (mj_R3 (r := (.arraylength, 1, 0, 0, 0)) rfl rfl).trans (congrArg (mq_k0 d mj_m37 74 ls M) mq_len_eq)
theorem s37_74 {d : Nat} {ls : mj_L} {st : List Value} {M : mj_H} : mj_Rn d mj_m37 74 ls st M = mq_k2 d mj_m37 ls M (mj_br (.if_icmp .le 5) 74 st) := mj_R2 (r := (.if_icmp .le 5, 3, 0, 0, 0)) rfl rfl
theorem s37_77 {d : Nat} {ls : mj_L} {st : List Value} {M : mj_H} : mj_Rn d mj_m37 77 ls st M = mj_Rn d mj_m37 78 ls (.int 0 :: st) M := mj_R0 (r := (.iconst 0, 1, 0, 0, 0)) rfl rfl
theorem s37_78 {d : Nat} {ls : mj_L} {st : List Value} {M : mj_H} : mj_Rn d mj_m37 78 ls st M = mq_k6 M (mj_re (some .int) (.ireturn) st) := mj_R6 (r := (.ireturn, 1, 0, 0, 0)) rfl rfl
theorem s37_79 {d : Nat} {ls : mj_L} {st : List Value} {M : mj_H} : mj_Rn d mj_m37 79 ls st M = mj_Rn d mj_m37 80 ls (.int 0 :: st) M := mj_R0 (r := (.iconst 0, 1, 0, 0, 0)) rfl rfl
theorem s37_80 {d : Nat} {ls : mj_L} {st : List Value} {M : mj_H} : mj_Rn d mj_m37 80 ls st M = mq_k1 d mj_m37 81 M (mj_lo 4 (.istore 3) ls st) := (mj_R1 (r := (.istore_n 3, 1, 0, 0, 0)) rfl rfl).trans (congrArg (mq_k1 d mj_m37 81 M) (mq_sti (k := 3)))
theorem s37_81 {d : Nat} {ls : mj_L} {st : List Value} {M : mj_H} : mj_Rn d mj_m37 81 ls st M = mq_k0 d mj_m37 82 ls M (mj_ldi (mj_lk ls 3) st) := mj_R0 (r := (.iload_n 3, 1, 0, 0, 0)) rfl rfl
theorem s37_82 {d : Nat} {ls : mj_L} {st : List Value} {M : mj_H} : mj_Rn d mj_m37 82 ls st M = mq_k0 d mj_m37 83 ls M (mj_lda (mj_lk ls 0) st) := mj_R0 (r := (.aload_n 0, 1, 0, 0, 0)) rfl rfl
theorem s37_83 {d : Nat} {ls : mj_L} {st : List Value} {M : mj_H} : mj_Rn d mj_m37 83 ls st M = mq_k0 d mj_m37 86 ls M (mq_gf 9 5 st M) := (mj_R3 (r := (.getfield 27, 3, 9, 5, 8304)) rfl rfl).trans (congrArg (mq_k0 d mj_m37 86 ls M) mq_gf_eq)
theorem s37_86 {d : Nat} {ls : mj_L} {st : List Value} {M : mj_H} : mj_Rn d mj_m37 86 ls st M = mq_k2 d mj_m37 ls M (mj_br (.if_icmp .ge 32) 86 st) := mj_R2 (r := (.if_icmp .ge 32, 3, 0, 0, 0)) rfl rfl
theorem s37_89 {d : Nat} {ls : mj_L} {st : List Value} {M : mj_H} : mj_Rn d mj_m37 89 ls st M = mq_k0 d mj_m37 90 ls M (mj_ldi (mj_lk ls 3) st) := mj_R0 (r := (.iload_n 3, 1, 0, 0, 0)) rfl rfl
theorem s37_90 {d : Nat} {ls : mj_L} {st : List Value} {M : mj_H} : mj_Rn d mj_m37 90 ls st M = mq_k0 d mj_m37 91 ls M (mj_lda (mj_lk ls 0) st) := mj_R0 (r := (.aload_n 0, 1, 0, 0, 0)) rfl rfl
theorem s37_91 {d : Nat} {ls : mj_L} {st : List Value} {M : mj_H} : mj_Rn d mj_m37 91 ls st M = mq_k0 d mj_m37 94 ls M (mq_gf 9 4 st M) := (mj_R3 (r := (.getfield 24, 3, 9, 4, 8302)) rfl rfl).trans (congrArg (mq_k0 d mj_m37 94 ls M) mq_gf_eq)
theorem s37_94 {d : Nat} {ls : mj_L} {st : List Value} {M : mj_H} : mj_Rn d mj_m37 94 ls st M = mq_k0 d mj_m37 95 ls M (mq_len st M) := (mj_R3 (r := (.arraylength, 1, 0, 0, 0)) rfl rfl).trans (congrArg (mq_k0 d mj_m37 95 ls M) mq_len_eq)
theorem s37_95 {d : Nat} {ls : mj_L} {st : List Value} {M : mj_H} : mj_Rn d mj_m37 95 ls st M = mq_k2 d mj_m37 ls M (mj_br (.if_icmp .ge 23) 95 st) := mj_R2 (r := (.if_icmp .ge 23, 3, 0, 0, 0)) rfl rfl
theorem s37_98 {d : Nat} {ls : mj_L} {st : List Value} {M : mj_H} : mj_Rn d mj_m37 98 ls st M = mq_k0 d mj_m37 99 ls M (mj_lda (mj_lk ls 0) st) := mj_R0 (r := (.aload_n 0, 1, 0, 0, 0)) rfl rfl
theorem s37_99 {d : Nat} {ls : mj_L} {st : List Value} {M : mj_H} : mj_Rn d mj_m37 99 ls st M = mq_k0 d mj_m37 102 ls M (mq_gf 9 0 st M) := (mj_R3 (r := (.getfield 9, 3, 9, 0, 8294)) rfl rfl).trans (congrArg (mq_k0 d mj_m37 102 ls M) mq_gf_eq)
theorem s37_102 {d : Nat} {ls : mj_L} {st : List Value} {M : mj_H} : mj_Rn d mj_m37 102 ls st M = mq_k0 d mj_m37 103 ls M (mj_ldi (mj_lk ls 2) st) := mj_R0 (r := (.iload_n 2, 1, 0, 0, 0)) rfl rfl
theorem s37_103 {d : Nat} {ls : mj_L} {st : List Value} {M : mj_H} : mj_Rn d mj_m37 103 ls st M = mq_k0 d mj_m37 104 ls M (mj_ldi (mj_lk ls 3) st) := mj_R0 (r := (.iload_n 3, 1, 0, 0, 0)) rfl rfl
theorem s37_104 {d : Nat} {ls : mj_L} {st : List Value} {M : mj_H} : mj_Rn d mj_m37 104 ls st M = mq_k0 d mj_m37 105 ls M (mj_pu .iadd ls st) := mj_R0 (r := (.iadd, 1, 0, 0, 0)) rfl rfl
theorem s37_105 {d : Nat} {ls : mj_L} {st : List Value} {M : mj_H} : mj_Rn d mj_m37 105 ls st M = mq_k0 d mj_m37 106 ls M (mj_lda (mj_lk ls 0) st) := mj_R0 (r := (.aload_n 0, 1, 0, 0, 0)) rfl rfl
theorem s37_106 {d : Nat} {ls : mj_L} {st : List Value} {M : mj_H} : mj_Rn d mj_m37 106 ls st M = mq_k0 d mj_m37 109 ls M (mq_gf 9 4 st M) := (mj_R3 (r := (.getfield 24, 3, 9, 4, 8302)) rfl rfl).trans (congrArg (mq_k0 d mj_m37 109 ls M) mq_gf_eq)
theorem s37_109 {d : Nat} {ls : mj_L} {st : List Value} {M : mj_H} : mj_Rn d mj_m37 109 ls st M = mq_k0 d mj_m37 110 ls M (mj_ldi (mj_lk ls 3) st) := mj_R0 (r := (.iload_n 3, 1, 0, 0, 0)) rfl rfl
theorem s37_110 {d : Nat} {ls : mj_L} {st : List Value} {M : mj_H} : mj_Rn d mj_m37 110 ls st M = mq_k0 d mj_m37 111 ls M (mq_al [1000] st M) := (mj_R3 (r := (.iaload, 1, 0, 0, 0)) rfl rfl).trans (congrArg (mq_k0 d mj_m37 111 ls M) mq_ali_eq)
theorem s37_111 {d : Nat} {ls : mj_L} {st : List Value} {M : mj_H} : mj_Rn d mj_m37 111 ls st M = mq_k4 d mj_m37 112 ls (mj_hw (.iastore, 1, 0, 0, 0) st M) := mj_R4 (r := (.iastore, 1, 0, 0, 0)) rfl rfl
theorem s37_112 {d : Nat} {ls : mj_L} {st : List Value} {M : mj_H} : mj_Rn d mj_m37 112 ls st M = mq_k1 d mj_m37 115 M (mj_lo 4 (.iinc 3 1) ls st) := mj_R1 (r := (.iinc 3 1, 3, 0, 0, 0)) rfl rfl
theorem s37_115 {d : Nat} {ls : mj_L} {st : List Value} {M : mj_H} : mj_Rn d mj_m37 115 ls st M = mj_Rn d mj_m37 81 ls st M := mj_R2 (r := (.goto (-34), 3, 0, 0, 0)) rfl rfl
theorem s37_118 {d : Nat} {ls : mj_L} {st : List Value} {M : mj_H} : mj_Rn d mj_m37 118 ls st M = mq_k0 d mj_m37 119 ls M (mj_lda (mj_lk ls 0) st) := mj_R0 (r := (.aload_n 0, 1, 0, 0, 0)) rfl rfl
theorem s37_119 {d : Nat} {ls : mj_L} {st : List Value} {M : mj_H} : mj_Rn d mj_m37 119 ls st M = mq_k0 d mj_m37 122 ls M (mq_gf 9 1 st M) := (mj_R3 (r := (.getfield 15, 3, 9, 1, 8296)) rfl rfl).trans (congrArg (mq_k0 d mj_m37 122 ls M) mq_gf_eq)
theorem s37_122 {d : Nat} {ls : mj_L} {st : List Value} {M : mj_H} : mj_Rn d mj_m37 122 ls st M = mq_k0 d mj_m37 123 ls M (mj_ldi (mj_lk ls 1) st) := mj_R0 (r := (.iload_n 1, 1, 0, 0, 0)) rfl rfl
theorem s37_123 {d : Nat} {ls : mj_L} {st : List Value} {M : mj_H} : mj_Rn d mj_m37 123 ls st M = mq_k0 d mj_m37 124 ls M (mj_ldi (mj_lk ls 2) st) := mj_R0 (r := (.iload_n 2, 1, 0, 0, 0)) rfl rfl
theorem s37_124 {d : Nat} {ls : mj_L} {st : List Value} {M : mj_H} : mj_Rn d mj_m37 124 ls st M = mq_k0 d mj_m37 125 ls M (mj_lda (mj_lk ls 0) st) := mj_R0 (r := (.aload_n 0, 1, 0, 0, 0)) rfl rfl
theorem s37_125 {d : Nat} {ls : mj_L} {st : List Value} {M : mj_H} : mj_Rn d mj_m37 125 ls st M = mq_k0 d mj_m37 128 ls M (mq_gf 9 5 st M) := (mj_R3 (r := (.getfield 27, 3, 9, 5, 8304)) rfl rfl).trans (congrArg (mq_k0 d mj_m37 128 ls M) mq_gf_eq)
theorem s37_128 {d : Nat} {ls : mj_L} {st : List Value} {M : mj_H} : mj_Rn d mj_m37 128 ls st M = mq_k0 d mj_m37 129 ls M (mj_pu .iadd ls st) := mj_R0 (r := (.iadd, 1, 0, 0, 0)) rfl rfl
theorem s37_129 {d : Nat} {ls : mj_L} {st : List Value} {M : mj_H} : mj_Rn d mj_m37 129 ls st M = mq_k4 d mj_m37 130 ls (mj_hw (.iastore, 1, 0, 0, 0) st M) := mj_R4 (r := (.iastore, 1, 0, 0, 0)) rfl rfl
theorem s37_130 {d : Nat} {ls : mj_L} {st : List Value} {M : mj_H} : mj_Rn d mj_m37 130 ls st M = mq_k0 d mj_m37 131 ls M (mj_lda (mj_lk ls 0) st) := mj_R0 (r := (.aload_n 0, 1, 0, 0, 0)) rfl rfl
theorem s37_131 {d : Nat} {ls : mj_L} {st : List Value} {M : mj_H} : mj_Rn (d + 1) mj_m37 131 ls st M = mq_k5a (d + 1) mj_m37 134 ls M 32 (mq_cb 0 0 9 st M) := mj_R5e (r := (.invokevirtual 67, 3, 0, 32, 8373)) (z := mj_m32) rfl rfl (by decide) (by decide) rfl
theorem s37_134 {d : Nat} {ls : mj_L} {st : List Value} {M : mj_H} : mj_Rn d mj_m37 134 ls st M = mq_k1 d mj_m37 135 M (mj_lo 4 (.istore 3) ls st) := (mj_R1 (r := (.istore_n 3, 1, 0, 0, 0)) rfl rfl).trans (congrArg (mq_k1 d mj_m37 135 M) (mq_sti (k := 3)))
theorem s37_135 {d : Nat} {ls : mj_L} {st : List Value} {M : mj_H} : mj_Rn d mj_m37 135 ls st M = mq_k0 d mj_m37 136 ls M (mj_ldi (mj_lk ls 3) st) := mj_R0 (r := (.iload_n 3, 1, 0, 0, 0)) rfl rfl
theorem s37_136 {d : Nat} {ls : mj_L} {st : List Value} {M : mj_H} : mj_Rn d mj_m37 136 ls st M = mq_k2 d mj_m37 ls M (mj_br (.ifCond .lt 31) 136 st) := mj_R2 (r := (.ifCond .lt 31, 3, 0, 0, 0)) rfl rfl
theorem s37_139 {d : Nat} {ls : mj_L} {st : List Value} {M : mj_H} : mj_Rn d mj_m37 139 ls st M = mq_k0 d mj_m37 140 ls M (mj_ldi (mj_lk ls 3) st) := mj_R0 (r := (.iload_n 3, 1, 0, 0, 0)) rfl rfl
theorem s37_140 {d : Nat} {ls : mj_L} {st : List Value} {M : mj_H} : mj_Rn d mj_m37 140 ls st M = mq_k0 d mj_m37 141 ls M (mj_lda (mj_lk ls 0) st) := mj_R0 (r := (.aload_n 0, 1, 0, 0, 0)) rfl rfl
theorem s37_141 {d : Nat} {ls : mj_L} {st : List Value} {M : mj_H} : mj_Rn d mj_m37 141 ls st M = mq_k0 d mj_m37 144 ls M (mq_gf 9 3 st M) := (mj_R3 (r := (.getfield 21, 3, 9, 3, 8300)) rfl rfl).trans (congrArg (mq_k0 d mj_m37 144 ls M) mq_gf_eq)
theorem s37_144 {d : Nat} {ls : mj_L} {st : List Value} {M : mj_H} : mj_Rn d mj_m37 144 ls st M = mq_k0 d mj_m37 145 ls M (mq_len st M) := (mj_R3 (r := (.arraylength, 1, 0, 0, 0)) rfl rfl).trans (congrArg (mq_k0 d mj_m37 145 ls M) mq_len_eq)
theorem s37_145 {d : Nat} {ls : mj_L} {st : List Value} {M : mj_H} : mj_Rn d mj_m37 145 ls st M = mq_k2 d mj_m37 ls M (mj_br (.if_icmp .ge 22) 145 st) := mj_R2 (r := (.if_icmp .ge 22, 3, 0, 0, 0)) rfl rfl
theorem s37_148 {d : Nat} {ls : mj_L} {st : List Value} {M : mj_H} : mj_Rn d mj_m37 148 ls st M = mq_k0 d mj_m37 149 ls M (mj_lda (mj_lk ls 0) st) := mj_R0 (r := (.aload_n 0, 1, 0, 0, 0)) rfl rfl
theorem s37_149 {d : Nat} {ls : mj_L} {st : List Value} {M : mj_H} : mj_Rn d mj_m37 149 ls st M = mq_k0 d mj_m37 152 ls M (mq_gf 9 2 st M) := (mj_R3 (r := (.getfield 18, 3, 9, 2, 8298)) rfl rfl).trans (congrArg (mq_k0 d mj_m37 152 ls M) mq_gf_eq)
theorem s37_152 {d : Nat} {ls : mj_L} {st : List Value} {M : mj_H} : mj_Rn d mj_m37 152 ls st M = mq_k0 d mj_m37 153 ls M (mj_ldi (mj_lk ls 1) st) := mj_R0 (r := (.iload_n 1, 1, 0, 0, 0)) rfl rfl
theorem s37_153 {d : Nat} {ls : mj_L} {st : List Value} {M : mj_H} : mj_Rn d mj_m37 153 ls st M = mq_k0 d mj_m37 154 ls M (mj_lda (mj_lk ls 0) st) := mj_R0 (r := (.aload_n 0, 1, 0, 0, 0)) rfl rfl
theorem s37_154 {d : Nat} {ls : mj_L} {st : List Value} {M : mj_H} : mj_Rn d mj_m37 154 ls st M = mq_k0 d mj_m37 157 ls M (mq_gf 9 3 st M) := (mj_R3 (r := (.getfield 21, 3, 9, 3, 8300)) rfl rfl).trans (congrArg (mq_k0 d mj_m37 157 ls M) mq_gf_eq)
theorem s37_157 {d : Nat} {ls : mj_L} {st : List Value} {M : mj_H} : mj_Rn d mj_m37 157 ls st M = mq_k0 d mj_m37 158 ls M (mj_ldi (mj_lk ls 3) st) := mj_R0 (r := (.iload_n 3, 1, 0, 0, 0)) rfl rfl
theorem s37_158 {d : Nat} {ls : mj_L} {st : List Value} {M : mj_H} : mj_Rn d mj_m37 158 ls st M = mq_k0 d mj_m37 159 ls M (mq_al [1000] st M) := (mj_R3 (r := (.iaload, 1, 0, 0, 0)) rfl rfl).trans (congrArg (mq_k0 d mj_m37 159 ls M) mq_ali_eq)
theorem s37_159 {d : Nat} {ls : mj_L} {st : List Value} {M : mj_H} : mj_Rn d mj_m37 159 ls st M = mq_k4 d mj_m37 160 ls (mj_hw (.iastore, 1, 0, 0, 0) st M) := mj_R4 (r := (.iastore, 1, 0, 0, 0)) rfl rfl
theorem s37_160 {d : Nat} {ls : mj_L} {st : List Value} {M : mj_H} : mj_Rn d mj_m37 160 ls st M = mq_k0 d mj_m37 161 ls M (mj_lda (mj_lk ls 0) st) := mj_R0 (r := (.aload_n 0, 1, 0, 0, 0)) rfl rfl
theorem s37_161 {d : Nat} {ls : mj_L} {st : List Value} {M : mj_H} : mj_Rn d mj_m37 161 ls st M = mq_k0 d mj_m37 164 ls M (mq_gf 9 3 st M) := (mj_R3 (r := (.getfield 21, 3, 9, 3, 8300)) rfl rfl).trans (congrArg (mq_k0 d mj_m37 164 ls M) mq_gf_eq)
theorem s37_164 {d : Nat} {ls : mj_L} {st : List Value} {M : mj_H} : mj_Rn d mj_m37 164 ls st M = mq_k0 d mj_m37 165 ls M (mj_ldi (mj_lk ls 3) st) := mj_R0 (r := (.iload_n 3, 1, 0, 0, 0)) rfl rfl
theorem s37_165 {d : Nat} {ls : mj_L} {st : List Value} {M : mj_H} : mj_Rn d mj_m37 165 ls st M = mq_k0 d mj_m37 166 ls M (mj_ldi (mj_lk ls 1) st) := mj_R0 (r := (.iload_n 1, 1, 0, 0, 0)) rfl rfl
theorem s37_166 {d : Nat} {ls : mj_L} {st : List Value} {M : mj_H} : mj_Rn d mj_m37 166 ls st M = mq_k4 d mj_m37 167 ls (mj_hw (.iastore, 1, 0, 0, 0) st M) := mj_R4 (r := (.iastore, 1, 0, 0, 0)) rfl rfl
theorem s37_167 {d : Nat} {ls : mj_L} {st : List Value} {M : mj_H} : mj_Rn d mj_m37 167 ls st M = mq_k0 d mj_m37 168 ls M (mj_lda (mj_lk ls 0) st) := mj_R0 (r := (.aload_n 0, 1, 0, 0, 0)) rfl rfl
theorem s37_168 {d : Nat} {ls : mj_L} {st : List Value} {M : mj_H} : mj_Rn d mj_m37 168 ls st M = mq_k0 d mj_m37 169 ls M (mj_ldi (mj_lk ls 1) st) := mj_R0 (r := (.iload_n 1, 1, 0, 0, 0)) rfl rfl
theorem s37_169 {d : Nat} {ls : mj_L} {st : List Value} {M : mj_H} : mj_Rn d mj_m37 169 ls st M = mq_k4 d mj_m37 172 ls (mq_pf 9 6 0 st M) := (mj_R4 (r := (.putfield 31, 3, 9, 6, 8306)) rfl rfl).trans (congrArg (mq_k4 d mj_m37 172 ls) (mq_pf_eq rfl rfl))
theorem s37_172 {d : Nat} {ls : mj_L} {st : List Value} {M : mj_H} : mj_Rn d mj_m37 172 ls st M = mq_k0 d mj_m37 173 ls M (mj_ldi (mj_lk ls 1) st) := mj_R0 (r := (.iload_n 1, 1, 0, 0, 0)) rfl rfl
theorem s37_173 {d : Nat} {ls : mj_L} {st : List Value} {M : mj_H} : mj_Rn d mj_m37 173 ls st M = mq_k6 M (mj_re (some .int) (.ireturn) st) := mj_R6 (r := (.ireturn, 1, 0, 0, 0)) rfl rfl
/- 66 PasskeyHouse$Terms.newSecret()I -/
theorem s66_0 {d : Nat} {ls : mj_L} {st : List Value} {M : mj_H} : mj_Rn d mj_m66 0 ls st M = mq_k0 d mj_m66 1 ls M (mj_lda (mj_lk ls 0) st) := mj_R0 (r := (.aload_n 0, 1, 0, 0, 0)) rfl rfl
theorem s66_1 {d : Nat} {ls : mj_L} {st : List Value} {M : mj_H} : mj_Rn d mj_m66 1 ls st M = mq_k0 d mj_m66 2 ls M (mj_pu .dup ls st) := mj_R0 (r := (.dup, 1, 0, 0, 0)) rfl rfl
theorem s66_2 {d : Nat} {ls : mj_L} {st : List Value} {M : mj_H} : mj_Rn d mj_m66 2 ls st M = mq_k0 d mj_m66 5 ls M (mq_gf 9 8 st M) := (mj_R3 (r := (.getfield 37, 3, 9, 8, 8310)) rfl rfl).trans (congrArg (mq_k0 d mj_m66 5 ls M) mq_gf_eq)
theorem s66_5 {d : Nat} {ls : mj_L} {st : List Value} {M : mj_H} : mj_Rn d mj_m66 5 ls st M = mj_Rn d mj_m66 6 ls (.int 1 :: st) M := mj_R0 (r := (.iconst 1, 1, 0, 0, 0)) rfl rfl
theorem s66_6 {d : Nat} {ls : mj_L} {st : List Value} {M : mj_H} : mj_Rn d mj_m66 6 ls st M = mq_k0 d mj_m66 7 ls M (mj_pu .iadd ls st) := mj_R0 (r := (.iadd, 1, 0, 0, 0)) rfl rfl
theorem s66_7 {d : Nat} {ls : mj_L} {st : List Value} {M : mj_H} : mj_Rn d mj_m66 7 ls st M = mq_k4 d mj_m66 10 ls (mq_pf 9 8 0 st M) := (mj_R4 (r := (.putfield 37, 3, 9, 8, 8310)) rfl rfl).trans (congrArg (mq_k4 d mj_m66 10 ls) (mq_pf_eq rfl rfl))
theorem s66_10 {d : Nat} {ls : mj_L} {st : List Value} {M : mj_H} : mj_Rn d mj_m66 10 ls st M = mq_k0 d mj_m66 11 ls M (mj_lda (mj_lk ls 0) st) := mj_R0 (r := (.aload_n 0, 1, 0, 0, 0)) rfl rfl
theorem s66_11 {d : Nat} {ls : mj_L} {st : List Value} {M : mj_H} : mj_Rn d mj_m66 11 ls st M = mq_k0 d mj_m66 14 ls M (mq_gf 9 8 st M) := (mj_R3 (r := (.getfield 37, 3, 9, 8, 8310)) rfl rfl).trans (congrArg (mq_k0 d mj_m66 14 ls M) mq_gf_eq)
theorem s66_14 {d : Nat} {ls : mj_L} {st : List Value} {M : mj_H} : mj_Rn d mj_m66 14 ls st M = mq_k6 M (mj_re (some .int) (.ireturn) st) := mj_R6 (r := (.ireturn, 1, 0, 0, 0)) rfl rfl
/- 130 PasskeyHouse$Terms.publicOf(I)I -/
theorem s130_0 {d : Nat} {ls : mj_L} {st : List Value} {M : mj_H} : mj_Rn d mj_m130 0 ls st M = mq_k0 d mj_m130 1 ls M (mj_lda (mj_lk ls 0) st) := mj_R0 (r := (.aload_n 0, 1, 0, 0, 0)) rfl rfl
theorem s130_1 {d : Nat} {ls : mj_L} {st : List Value} {M : mj_H} : mj_Rn d mj_m130 1 ls st M = mj_Rn d mj_m130 2 ls (.int 2 :: st) M := mj_R0 (r := (.iconst 2, 1, 0, 0, 0)) rfl rfl
theorem s130_2 {d : Nat} {ls : mj_L} {st : List Value} {M : mj_H} : mj_Rn (d + 1) mj_m130 2 ls st M = mq_k5a (d + 1) mj_m130 5 ls M 28 (mq_cb 0 1 9 st M) := mj_R5e (r := (.invokevirtual 44, 3, 0, 28, 8357)) (z := mj_m28) rfl rfl (by decide) (by decide) rfl
theorem s130_5 {d : Nat} {ls : mj_L} {st : List Value} {M : mj_H} : mj_Rn d mj_m130 5 ls st M = mq_k0 d mj_m130 6 ls M (mj_lda (mj_lk ls 0) st) := mj_R0 (r := (.aload_n 0, 1, 0, 0, 0)) rfl rfl
theorem s130_6 {d : Nat} {ls : mj_L} {st : List Value} {M : mj_H} : mj_Rn d mj_m130 6 ls st M = mq_k0 d mj_m130 7 ls M (mj_ldi (mj_lk ls 1) st) := mj_R0 (r := (.iload_n 1, 1, 0, 0, 0)) rfl rfl
theorem s130_7 {d : Nat} {ls : mj_L} {st : List Value} {M : mj_H} : mj_Rn (d + 1) mj_m130 7 ls st M = mq_k5a (d + 1) mj_m130 10 ls M 29 (mq_cb 0 1 9 st M) := mj_R5e (r := (.invokevirtual 40, 3, 0, 29, 8361)) (z := mj_m29) rfl rfl (by decide) (by decide) rfl
theorem s130_10 {d : Nat} {ls : mj_L} {st : List Value} {M : mj_H} : mj_Rn d mj_m130 10 ls st M = mq_k0 d mj_m130 11 ls M (mj_lda (mj_lk ls 0) st) := mj_R0 (r := (.aload_n 0, 1, 0, 0, 0)) rfl rfl
theorem s130_11 {d : Nat} {ls : mj_L} {st : List Value} {M : mj_H} : mj_Rn (d + 1) mj_m130 11 ls st M = mq_k5a (d + 1) mj_m130 14 ls M 30 (mq_cb 0 0 9 st M) := mj_R5e (r := (.invokevirtual 84, 3, 0, 30, 8365)) (z := mj_m30) rfl rfl (by decide) (by decide) rfl
theorem s130_14 {d : Nat} {ls : mj_L} {st : List Value} {M : mj_H} : mj_Rn d mj_m130 14 ls st M = mq_k6 M (mj_re (some .int) (.ireturn) st) := mj_R6 (r := (.ireturn, 1, 0, 0, 0)) rfl rfl
/- 145 PasskeyHouse$Terms.secretOf(I)I -/
theorem s145_0 {d : Nat} {ls : mj_L} {st : List Value} {M : mj_H} : mj_Rn d mj_m145 0 ls st M = mq_k0 d mj_m145 1 ls M (mj_lda (mj_lk ls 0) st) := mj_R0 (r := (.aload_n 0, 1, 0, 0, 0)) rfl rfl
theorem s145_1 {d : Nat} {ls : mj_L} {st : List Value} {M : mj_H} : mj_Rn d mj_m145 1 ls st M = mq_k0 d mj_m145 2 ls M (mj_ldi (mj_lk ls 1) st) := mj_R0 (r := (.iload_n 1, 1, 0, 0, 0)) rfl rfl
theorem s145_2 {d : Nat} {ls : mj_L} {st : List Value} {M : mj_H} : mj_Rn d mj_m145 2 ls st M = mj_Rn d mj_m145 3 ls (.int 0 :: st) M := mj_R0 (r := (.iconst 0, 1, 0, 0, 0)) rfl rfl
theorem s145_3 {d : Nat} {ls : mj_L} {st : List Value} {M : mj_H} : mj_Rn (d + 1) mj_m145 3 ls st M = mq_k5a (d + 1) mj_m145 6 ls M 20 (mq_cb 0 2 9 st M) := mj_R5e (r := (.invokevirtual 64, 3, 0, 20, 16613)) (z := mj_m20) rfl rfl (by decide) (by decide) rfl
theorem s145_6 {d : Nat} {ls : mj_L} {st : List Value} {M : mj_H} : mj_Rn d mj_m145 6 ls st M = mj_Rn d mj_m145 7 ls (.int 2 :: st) M := mj_R0 (r := (.iconst 2, 1, 0, 0, 0)) rfl rfl
theorem s145_7 {d : Nat} {ls : mj_L} {st : List Value} {M : mj_H} : mj_Rn d mj_m145 7 ls st M = mq_k2 d mj_m145 ls M (mj_br (.if_icmp .ne 12) 7 st) := mj_R2 (r := (.if_icmp .ne 12, 3, 0, 0, 0)) rfl rfl
theorem s145_10 {d : Nat} {ls : mj_L} {st : List Value} {M : mj_H} : mj_Rn d mj_m145 10 ls st M = mq_k0 d mj_m145 11 ls M (mj_lda (mj_lk ls 0) st) := mj_R0 (r := (.aload_n 0, 1, 0, 0, 0)) rfl rfl
theorem s145_11 {d : Nat} {ls : mj_L} {st : List Value} {M : mj_H} : mj_Rn d mj_m145 11 ls st M = mq_k0 d mj_m145 12 ls M (mj_ldi (mj_lk ls 1) st) := mj_R0 (r := (.iload_n 1, 1, 0, 0, 0)) rfl rfl
theorem s145_12 {d : Nat} {ls : mj_L} {st : List Value} {M : mj_H} : mj_Rn d mj_m145 12 ls st M = mj_Rn d mj_m145 13 ls (.int 1 :: st) M := mj_R0 (r := (.iconst 1, 1, 0, 0, 0)) rfl rfl
theorem s145_13 {d : Nat} {ls : mj_L} {st : List Value} {M : mj_H} : mj_Rn (d + 1) mj_m145 13 ls st M = mq_k5a (d + 1) mj_m145 16 ls M 20 (mq_cb 0 2 9 st M) := mj_R5e (r := (.invokevirtual 64, 3, 0, 20, 16613)) (z := mj_m20) rfl rfl (by decide) (by decide) rfl
theorem s145_16 {d : Nat} {ls : mj_L} {st : List Value} {M : mj_H} : mj_Rn d mj_m145 16 ls st M = mj_Rn d mj_m145 20 ls st M := mj_R2 (r := (.goto 4, 3, 0, 0, 0)) rfl rfl
theorem s145_19 {d : Nat} {ls : mj_L} {st : List Value} {M : mj_H} : mj_Rn d mj_m145 19 ls st M = mj_Rn d mj_m145 20 ls (.int 0 :: st) M := mj_R0 (r := (.iconst 0, 1, 0, 0, 0)) rfl rfl
theorem s145_20 {d : Nat} {ls : mj_L} {st : List Value} {M : mj_H} : mj_Rn d mj_m145 20 ls st M = mq_k6 M (mj_re (some .int) (.ireturn) st) := mj_R6 (r := (.ireturn, 1, 0, 0, 0)) rfl rfl
/- 147 PasskeyHouse$Terms.beginAgreed(II)V -/
theorem s147_0 {d : Nat} {ls : mj_L} {st : List Value} {M : mj_H} : mj_Rn d mj_m147 0 ls st M = mq_k0 d mj_m147 1 ls M (mj_lda (mj_lk ls 0) st) := mj_R0 (r := (.aload_n 0, 1, 0, 0, 0)) rfl rfl
theorem s147_1 {d : Nat} {ls : mj_L} {st : List Value} {M : mj_H} : mj_Rn d mj_m147 1 ls st M = mj_Rn d mj_m147 2 ls (.int 3 :: st) M := mj_R0 (r := (.iconst 3, 1, 0, 0, 0)) rfl rfl
theorem s147_2 {d : Nat} {ls : mj_L} {st : List Value} {M : mj_H} : mj_Rn (d + 1) mj_m147 2 ls st M = mq_k5a (d + 1) mj_m147 5 ls M 28 (mq_cb 0 1 9 st M) := mj_R5e (r := (.invokevirtual 44, 3, 0, 28, 8357)) (z := mj_m28) rfl rfl (by decide) (by decide) rfl
theorem s147_5 {d : Nat} {ls : mj_L} {st : List Value} {M : mj_H} : mj_Rn d mj_m147 5 ls st M = mq_k0 d mj_m147 6 ls M (mj_lda (mj_lk ls 0) st) := mj_R0 (r := (.aload_n 0, 1, 0, 0, 0)) rfl rfl
theorem s147_6 {d : Nat} {ls : mj_L} {st : List Value} {M : mj_H} : mj_Rn d mj_m147 6 ls st M = mq_k0 d mj_m147 7 ls M (mj_ldi (mj_lk ls 1) st) := mj_R0 (r := (.iload_n 1, 1, 0, 0, 0)) rfl rfl
theorem s147_7 {d : Nat} {ls : mj_L} {st : List Value} {M : mj_H} : mj_Rn d mj_m147 7 ls st M = mq_k0 d mj_m147 8 ls M (mj_ldi (mj_lk ls 2) st) := mj_R0 (r := (.iload_n 2, 1, 0, 0, 0)) rfl rfl
theorem s147_8 {d : Nat} {ls : mj_L} {st : List Value} {M : mj_H} : mj_Rn (d + 1) mj_m147 8 ls st M = mq_k5a (d + 1) mj_m147 11 ls M 36 (mq_cb 2 2 999 st M) := mj_R5e (r := (.invokestatic 47, 3, 2, 36, 16622)) (z := mj_m36) rfl rfl (by decide) (by decide) rfl
theorem s147_11 {d : Nat} {ls : mj_L} {st : List Value} {M : mj_H} : mj_Rn (d + 1) mj_m147 11 ls st M = mq_k5a (d + 1) mj_m147 14 ls M 29 (mq_cb 0 1 9 st M) := mj_R5e (r := (.invokevirtual 40, 3, 0, 29, 8361)) (z := mj_m29) rfl rfl (by decide) (by decide) rfl
theorem s147_14 {d : Nat} {ls : mj_L} {st : List Value} {M : mj_H} : mj_Rn d mj_m147 14 ls st M = mq_k0 d mj_m147 15 ls M (mj_lda (mj_lk ls 0) st) := mj_R0 (r := (.aload_n 0, 1, 0, 0, 0)) rfl rfl
theorem s147_15 {d : Nat} {ls : mj_L} {st : List Value} {M : mj_H} : mj_Rn d mj_m147 15 ls st M = mq_k0 d mj_m147 16 ls M (mj_ldi (mj_lk ls 1) st) := mj_R0 (r := (.iload_n 1, 1, 0, 0, 0)) rfl rfl
theorem s147_16 {d : Nat} {ls : mj_L} {st : List Value} {M : mj_H} : mj_Rn d mj_m147 16 ls st M = mq_k0 d mj_m147 17 ls M (mj_ldi (mj_lk ls 2) st) := mj_R0 (r := (.iload_n 2, 1, 0, 0, 0)) rfl rfl
theorem s147_17 {d : Nat} {ls : mj_L} {st : List Value} {M : mj_H} : mj_Rn (d + 1) mj_m147 17 ls st M = mq_k5a (d + 1) mj_m147 20 ls M 3 (mq_cb 2 2 999 st M) := mj_R5e (r := (.invokestatic 53, 3, 2, 3, 16623)) (z := mj_m3) rfl rfl (by decide) (by decide) rfl
theorem s147_20 {d : Nat} {ls : mj_L} {st : List Value} {M : mj_H} : mj_Rn (d + 1) mj_m147 20 ls st M = mq_k5a (d + 1) mj_m147 23 ls M 29 (mq_cb 0 1 9 st M) := mj_R5e (r := (.invokevirtual 40, 3, 0, 29, 8361)) (z := mj_m29) rfl rfl (by decide) (by decide) rfl
theorem s147_23 {d : Nat} {ls : mj_L} {st : List Value} {M : mj_H} : mj_Rn d mj_m147 23 ls st M = mq_k6 M (mj_re none (.return_) st) := mj_R6 (r := (.return_, 1, 0, 0, 0)) rfl rfl
theorem c27 {d : Nat} {a0 : Nat} {M : mj_H} : mj_V (d + 1) 27 [.ref a0] M = mj_Rn d mj_m27 0 [(0, .ref a0)] [] M := mj_V_go rfl (Nat.le_of_ble_eq_true rfl)
theorem c30 {d : Nat} {a0 : Nat} {M : mj_H} : mj_V (d + 1) 30 [.ref a0] M = mj_Rn d mj_m30 0 [(0, .ref a0)] [] M := mj_V_go rfl (Nat.le_of_ble_eq_true rfl)
theorem c34 {d : Nat} {a0 : Nat} {M : mj_H} : mj_V (d + 1) 34 [.ref a0] M = mj_Rn d mj_m34 0 [(0, .ref a0)] [] M := mj_V_go rfl (Nat.le_of_ble_eq_true rfl)
theorem c35 {d : Nat} {a0 : Nat} {x1 : Int32} {M : mj_H} : mj_V (d + 1) 35 [.ref a0, .int x1] M = mj_Rn d mj_m35 0 [(0, .ref a0), (1, .int x1)] [] M := mj_V_go rfl (Nat.le_of_ble_eq_true rfl)
theorem c36 {d : Nat} {x0 : Int32} {x1 : Int32} {M : mj_H} : mj_V (d + 1) 36 [.int x0, .int x1] M = mj_Rn d mj_m36 0 [(0, .int x0), (1, .int x1)] [] M := mj_V_go rfl (Nat.le_of_ble_eq_true rfl)
theorem c3 {d : Nat} {x0 : Int32} {x1 : Int32} {M : mj_H} : mj_V (d + 1) 3 [.int x0, .int x1] M = mj_Rn d mj_m3 0 [(0, .int x0), (1, .int x1)] [] M := mj_V_go rfl (Nat.le_of_ble_eq_true rfl)
theorem c37 {d : Nat} {a0 : Nat} {M : mj_H} : mj_V (d + 1) 37 [.ref a0] M = mj_Rn d mj_m37 0 [(0, .ref a0)] [] M := mj_V_go rfl (Nat.le_of_ble_eq_true rfl)
theorem c66 {d : Nat} {a0 : Nat} {M : mj_H} : mj_V (d + 1) 66 [.ref a0] M = mj_Rn d mj_m66 0 [(0, .ref a0)] [] M := mj_V_go rfl (Nat.le_of_ble_eq_true rfl)
theorem c130 {d : Nat} {a0 : Nat} {x1 : Int32} {M : mj_H} : mj_V (d + 1) 130 [.ref a0, .int x1] M = mj_Rn d mj_m130 0 [(0, .ref a0), (1, .int x1)] [] M := mj_V_go rfl (Nat.le_of_ble_eq_true rfl)
theorem c145 {d : Nat} {a0 : Nat} {x1 : Int32} {M : mj_H} : mj_V (d + 1) 145 [.ref a0, .int x1] M = mj_Rn d mj_m145 0 [(0, .ref a0), (1, .int x1)] [] M := mj_V_go rfl (Nat.le_of_ble_eq_true rfl)
theorem c147 {d : Nat} {a0 : Nat} {x1 : Int32} {x2 : Int32} {M : mj_H} : mj_V (d + 1) 147 [.ref a0, .int x1, .int x2] M = mj_Rn d mj_m147 0 [(0, .ref a0), (1, .int x1), (2, .int x2)] [] M := mj_V_go rfl (Nat.le_of_ble_eq_true rfl)
theorem aty_i : defaultValue (mj_aty 1000) = .int 0 := rfl
theorem aty_b : defaultValue (mj_aty 1002) = .int 0 := rfl
theorem aty_l : defaultValue (mj_aty 1003) = .long 0 := rfl
theorem j_min {d : Nat} {x y : Int32} {M : mj_H} : mj_V (d + 1) 36 [.int x, .int y] M = some (some (.int (if x ≤ y then x else y)), M) := by
  by_cases h : x ≤ y
  · have h' : ¬ y < x := by rw [Int32.lt_iff_toInt_lt]; rw [Int32.le_iff_toInt_le] at h; omega
    simp [c36, s36_0, s36_1, s36_2, s36_5, s36_6, s36_9, s36_10, mq_k0s, mq_k1s, mq_k2s, mq_k4s, mq_k5s, mq_k5n, mq_k5as, mq_k6s, mj_pu, mj_lo, mj_br, mj_hr, mj_hw, mq_gf, mq_len, mq_al, mq_pf, mq_ok, mj_re, mj_lk, mj_ldi, mj_ldl, mj_lda, mj_ii, mj_ll, mj_li, mj_i1, mj_s1, mj_s2, mj_tg, mj_c1, mj_c2, mj_ar, mj_aw, mq_cb, mq_oi, mj_rm, Value.category, h, h', narrow]
  · have h' : y < x := by rw [Int32.lt_iff_toInt_lt]; rw [Int32.le_iff_toInt_le] at h; omega
    simp [c36, s36_0, s36_1, s36_2, s36_5, s36_6, s36_9, s36_10, mq_k0s, mq_k1s, mq_k2s, mq_k4s, mq_k5s, mq_k5n, mq_k5as, mq_k6s, mj_pu, mj_lo, mj_br, mj_hr, mj_hw, mq_gf, mq_len, mq_al, mq_pf, mq_ok, mj_re, mj_lk, mj_ldi, mj_ldl, mj_lda, mj_ii, mj_ll, mj_li, mj_i1, mj_s1, mj_s2, mj_tg, mj_c1, mj_c2, mj_ar, mj_aw, mq_cb, mq_oi, mj_rm, Value.category, h, h', narrow]
theorem j_max {d : Nat} {x y : Int32} {M : mj_H} : mj_V (d + 1) 3 [.int x, .int y] M = some (some (.int (if x < y then y else x)), M) := by
  by_cases h : x < y
  · simp [c3, s3_0, s3_1, s3_2, s3_5, s3_6, s3_9, s3_10, mq_k0s, mq_k1s, mq_k2s, mq_k4s, mq_k5s, mq_k5n, mq_k5as, mq_k6s, mj_pu, mj_lo, mj_br, mj_hr, mj_hw, mq_gf, mq_len, mq_al, mq_pf, mq_ok, mj_re, mj_lk, mj_ldi, mj_ldl, mj_lda, mj_ii, mj_ll, mj_li, mj_i1, mj_s1, mj_s2, mj_tg, mj_c1, mj_c2, mj_ar, mj_aw, mq_cb, mq_oi, mj_rm, Value.category, h, narrow]
  · simp [c3, s3_0, s3_1, s3_2, s3_5, s3_6, s3_9, s3_10, mq_k0s, mq_k1s, mq_k2s, mq_k4s, mq_k5s, mq_k5n, mq_k5as, mq_k6s, mj_pu, mj_lo, mj_br, mj_hr, mj_hw, mq_gf, mq_len, mq_al, mq_pf, mq_ok, mj_re, mj_lk, mj_ldi, mj_ldl, mj_lda, mj_ii, mj_ll, mj_li, mj_i1, mj_s1, mj_s2, mj_tg, mj_c1, mj_c2, mj_ar, mj_aw, mq_cb, mq_oi, mj_rm, Value.category, h, narrow]
theorem j_copyOf {d a n : Nat} {xs : List Int32} {M : mj_H} (h : M[a]? = some (1000, xs.map Value.int)) (ha : mj_E ≤ a) (hl : mj_E ≤ M.length) (hn : xs.length < n) (hb : n ≤ 2 ^ 26) : mj_V (d + 2) 35 [.ref a, .int (nI n)] M = some (some (.ref M.length), M ++ [(1000, (xs ++ List.replicate (n - xs.length) 0).map Value.int)]) := by
  have hm := j_min (d := d) (x := nI xs.length) (y := nI n) (M := M ++ [(1000, List.replicate n (Value.int 0))])
  rw [if_pos (nI_le (by omega) (by omega))] at hm
  have hlt := mq_lt h
  have e1 : (M ++ [(1000, List.replicate n (Value.int 0))])[a]? = some (1000, xs.map Value.int) := by rw [List.getElem?_append_left hlt]; exact h
  have e2 : (M ++ [(1000, List.replicate n (Value.int 0))])[M.length]? = some (1000, List.replicate n (Value.int 0)) := by rw [List.getElem?_append_right (Nat.le_refl _)]; simp
  have e3 : ∀ c : mj_C, (M ++ [(1000, List.replicate n (Value.int 0))]).set M.length c = M ++ [c] := by intro c; rw [List.set_append_right _ _ (Nat.le_refl _)]; simp
  have e4 : (xs.map Value.int).all (fits .int) = true := by simp [fits]
  have e5 : (xs.map Value.int).length = xs.length := List.length_map ..
  have e6 : (xs ++ List.replicate (n - xs.length) 0).map Value.int = xs.map Value.int ++ List.replicate (n - xs.length) (Value.int 0) := by simp
  rw [e6]
  have e7 : (xs.map Value.int).take xs.length = xs.map Value.int := List.take_of_length_le (by simp)
  generalize xs.map Value.int = zs at *
  generalize xs.length = k at *
  have hz : ¬ nI n = nI k := fun z => by rw [nI_inj (by omega) (by omega)] at z; omega
  simp (disch := (first | omega | decide)) [c35, s35_0, s35_1, s35_2, s35_3, s35_6, s35_13, s35_14, s35_15, s35_17, s35_18, s35_19, s35_20, s35_21, s35_22, s35_23, s35_24, s35_25, s35_28, s35_31, s35_32, mq_k0s, mq_k1s, mq_k2s, mq_k4s, mq_k5s, mq_k5n, mq_k5as, mq_k6s, mj_pu, mj_lo, mj_br, mj_hr, mj_hw, mq_gf, mq_len, mq_al, mq_pf, mq_ok, mj_re, mq_lkm, mq_lkn, mj_ldi, mj_ldl, mj_lda, mj_ii, mj_ll, mj_li, mj_i1, ms_1, ms_2, f1_n, f1_i, f1_r, f1_u, f1_l, f2_n, f2_i, f2_r, f2_u, f2_l, mj_tg, mj_c1, mj_c2, mj_ar, mj_aw, mq_cb, mq_oi, mj_rm, Value.category, -getElem?_pos, List.getElem?_cons_zero, decide_eq_true, decide_eq_false, nl_lt, nl_le, ln_lt, ln_le, nl_eq, ln_eq, nl_add, ln_add, nl_sub, ln_mul, nI_sub, nI_mul, nI_add, nI_lt_iff, nI_le_iff, nI_inj, nI_num, mq_ix, nI_1, h, e5, hz, mq_cpr, mj_cp, aty_i, nI_clamp, hm, e1, e2, e3, e4, e7, show ¬ a < mj_E by omega, show ¬ M.length < mj_E by omega, show n * 8 ≤ 536870912 by omega, show k ≤ n by omega]

/-- what a growth leaves: ends and older made longer -/
theorem tb.grow_e {M M' : mj_H} {p e o e' o' k : Nat} {T : Tm} {E O : List Int32} (h : tb M p e o T) (he : M[e]? = some (1000, E.map Value.int)) (ho : M[o]? = some (1000, O.map Value.int)) (h1 : M'[p]? = M[p]?) (h4 : M'[34]? = M[34]?)
    (he' : M'[e']? = some (1000, (E ++ List.replicate k 0).map Value.int)) (ho' : M'[o']? = some (1000, (O ++ List.replicate k 0).map Value.int)) (hk : E.length + k < 2 ^ 15) : tb M' p e' o' T := by
  obtain ⟨E1, e1, e2, e3, e4, e5⟩ := h.en
  obtain ⟨O1, o1, o2, o3⟩ := h.ol
  have inj : ∀ {a b : List Int32}, a.map Value.int = b.map Value.int → a = b := by
    intro a b hab
    exact (List.map_inj_right (fun x y hxy => by cases hxy; rfl)).mp hab
  rw [he] at e1
  have hE : E = E1 := inj (by simpa using e1)
  rw [ho] at o1
  have hO : O = O1 := inj (by simpa using o1)
  subst hE hO
  refine (tb_mk_ h.few h.wide (by rw [h1]; exact h.po) (⟨_, he', by simp; omega, by simp; omega, by simp; omega, fun t ht => ?_⟩) (⟨_, ho', ?_, fun t ht => ?_⟩) (by rw [h4]; exact h.la))
  · rw [List.getElem?_append_left (by omega)]; exact e5 t ht
  · rw [he'] 
    rw [he] at o2
    simp at o2 ⊢
    exact o2
  · have := o3 t ht
    rw [List.getElem?_append_left (List.getElem?_eq_some_iff.mp this).1]; exact this
theorem tb.grow_p {M M' : mj_H} {p e o p' k : Nat} {T : Tm} {P : List Int32} (h : tb M p e o T) (hp : M[p]? = some (1000, P.map Value.int)) (h2 : M'[e]? = M[e]?) (h3 : M'[o]? = M[o]?) (h4 : M'[34]? = M[34]?)
    (hp' : M'[p']? = some (1000, (P ++ List.replicate k 0).map Value.int)) (hk : P.length + k < 2 ^ 20) : tb M' p' e o T := by
  obtain ⟨g, g1, g2, g3⟩ := h.po
  have inj : ∀ {a b : List Int32}, a.map Value.int = b.map Value.int → a = b := by
    intro a b hab
    exact (List.map_inj_right (fun x y hxy => by cases hxy; rfl)).mp hab
  rw [hp] at g1
  have hP : P = T.1.flatten ++ g := inj (by simpa using g1)
  subst hP
  refine (tb_mk_ h.few h.wide (⟨g ++ List.replicate k 0, by rw [← List.append_assoc]; exact hp', ?_, ?_⟩) (by rw [h2]; exact h.en) (by rw [h3, h2]; exact h.ol) (by rw [h4]; exact h.la))
  · rw [← List.append_assoc, List.length_append, List.length_replicate]; exact hk
  · rw [← List.append_assoc, List.length_append]; omega
/-- a set of cells that are none of the terms' -/
def tx (A : Nat → Prop) (M : mj_H) (T : Tm) (row : List Int32) : Prop := (∃ p e o, tt M p e o T row ∧ ¬ A p ∧ ¬ A e ∧ ¬ A o) ∧ (¬ A 30) ∧ (¬ A 34) ∧ (¬ A 35) ∧ (∀ c, A c → c < M.length)
theorem tx.al {A : Nat → Prop} {M : mj_H} {T : Tm} {row : List Int32} (hh_ : tx A M T row) : ∃ p e o, tt M p e o T row ∧ ¬ A p ∧ ¬ A e ∧ ¬ A o := hh_.1
theorem tx.a0 {A : Nat → Prop} {M : mj_H} {T : Tm} {row : List Int32} (hh_ : tx A M T row) : ¬ A 30 := hh_.2.1
theorem tx.a4 {A : Nat → Prop} {M : mj_H} {T : Tm} {row : List Int32} (hh_ : tx A M T row) : ¬ A 34 := hh_.2.2.1
theorem tx.a5 {A : Nat → Prop} {M : mj_H} {T : Tm} {row : List Int32} (hh_ : tx A M T row) : ¬ A 35 := hh_.2.2.2.1
theorem tx.lo {A : Nat → Prop} {M : mj_H} {T : Tm} {row : List Int32} (hh_ : tx A M T row) : ∀ c, A c → c < M.length := hh_.2.2.2.2
theorem tx_mk_ {A : Nat → Prop} {M : mj_H} {T : Tm} {row : List Int32} (f_0_ : ∃ p e o, tt M p e o T row ∧ ¬ A p ∧ ¬ A e ∧ ¬ A o) (f_1_ : ¬ A 30) (f_2_ : ¬ A 34) (f_3_ : ¬ A 35) (f_4_ : ∀ c, A c → c < M.length) : tx A M T row := And.intro f_0_ (And.intro f_1_ (And.intro f_2_ (And.intro f_3_ f_4_)))
end
/- 53.terms4 -/
section
set_option maxRecDepth 512
/-! Class: Terms, room for a row. -/
theorem mj_sl_app (M X : mj_H) : mj_sl (M ++ X) = mj_sl M + mj_sl X := by simp [mj_sl]
theorem mj_sl_st {M : mj_H} {a : Nat} {q q' : mj_C} (h : M[a]? = some q) (h1 : q'.1 = q.1) (h2 : q'.2.length = q.2.length) : mj_sl (M.set a q') = mj_sl M := by
  have := (mj_gr.set h h1 h2).sl
  rw [List.drop_eq_nil_of_le (by simp)] at this
  rw [this]; simp [mj_sl]
def tc_ob (p e o w n f s : Nat) : mj_C := (9, [.ref p, .ref e, .ref o, .ref 34, .ref 35, .int (nI w), .int (nI n), .int (nI f), .int (nI s)])
theorem mj_zz_at {M : mj_H} {p e o w n f s : Nat} {P E : List Int32} (h : M[30]? = some (tc_ob p e o w n f s)) (hp : M[p]? = some (1000, P.map Value.int)) (he : M[e]? = some (1000, E.map Value.int)) : mj_zz M = 2 * P.length + 4 * E.length := by
  unfold mj_zz
  rw [h]
  simp [tc_ob, hp, he]
/-- ends and older grow, if they must -/
theorem g_ends {d p e o : Nat} {T : Tm} {row : List Int32} {M : mj_H} (h : tt M p e o T row) (hf : T.1.length < 1000) : ∃ M' e' o', mj_Rn (d + 2) mj_m34 0 [(0, .ref 30)] [] M = mj_Rn (d + 2) mj_m34 59 [(0, .ref 30)] [] M' ∧ tt M' p e' o' T row ∧ fx (fun c => c = 30) M M' ∧ (∃ E : List Int32, M'[e']? = some (1000, E.map Value.int) ∧ T.1.length + 1 < E.length) ∧ ((e' = e ∧ o' = o) ∨ (M.length ≤ e' ∧ M.length ≤ o')) ∧ p < M.length := by
  obtain ⟨E, e1, e2, e3, e4, e5⟩ := h.tbl.en
  obtain ⟨O, o1, o2, o3⟩ := h.tbl.ol
  obtain ⟨g, g1, g2, g3⟩ := h.tbl.po
  obtain ⟨f, f1, f2⟩ := h.rw
  obtain ⟨L, l1, l2, l3⟩ := h.tbl.la
  rw [e1] at o2
  have o2 : O.length = E.length := by simpa using o2
  have hob := h.ob
  have b3 : (E.map Value.int).length = E.length := List.length_map ..
  obtain ⟨d1, d2, d3, d4, d5, d6, d7, d8, d9, d10, d11, d12, d13, d14, d15⟩ := h.dis
  by_cases hc : T.1.length + 1 < E.length
  · refine ⟨M, e, o, ?_, h, fx.rf, ⟨E, e1, hc⟩, Or.inl ⟨rfl, rfl⟩, mq_lt g1⟩
    generalize E.map Value.int = zs at *
    rw [s34_0]
    simp (disch := (first | omega | decide)) [s34_1, s34_4, s34_5, s34_6, s34_7, s34_10, s34_11, s34_14, s34_15, s34_18, s34_19, s34_22, s34_25, s34_26, s34_27, s34_30, s34_31, s34_32, s34_35, s34_36, s34_37, s34_40, s34_43, s34_44, s34_45, s34_48, s34_49, s34_52, s34_53, s34_56, s34_60, s34_63, s34_66, s34_67, s34_70, s34_71, s34_74, s34_75, s34_78, s34_79, s34_82, s34_83, s34_86, s34_87, s34_90, s34_91, s34_92, s34_93, s34_94, s34_97, s34_98, s34_99, s34_100, s34_103, s34_104, s34_107, s34_108, s34_111, s34_112, s34_114, s34_117, s34_118, s34_119, s34_122, s34_123, s34_124, s34_127, s34_128, s34_129, s34_132, s34_135, mq_k0s, mq_k1s, mq_k2s, mq_k4s, mq_k5s, mq_k5n, mq_k5as, mq_k6s, mj_pu, mj_lo, mj_br, mj_hr, mj_hw, mq_gf, mq_len, mq_al, mq_pf, mq_ok, mj_re, mq_lkm, mq_lkn, mj_ldi, mj_ldl, mj_lda, mj_ii, mj_ll, mj_li, mj_i1, ms_1, ms_2, f1_n, f1_i, f1_r, f1_u, f1_l, f2_n, f2_i, f2_r, f2_u, f2_l, mj_tg, mj_c1, mj_c2, mj_ar, mj_aw, mq_cb, mq_oi, mj_rm, Value.category, -getElem?_pos, List.getElem?_cons_zero, decide_eq_true, decide_eq_false, nl_lt, nl_le, ln_lt, ln_le, nl_eq, ln_eq, nl_add, ln_add, nl_sub, ln_mul, nI_sub, nI_mul, nI_add, nI_lt_iff, nI_le_iff, nI_inj, nI_num, mq_ix, nI_1, hob, e1, b3]
  · have hM : mj_E ≤ M.length := by have := mq_lt g1; omega
    have lp := mq_lt g1
    have le := mq_lt e1
    have lo := mq_lt o1
    have l30 := mq_lt hob
    have l34 := mq_lt l1
    have l35 := mq_lt f1
    have c1 := j_copyOf (d := d) e1 d2 hM (n := 2 * E.length) (by omega) (by omega)
    have x1 : (M ++ [(1000, (E ++ List.replicate (2 * E.length - E.length) 0).map Value.int)])[30]? = M[30]? := List.getElem?_append_left l30
    let M2 : mj_H := (M ++ [(1000, (E ++ List.replicate (2 * E.length - E.length) 0).map Value.int)]).set 30 (tc_ob p M.length o row.length T.1.length T.2.1 T.2.2)
    have y1 : M2[o]? = some (1000, O.map Value.int) := by
      show (List.set _ _ _)[o]? = _
      rw [List.getElem?_set_ne (by omega), List.getElem?_append_left lo]; exact o1
    have y2 : M2.length = M.length + 1 := by simp [M2]
    have y3 : M2[30]? = some (tc_ob p M.length o row.length T.1.length T.2.1 T.2.2) := by
      show (List.set _ _ _)[30]? = _
      rw [List.getElem?_set_self (by simp; omega)]
    have y4 : M2[M.length]? = some (1000, (E ++ List.replicate (2 * E.length - E.length) 0).map Value.int) := by
      show (List.set _ _ _)[M.length]? = _
      rw [List.getElem?_set_ne (by omega), List.getElem?_append_right (Nat.le_refl _)]; simp
    have c2 := j_copyOf (d := d) y1 d3 (by omega) (n := 2 * E.length) (by omega) (by omega)
    have yc : ∀ c, c < M.length → c ≠ 30 → M2[c]? = M[c]? := by
      intro c hc h30
      show (List.set _ _ _)[c]? = _
      rw [List.getElem?_set_ne (by omega), List.getElem?_append_left hc]
    have ygr : mj_gr M M2 := (mj_gr.app _).tr (mj_gr.set (x1.trans hob) rfl rfl)
    have ysl : mj_sl M2 = mj_sl M + 2 * E.length := by
      show mj_sl (List.set _ _ _) = _
      rw [mj_sl_st (q' := tc_ob p M.length o row.length T.1.length T.2.1 T.2.2) (x1.trans hob) rfl rfl, mj_sl_app]
      simp [mj_sl]; omega
    have hr1 : mj_Rn (d + 2) mj_m34 0 [(0, .ref 30)] [] M = mj_Rn (d + 2) mj_m34 59 [(0, .ref 30)] [] ((M2 ++ [(1000, (O ++ List.replicate (2 * E.length - O.length) 0).map Value.int)]).set 30 (tc_ob p M.length (M.length + 1) row.length T.1.length T.2.1 T.2.2)) := by
      have z1 : (M ++ [(1000, (E ++ List.replicate (2 * E.length - E.length) 0).map Value.int)]).set 30 (9, [.ref p, .ref M.length, .ref o, .ref 34, .ref 35, .int (nI row.length), .int (nI T.1.length), .int (nI T.2.1), .int (nI T.2.2)]) = M2 := rfl
      have z2 : (M2 ++ [(1000, (O ++ List.replicate (2 * E.length - O.length) 0).map Value.int)])[30]? = some (9, [.ref p, .ref M.length, .ref o, .ref 34, .ref 35, .int (nI row.length), .int (nI T.1.length), .int (nI T.2.1), .int (nI T.2.2)]) := by rw [List.getElem?_append_left (by omega)]; exact y3
      have y3' : M2[30]? = some (9, [.ref p, .ref M.length, .ref o, .ref 34, .ref 35, .int (nI row.length), .int (nI T.1.length), .int (nI T.2.1), .int (nI T.2.2)]) := y3
      have y5 : ((E ++ List.replicate (2 * E.length - E.length) 0).map Value.int).length = 2 * E.length := by simp; omega
      rw [hob] at x1
      unfold tc_ob
      clear_value M2
      generalize (M ++ [(1000, (E ++ List.replicate (2 * E.length - E.length) 0).map Value.int)]) = M1 at *
      generalize (E ++ List.replicate (2 * E.length - E.length) 0).map Value.int = es at *
      generalize (M2 ++ [(1000, (O ++ List.replicate (2 * E.length - O.length) 0).map Value.int)]) = M3 at *
      generalize E.map Value.int = zs at *
      rw [s34_0]
      simp (disch := (first | omega | decide)) [s34_1, s34_4, s34_5, s34_6, s34_7, s34_10, s34_11, s34_14, s34_15, s34_18, s34_19, s34_22, s34_25, s34_26, s34_27, s34_30, s34_31, s34_32, s34_35, s34_36, s34_37, s34_40, s34_43, s34_44, s34_45, s34_48, s34_49, s34_52, s34_53, s34_56, s34_60, s34_63, s34_66, s34_67, s34_70, s34_71, s34_74, s34_75, s34_78, s34_79, s34_82, s34_83, s34_86, s34_87, s34_90, s34_91, s34_92, s34_93, s34_94, s34_97, s34_98, s34_99, s34_100, s34_103, s34_104, s34_107, s34_108, s34_111, s34_112, s34_114, s34_117, s34_118, s34_119, s34_122, s34_123, s34_124, s34_127, s34_128, s34_129, s34_132, s34_135, mq_k0s, mq_k1s, mq_k2s, mq_k4s, mq_k5s, mq_k5n, mq_k5as, mq_k6s, mj_pu, mj_lo, mj_br, mj_hr, mj_hw, mq_gf, mq_len, mq_al, mq_pf, mq_ok, mj_re, mq_lkm, mq_lkn, mj_ldi, mj_ldl, mj_lda, mj_ii, mj_ll, mj_li, mj_i1, ms_1, ms_2, f1_n, f1_i, f1_r, f1_u, f1_l, f2_n, f2_i, f2_r, f2_u, f2_l, mj_tg, mj_c1, mj_c2, mj_ar, mj_aw, mq_cb, mq_oi, mj_rm, Value.category, -getElem?_pos, List.getElem?_cons_zero, decide_eq_true, decide_eq_false, nl_lt, nl_le, ln_lt, ln_le, nl_eq, ln_eq, nl_add, ln_add, nl_sub, ln_mul, nI_sub, nI_mul, nI_add, nI_lt_iff, nI_le_iff, nI_inj, nI_num, mq_ix, nI_1, hob, e1, b3, c1, x1, z1, y3', y4, y5, c2, y2, z2, mj_E]
    refine ⟨_, M.length, M.length + 1, hr1, (tt_mk_ ?_ (⟨f, ?_, f2⟩) (h.tbl.grow_e (k := E.length) e1 o1 ?_ ?_ ?_ ?_ (by omega)) ?_), (fx_mk_ ?_ ?_ ?_ ?_), ⟨E ++ List.replicate E.length 0, ?_, by simp; omega⟩, Or.inr ⟨Nat.le_refl _, by omega⟩, lp⟩
    · rw [List.getElem?_set_self (by simp; omega)]; rfl
    · rw [List.getElem?_set_ne (by omega), List.getElem?_append_left (by omega), yc 35 l35 (by omega)]; exact f1
    · rw [List.getElem?_set_ne (by omega), List.getElem?_append_left (by omega), yc p lp (by omega)]
    · rw [List.getElem?_set_ne (by omega), List.getElem?_append_left (by omega), yc 34 l34 (by omega)]
    · rw [List.getElem?_set_ne (by omega), List.getElem?_append_left (by omega), y4, show 2 * E.length - E.length = E.length by omega]
    · rw [List.getElem?_set_ne (by omega), ← y2, List.getElem?_append_right (Nat.le_refl _), o2, show 2 * E.length - E.length = E.length by omega]; simp
    · refine ⟨d1, hM, by omega, by omega, by omega, by omega, by omega, by omega, by omega, by omega, by omega, by omega, by omega, by omega, by omega⟩
    · exact ygr.tr ((mj_gr.app _).tr (mj_gr.set (q := tc_ob p M.length o row.length T.1.length T.2.1 T.2.2) (by rw [List.getElem?_append_left (by omega)]; exact y3) rfl rfl))
    · intro c hc h30
      rw [List.getElem?_set_ne (fun z => h30 z.symm), List.getElem?_append_left (by omega), yc c hc h30]
    · have a1 := mj_zz_at (show M[30]? = some (tc_ob p e o row.length T.1.length T.2.1 T.2.2) from hob) g1 e1
      have a2 := mj_zz_at (M := (M2 ++ [(1000, (O ++ List.replicate (2 * E.length - O.length) 0).map Value.int)]).set 30 (tc_ob p M.length (M.length + 1) row.length T.1.length T.2.1 T.2.2)) (p := p) (e := M.length) (P := T.1.flatten ++ g) (E := E ++ List.replicate (2 * E.length - E.length) 0) (by rw [List.getElem?_set_self (by simp; omega)]) (by rw [List.getElem?_set_ne (by omega), List.getElem?_append_left (by omega), yc p lp (by omega)]; exact g1) (by rw [List.getElem?_set_ne (by omega), List.getElem?_append_left (by omega), y4])
      rw [a1, a2, mj_sl_st (q := tc_ob p M.length o row.length T.1.length T.2.1 T.2.2) (q' := tc_ob p M.length (M.length + 1) row.length T.1.length T.2.1 T.2.2) (by rw [List.getElem?_append_left (by omega)]; exact y3) rfl rfl, mj_sl_app, ysl]
      simp [mj_sl]; omega
    · have a1 := mj_zz_at (show M[30]? = some (tc_ob p e o row.length T.1.length T.2.1 T.2.2) from hob) g1 e1
      have a2 := mj_zz_at (M := (M2 ++ [(1000, (O ++ List.replicate (2 * E.length - O.length) 0).map Value.int)]).set 30 (tc_ob p M.length (M.length + 1) row.length T.1.length T.2.1 T.2.2)) (p := p) (e := M.length) (P := T.1.flatten ++ g) (E := E ++ List.replicate (2 * E.length - E.length) 0) (by rw [List.getElem?_set_self (by simp; omega)]) (by rw [List.getElem?_set_ne (by omega), List.getElem?_append_left (by omega), yc p lp (by omega)]; exact g1) (by rw [List.getElem?_set_ne (by omega), List.getElem?_append_left (by omega), y4])
      rw [a1, a2, List.length_set, List.length_append, y2]
      simp; omega
    · rw [List.getElem?_set_ne (by omega), List.getElem?_append_left (by omega), y4, show 2 * E.length - E.length = E.length by omega]
end
/- 54.terms5 -/
section
set_option maxRecDepth 512
/-! Class: Terms, room in the pool; a new row. -/
theorem tm_flat_len (rows : List (List Int32)) : rows.flatten.length = tm_end rows rows.length := by
  unfold tm_end
  rw [List.take_length, List.length_flatten]
theorem g_pool {d p e o : Nat} {T : Tm} {row : List Int32} {M : mj_H} (h : tt M p e o T row) (hf : T.1.length < 1000) : ∃ M' p', mj_Rn (d + 2) mj_m34 59 [(0, .ref 30)] [] M = some (none, M') ∧ tt M' p' e o T row ∧ fx (fun c => c = 30) M M' ∧ (∃ P : List Int32, M'[p']? = some (1000, P.map Value.int) ∧ tm_end T.1 T.1.length + 410 ≤ P.length) ∧ (p' = p ∨ M.length ≤ p') := by
  obtain ⟨E, e1, e2, e3, e4, e5⟩ := h.tbl.en
  obtain ⟨O, o1, o2, o3⟩ := h.tbl.ol
  obtain ⟨g, g1, g2, g3⟩ := h.tbl.po
  obtain ⟨f, f1, f2⟩ := h.rw
  obtain ⟨L, l1, l2, l3⟩ := h.tbl.la
  have hob := h.ob
  have b3 : (E.map Value.int).length = E.length := List.length_map ..
  obtain ⟨d1, d2, d3, d4, d5, d6, d7, d8, d9, d10, d11, d12, d13, d14, d15⟩ := h.dis
  have a5 := e5 T.1.length (Nat.le_refl _)
  have a4 : tm_end T.1 T.1.length ≤ 410 * T.1.length := tm_end_b (fun r hr => (h.tbl.wide r hr).2) _
  have b5 : (E.map Value.int)[T.1.length]? = some (.int (nI (tm_end T.1 T.1.length))) := by rw [List.getElem?_map, a5]; rfl
  have b6 : ((row ++ f).map Value.int).length = 410 := by rw [List.length_map, f2]
  have b7 : ((T.1.flatten ++ g).map Value.int).length = (T.1.flatten ++ g).length := List.length_map ..
  have b8 : tm_end T.1 T.1.length ≤ (T.1.flatten ++ g).length := by rw [List.length_append, tm_flat_len]; omega
  have l30 := mq_lt hob
  have lp := mq_lt g1
  have le := mq_lt e1
  have lo := mq_lt o1
  have l34 := mq_lt l1
  have l35 := mq_lt f1
  by_cases hc : tm_end T.1 T.1.length + 410 ≤ (T.1.flatten ++ g).length
  · refine ⟨M, p, ?_, h, fx.rf, ⟨_, g1, hc⟩, Or.inl rfl⟩
    generalize E.map Value.int = zs at *
    generalize (row ++ f).map Value.int = fs at *
    generalize (T.1.flatten ++ g).map Value.int = ps at *
    generalize (T.1.flatten ++ g).length = pl at *
    rw [s34_59]
    simp (disch := (first | omega | decide)) [s34_0, s34_1, s34_4, s34_5, s34_6, s34_7, s34_10, s34_11, s34_14, s34_15, s34_18, s34_19, s34_22, s34_25, s34_26, s34_27, s34_30, s34_31, s34_32, s34_35, s34_36, s34_37, s34_40, s34_43, s34_44, s34_45, s34_48, s34_49, s34_52, s34_53, s34_56, s34_60, s34_63, s34_66, s34_67, s34_70, s34_71, s34_74, s34_75, s34_78, s34_79, s34_82, s34_83, s34_86, s34_87, s34_90, s34_91, s34_92, s34_93, s34_94, s34_97, s34_98, s34_99, s34_100, s34_103, s34_104, s34_107, s34_108, s34_111, s34_112, s34_114, s34_117, s34_118, s34_119, s34_122, s34_123, s34_124, s34_127, s34_128, s34_129, s34_132, s34_135, mq_k0s, mq_k1s, mq_k2s, mq_k4s, mq_k5s, mq_k5n, mq_k5as, mq_k6s, mj_pu, mj_lo, mj_br, mj_hr, mj_hw, mq_gf, mq_len, mq_al, mq_pf, mq_ok, mj_re, mq_lkm, mq_lkn, mj_ldi, mj_ldl, mj_lda, mj_ii, mj_ll, mj_li, mj_i1, ms_1, ms_2, f1_n, f1_i, f1_r, f1_u, f1_l, f2_n, f2_i, f2_r, f2_u, f2_l, mj_tg, mj_c1, mj_c2, mj_ar, mj_aw, mq_cb, mq_oi, mj_rm, Value.category, -getElem?_pos, List.getElem?_cons_zero, decide_eq_true, decide_eq_false, nl_lt, nl_le, ln_lt, ln_le, nl_eq, ln_eq, nl_add, ln_add, nl_sub, ln_mul, nI_sub, nI_mul, nI_add, nI_lt_iff, nI_le_iff, nI_inj, nI_num, mq_ix, nI_1, hob, e1, f1, g1, b3, b5, b6, b7]
  · have hM : mj_E ≤ M.length := by omega
    have c1 := j_copyOf (d := d) g1 d1 hM (n := 2 * (T.1.flatten ++ g).length) (by omega) (by omega)
    let M1 : mj_H := M ++ [(1000, ((T.1.flatten ++ g) ++ List.replicate (2 * (T.1.flatten ++ g).length - (T.1.flatten ++ g).length) 0).map Value.int)]
    have x1 : M1[30]? = some (tc_ob p e o row.length T.1.length T.2.1 T.2.2) := (List.getElem?_append_left l30).trans hob
    have hr1 : mj_Rn (d + 2) mj_m34 59 [(0, .ref 30)] [] M = some (none, M1.set 30 (tc_ob M.length e o row.length T.1.length T.2.1 T.2.2)) := by
      have x1' : M1[30]? = some (9, [.ref p, .ref e, .ref o, .ref 34, .ref 35, .int (nI row.length), .int (nI T.1.length), .int (nI T.2.1), .int (nI T.2.2)]) := x1
      have c1' : mj_V (d + 2) 35 [.ref p, .int (nI (2 * (T.1.flatten ++ g).length))] M = some (some (.ref M.length), M1) := c1
      unfold tc_ob
      clear_value M1
      generalize E.map Value.int = zs at *
      generalize (row ++ f).map Value.int = fs at *
      generalize (T.1.flatten ++ g).map Value.int = ps at *
      generalize (T.1.flatten ++ g).length = pl at *
      rw [s34_59]
      simp (disch := (first | omega | decide)) [s34_0, s34_1, s34_4, s34_5, s34_6, s34_7, s34_10, s34_11, s34_14, s34_15, s34_18, s34_19, s34_22, s34_25, s34_26, s34_27, s34_30, s34_31, s34_32, s34_35, s34_36, s34_37, s34_40, s34_43, s34_44, s34_45, s34_48, s34_49, s34_52, s34_53, s34_56, s34_60, s34_63, s34_66, s34_67, s34_70, s34_71, s34_74, s34_75, s34_78, s34_79, s34_82, s34_83, s34_86, s34_87, s34_90, s34_91, s34_92, s34_93, s34_94, s34_97, s34_98, s34_99, s34_100, s34_103, s34_104, s34_107, s34_108, s34_111, s34_112, s34_114, s34_117, s34_118, s34_119, s34_122, s34_123, s34_124, s34_127, s34_128, s34_129, s34_132, s34_135, mq_k0s, mq_k1s, mq_k2s, mq_k4s, mq_k5s, mq_k5n, mq_k5as, mq_k6s, mj_pu, mj_lo, mj_br, mj_hr, mj_hw, mq_gf, mq_len, mq_al, mq_pf, mq_ok, mj_re, mq_lkm, mq_lkn, mj_ldi, mj_ldl, mj_lda, mj_ii, mj_ll, mj_li, mj_i1, ms_1, ms_2, f1_n, f1_i, f1_r, f1_u, f1_l, f2_n, f2_i, f2_r, f2_u, f2_l, mj_tg, mj_c1, mj_c2, mj_ar, mj_aw, mq_cb, mq_oi, mj_rm, Value.category, -getElem?_pos, List.getElem?_cons_zero, decide_eq_true, decide_eq_false, nl_lt, nl_le, ln_lt, ln_le, nl_eq, ln_eq, nl_add, ln_add, nl_sub, ln_mul, nI_sub, nI_mul, nI_add, nI_lt_iff, nI_le_iff, nI_inj, nI_num, mq_ix, nI_1, hob, e1, f1, g1, b3, b5, b6, b7, c1', x1', mj_E]
    have xc : ∀ c, c < M.length → c ≠ 30 → (M1.set 30 (tc_ob M.length e o row.length T.1.length T.2.1 T.2.2))[c]? = M[c]? := by
      intro c hc h30
      rw [List.getElem?_set_ne (fun z => h30 z.symm)]
      exact List.getElem?_append_left hc
    have xp : (M1.set 30 (tc_ob M.length e o row.length T.1.length T.2.1 T.2.2))[M.length]? = some (1000, ((T.1.flatten ++ g) ++ List.replicate (2 * (T.1.flatten ++ g).length - (T.1.flatten ++ g).length) 0).map Value.int) := by
      rw [List.getElem?_set_ne (by omega)]
      show (M ++ _)[M.length]? = _
      rw [List.getElem?_append_right (Nat.le_refl _)]; simp
    have x30 : (M1.set 30 (tc_ob M.length e o row.length T.1.length T.2.1 T.2.2))[30]? = some (tc_ob M.length e o row.length T.1.length T.2.1 T.2.2) := List.getElem?_set_self (by show 30 < (M ++ _).length; rw [List.length_append]; omega)
    refine ⟨_, M.length, hr1, (tt_mk_ x30 (⟨f, (xc 35 l35 (by omega)).trans f1, f2⟩) (h.tbl.grow_p (k := 2 * (T.1.flatten ++ g).length - (T.1.flatten ++ g).length) g1 (xc e le d8) (xc o lo d9) (xc 34 l34 (by omega)) xp (by omega)) ?_), (fx_mk_ ?_ xc ?_ ?_), ⟨_, xp, by rw [List.length_append, List.length_replicate]; omega⟩, Or.inr (Nat.le_refl _)⟩
    · exact ⟨hM, d2, d3, by omega, by omega, d6, by omega, d8, d9, by omega, d11, d12, by omega, d14, d15⟩
    · exact (mj_gr.app _).tr (mj_gr.set x1 rfl rfl)
    · rw [mj_zz_at (show M[30]? = some (tc_ob p e o row.length T.1.length T.2.1 T.2.2) from hob) g1 e1, mj_zz_at x30 xp ((xc e le d8).trans e1), mj_sl_st (q' := tc_ob M.length e o row.length T.1.length T.2.1 T.2.2) x1 rfl rfl, mj_sl_app]
      simp only [mj_sl, List.map_cons, List.map_nil, List.sum_cons, List.sum_nil, List.length_map, List.length_append, List.length_replicate]
      omega
    · rw [mj_zz_at (show M[30]? = some (tc_ob p e o row.length T.1.length T.2.1 T.2.2) from hob) g1 e1, mj_zz_at x30 xp ((xc e le d8).trans e1), List.length_set]
      show 512 * (M ++ _).length + _ ≤ _
      simp only [List.length_append, List.length_cons, List.length_nil, List.length_replicate]
      simp only [List.length_append] at g3
      omega
/-- the copy of the row into the pool -/
theorem l_added {d p e o : Nat} {T : Tm} {row P : List Int32} {f : List Int32} {t0 : Int32} (hp30 : p ≠ 30) (hp35 : p ≠ 35) (hpE : mj_E ≤ p) (hw : row.length ≤ 410) (b6 : (row ++ f).length = 410) (at0 : Nat) (hP : at0 + row.length ≤ P.length) (hP2 : P.length < 2 ^ 20) : ∀ (m j : Nat) (M : mj_H), j + m = row.length → M[30]? = some (tc_ob p e o row.length T.1.length T.2.1 T.2.2) → M[35]? = some (1000, (row ++ f).map Value.int) → M[p]? = some (1000, (P.take at0 ++ (row.take j ++ P.drop (at0 + j))).map Value.int) →
    ∃ M', (∀ r, mj_Rn d mj_m37 118 [(2, .int (nI at0)), (0, .ref 30), (1, .int t0)] [] M' = some r → mj_Rn d mj_m37 81 [(3, .int (nI j)), (2, .int (nI at0)), (0, .ref 30), (1, .int t0)] [] M = some r) ∧ M'[p]? = some (1000, (P.take at0 ++ (row ++ P.drop (at0 + row.length))).map Value.int) ∧ mq_fr [p] M M' := by
  have b2 : ((row ++ f).map Value.int).length = 410 := by rw [List.length_map, b6]
  intro m
  induction m with
  | zero =>
    intro j M hj h30 h35 hp
    have ej : j = row.length := by omega
    subst ej
    rw [List.take_length] at hp
    refine ⟨M, fun r hr => ?_, hp, mq_fr.rf⟩
    unfold tc_ob at h30
    rw [s37_81]
    simp (disch := (first | omega | decide)) [s37_0, s37_1, s37_4, s37_5, s37_6, s37_7, s37_8, s37_11, s37_14, s37_15, s37_18, s37_19, s37_22, s37_23, s37_26, s37_28, s37_31, s37_32, s37_35, s37_36, s37_39, s37_40, s37_41, s37_42, s37_43, s37_46, s37_47, s37_50, s37_51, s37_52, s37_55, s37_56, s37_59, s37_60, s37_63, s37_64, s37_65, s37_68, s37_69, s37_70, s37_73, s37_74, s37_77, s37_78, s37_79, s37_80, s37_82, s37_83, s37_86, s37_89, s37_90, s37_91, s37_94, s37_95, s37_98, s37_99, s37_102, s37_103, s37_104, s37_105, s37_106, s37_109, s37_110, s37_111, s37_112, s37_115, s37_119, s37_122, s37_123, s37_124, s37_125, s37_128, s37_129, s37_130, s37_131, s37_134, s37_135, s37_136, s37_139, s37_140, s37_141, s37_144, s37_145, s37_148, s37_149, s37_152, s37_153, s37_154, s37_157, s37_158, s37_159, s37_160, s37_161, s37_164, s37_165, s37_166, s37_167, s37_168, s37_169, s37_172, s37_173, mq_k0s, mq_k1s, mq_k2s, mq_k4s, mq_k5s, mq_k5n, mq_k5as, mq_k6s, mj_pu, mj_lo, mj_br, mj_hr, mj_hw, mq_gf, mq_len, mq_al, mq_pf, mq_ok, mj_re, mq_lkm, mq_lkn, mj_ldi, mj_ldl, mj_lda, mj_ii, mj_ll, mj_li, mj_i1, ms_1, ms_2, f1_n, f1_i, f1_r, f1_u, f1_l, f2_n, f2_i, f2_r, f2_u, f2_l, mj_tg, mj_c1, mj_c2, mj_ar, mj_aw, mq_cb, mq_oi, mj_rm, Value.category, -getElem?_pos, List.getElem?_cons_zero, decide_eq_true, decide_eq_false, nl_lt, nl_le, ln_lt, ln_le, nl_eq, ln_eq, nl_add, ln_add, nl_sub, ln_mul, nI_sub, nI_mul, nI_add, nI_lt_iff, nI_le_iff, nI_inj, nI_num, mq_ix, nI_1, h30]
    refine mq_wk ?_ hr
    simp [mq_sub, mj_lk]
  | succ m ih =>
    intro j M hj h30 h35 hp
    have hjl : j < row.length := by omega
    have hl := mq_lt hp
    have b1 : ((row ++ f).map Value.int)[j]? = some (.int row[j]) := by rw [List.getElem?_map, List.getElem?_append_left hjl, List.getElem?_eq_getElem hjl]; rfl
    have e1 : ((P.take at0 ++ (row.take j ++ P.drop (at0 + j))).map Value.int).set (at0 + j) (.int row[j]) = (P.take at0 ++ (row.take (j + 1) ++ P.drop (at0 + (j + 1)))).map Value.int := by
      rw [← List.map_set]
      congr 1
      have l1 : (P.take at0).length = at0 := by rw [List.length_take]; omega
      rw [List.set_append_right _ _ (by omega), l1, Nat.add_sub_cancel_left]
      have l2 : (row.take j).length = j := by rw [List.length_take]; omega
      rw [List.set_append_right _ _ (by omega), l2, Nat.sub_self, List.drop_eq_getElem_cons (show at0 + j < P.length by omega), List.set_cons_zero, List.take_succ_eq_append_getElem hjl, List.append_assoc]
      rfl
    have e2 : ((P.take at0 ++ (row.take j ++ P.drop (at0 + j))).map Value.int).length = P.length := by simp; omega
    have z1 : (M.set p (1000, (P.take at0 ++ (row.take (j + 1) ++ P.drop (at0 + (j + 1)))).map Value.int))[p]? = some (1000, (P.take at0 ++ (row.take (j + 1) ++ P.drop (at0 + (j + 1)))).map Value.int) := List.getElem?_set_self hl
    obtain ⟨M', r1, r2, r3⟩ := ih (j + 1) (M.set p (1000, (P.take at0 ++ (row.take (j + 1) ++ P.drop (at0 + (j + 1)))).map Value.int)) (by omega) (by rw [List.getElem?_set_ne hp30]; exact h30) (by rw [List.getElem?_set_ne hp35]; exact h35) z1
    refine ⟨M', fun r hr => ?_, r2, (mq_fr.rf.set (by simp)).tr r3⟩
    have r1 := r1 r hr
    unfold tc_ob at h30
    generalize row[j] = u at *
    generalize (row ++ f).map Value.int = fs at *
    generalize (P.take at0 ++ (row.take (j + 1) ++ P.drop (at0 + (j + 1)))).map Value.int = ps' at *
    generalize (P.take at0 ++ (row.take j ++ P.drop (at0 + j))).map Value.int = ps at *
    rw [s37_81]
    simp (disch := (first | omega | decide)) [s37_0, s37_1, s37_4, s37_5, s37_6, s37_7, s37_8, s37_11, s37_14, s37_15, s37_18, s37_19, s37_22, s37_23, s37_26, s37_28, s37_31, s37_32, s37_35, s37_36, s37_39, s37_40, s37_41, s37_42, s37_43, s37_46, s37_47, s37_50, s37_51, s37_52, s37_55, s37_56, s37_59, s37_60, s37_63, s37_64, s37_65, s37_68, s37_69, s37_70, s37_73, s37_74, s37_77, s37_78, s37_79, s37_80, s37_82, s37_83, s37_86, s37_89, s37_90, s37_91, s37_94, s37_95, s37_98, s37_99, s37_102, s37_103, s37_104, s37_105, s37_106, s37_109, s37_110, s37_111, s37_112, s37_115, s37_119, s37_122, s37_123, s37_124, s37_125, s37_128, s37_129, s37_130, s37_131, s37_134, s37_135, s37_136, s37_139, s37_140, s37_141, s37_144, s37_145, s37_148, s37_149, s37_152, s37_153, s37_154, s37_157, s37_158, s37_159, s37_160, s37_161, s37_164, s37_165, s37_166, s37_167, s37_168, s37_169, s37_172, s37_173, mq_k0s, mq_k1s, mq_k2s, mq_k4s, mq_k5s, mq_k5n, mq_k5as, mq_k6s, mj_pu, mj_lo, mj_br, mj_hr, mj_hw, mq_gf, mq_len, mq_al, mq_pf, mq_ok, mj_re, mq_lkm, mq_lkn, mj_ldi, mj_ldl, mj_lda, mj_ii, mj_ll, mj_li, mj_i1, ms_1, ms_2, f1_n, f1_i, f1_r, f1_u, f1_l, f2_n, f2_i, f2_r, f2_u, f2_l, mj_tg, mj_c1, mj_c2, mj_ar, mj_aw, mq_cb, mq_oi, mj_rm, Value.category, -getElem?_pos, List.getElem?_cons_zero, decide_eq_true, decide_eq_false, nl_lt, nl_le, ln_lt, ln_le, nl_eq, ln_eq, nl_add, ln_add, nl_sub, ln_mul, nI_sub, nI_mul, nI_add, nI_lt_iff, nI_le_iff, nI_inj, nI_num, mq_ix, nI_1, h30, h35, hp, b1, b2, e1, e2, Nat.not_lt.mpr hpE]
    exact r1
theorem tm_prev_app (bk : List Int32 → Nat) (rows : List (List Int32)) (row : List Int32) (b : Nat) {t : Nat} (h : t ≤ rows.length) : tm_prev bk (rows ++ [row]) b t = tm_prev bk rows b t := by
  induction t with
  | zero => rfl
  | succ t ih =>
    unfold tm_prev
    rw [List.getElem?_append_left (by omega), ih (by omega)]
theorem tm_end_app (rows : List (List Int32)) (row : List Int32) {t : Nat} (h : t ≤ rows.length) : tm_end (rows ++ [row]) t = tm_end rows t := by
  unfold tm_end
  rw [List.take_append_of_le_length h]
theorem tc_added {d p e o : Nat} {T : Tm} {row : List Int32} {M : mj_H} (h : tt M p e o T row) (h0 : 0 < row.length) (hf : T.1.length < 1000) (hcE : ∃ E : List Int32, M[e]? = some (1000, E.map Value.int) ∧ T.1.length + 1 < E.length) (hcP : ∃ P : List Int32, M[p]? = some (1000, P.map Value.int) ∧ tm_end T.1 T.1.length + 410 ≤ P.length) :
    ∃ M', mj_V (d + 2) 37 [.ref 30] M = some (some (.int (nI (T.1.length + 1))), M') ∧ tt M' p e o ((T.1 ++ [row], (T.2.1, T.2.2)) : Tm) row ∧ mq_fr [30, 34, p, e, o] M M' ∧ ∃ w, M'[30]? = some (tc_ob p e o w (T.1.length + 1) T.2.1 T.2.2) := by
  obtain ⟨E, e1, e2, e3, e4, e5⟩ := h.tbl.en
  obtain ⟨O, o1, o2, o3⟩ := h.tbl.ol
  obtain ⟨g, g1, g2, g3⟩ := h.tbl.po
  obtain ⟨f, f1, f2⟩ := h.rw
  obtain ⟨L, l1, l2, l3⟩ := h.tbl.la
  obtain ⟨E', e1', e2'⟩ := hcE
  obtain ⟨P', p1', p2'⟩ := hcP
  have hEl : E'.length = E.length := by rw [e1] at e1'; have := congrArg List.length (Prod.mk.inj (Option.some.inj e1')).2; rw [List.length_map, List.length_map] at this; exact this.symm
  have hPl : P'.length = (T.1.flatten ++ g).length := by rw [g1] at p1'; have := congrArg List.length (Prod.mk.inj (Option.some.inj p1')).2; rw [List.length_map, List.length_map] at this; exact this.symm
  rw [e1] at o2
  have o2 : O.length = E.length := by simpa using o2
  have hob := h.ob
  have hwd := h.wid
  obtain ⟨d1, d2, d3, d4, d5, d6, d7, d8, d9, d10, d11, d12, d13, d14, d15⟩ := h.dis
  have a4 : tm_end T.1 T.1.length ≤ 410 * T.1.length := tm_end_b (fun r hr => (h.tbl.wide r hr).2) _
  have hfl := tm_flat_len T.1
  have l30 := mq_lt hob
  have lp := mq_lt g1
  have le := mq_lt e1
  have lo := mq_lt o1
  have l34 := mq_lt l1
  have l35 := mq_lt f1
  have hbl := tb_bk_lt row
  -- the copy
  obtain ⟨M1, r1, q1, fr1⟩ := l_added (d := d + 1) (p := p) (e := e) (o := o) (T := T) (row := row) (f := f) (t0 := nI (T.1.length + 1)) (P := T.1.flatten ++ g) d7 d13 d1 hwd f2 (tm_end T.1 T.1.length) (by omega) g2 row.length 0 M (by omega) hob f1 (by
    rw [g1]; simp)
  have eP : (T.1.flatten ++ g).take (tm_end T.1 T.1.length) = T.1.flatten := by rw [← hfl]; simp
  rw [eP] at q1
  have ePl : (row ++ (T.1.flatten ++ g).drop (tm_end T.1 T.1.length + row.length)).length = g.length := by
    rw [List.length_append, List.length_drop, List.length_append]; rw [List.length_append] at hPl; omega
  have t1 : ∀ c, c ≠ p → M1[c]? = M[c]? := fun c hc => fr1.2 c (by simp [hc])
  -- ends
  let M2 : mj_H := M1.set e (1000, (E.set (T.1.length + 1) (nI (tm_end T.1 T.1.length + row.length))).map Value.int)
  have m2e : M2[e]? = some (1000, (E.set (T.1.length + 1) (nI (tm_end T.1 T.1.length + row.length))).map Value.int) := List.getElem?_set_self (by rw [fr1.1]; exact le)
  have m2c : ∀ c, c ≠ e → M2[c]? = M1[c]? := fun c hc => List.getElem?_set_ne (fun z => hc z.symm)
  have tt2 : tt M2 p e o T row := by
    refine (tt_mk_ (by rw [m2c 30 (by omega), t1 30 (by omega)]; exact hob) (⟨f, by rw [m2c 35 (by omega), t1 35 (by omega)]; exact f1, f2⟩) ((tb_mk_ h.tbl.few h.tbl.wide (⟨row ++ (T.1.flatten ++ g).drop (tm_end T.1 T.1.length + row.length), by rw [m2c p d4]; exact q1, ?_, ?_⟩) (⟨_, m2e, by simpa using e2, by simpa using e3, by simpa using e4, ?_⟩) (⟨O, by rw [m2c o (by omega), t1 o (by omega)]; exact o1, by rw [m2e]; simpa using o2, o3⟩) (⟨L, by rw [m2c 34 (by omega), t1 34 (by omega)]; exact l1, l2, l3⟩))) h.dis)
    · rw [List.length_append, ePl]; rw [List.length_append] at g2; exact g2
    · rw [List.length_append, ePl]; rw [List.length_append] at g3; exact g3
    · intro t ht
      rw [List.getElem?_set_ne (by omega)]; exact e5 t ht
  have hbk := t_bucket (d := d) tt2
  -- older, latest, count
  let M3 : mj_H := M2.set o (1000, (O.set (T.1.length + 1) (nI (tm_prev tb_bk T.1 (tb_bk row) T.1.length))).map Value.int)
  let M4 : mj_H := M3.set 34 (1000, (L.set (tb_bk row) (nI (T.1.length + 1))).map Value.int)
  let M5 : mj_H := M4.set 30 (tc_ob p e o row.length (T.1.length + 1) T.2.1 T.2.2)
  have n2 : M2.length = M.length := by show (M1.set _ _).length = _; rw [List.length_set]; exact fr1.1
  have n3 : M3.length = M.length := by show (M2.set _ _).length = _; rw [List.length_set]; exact n2
  have n4 : M4.length = M.length := by show (M3.set _ _).length = _; rw [List.length_set]; exact n3
  have m3c : ∀ c, c ≠ o → M3[c]? = M2[c]? := fun c hc => List.getElem?_set_ne (fun z => hc z.symm)
  have m4c : ∀ c, c ≠ 34 → M4[c]? = M3[c]? := fun c hc => List.getElem?_set_ne (fun z => hc z.symm)
  have m5c : ∀ c, c ≠ 30 → M5[c]? = M4[c]? := fun c hc => List.getElem?_set_ne (fun z => hc z.symm)
  have m30 : M5[30]? = some (tc_ob p e o row.length (T.1.length + 1) T.2.1 T.2.2) := List.getElem?_set_self (by rw [n4]; exact l30)
  have fr : mq_fr [30, 34, p, e, o] M M5 := by
    have q1 : mq_fr [30, 34, p, e, o] M M1 := fr1.mono (by simp)
    exact (((q1.set (a := e) (by simp)).set (a := o) (by simp)).set (a := 34) (by simp)).set (a := 30) (by simp)
  refine ⟨M5, ?_, (tt_mk_ (m30 ▸ by simp [tc_ob]) (⟨f, by rw [m5c 35 (by omega), m4c 35 (by omega), m3c 35 (by omega), m2c 35 (by omega), t1 35 (by omega)]; exact f1, f2⟩) ((tb_mk_ (by simp; omega) ?_ (⟨(T.1.flatten ++ g).drop (tm_end T.1 T.1.length + row.length), ?_, ?_, ?_⟩) (⟨E.set (T.1.length + 1) (nI (tm_end T.1 T.1.length + row.length)), ?_, by simpa using e2, by simpa using e3, by simp; omega, ?_⟩) (⟨O.set (T.1.length + 1) (nI (tm_prev tb_bk T.1 (tb_bk row) T.1.length)), ?_, ?_, ?_⟩) (⟨L.set (tb_bk row) (nI (T.1.length + 1)), ?_, by simpa using l2, ?_⟩))) h.dis), fr, ⟨_, m30⟩⟩
  · -- the run
    have b3 : (E.map Value.int).length = E.length := List.length_map ..
    have a5 := e5 T.1.length (Nat.le_refl _)
    have b5 : (E.map Value.int)[T.1.length]? = some (.int (nI (tm_end T.1 T.1.length))) := by rw [List.getElem?_map, a5]; rfl
    have b6 : (O.map Value.int).length = E.length := by rw [List.length_map, o2]
    have b7 : ((T.1.flatten ++ g).map Value.int).length = (T.1.flatten ++ g).length := List.length_map ..
    have b8 : (L.map Value.int).length = 1024 := by rw [List.length_map, l2]
    have b9 : (L.map Value.int)[tb_bk row]? = some (.int (nI (tm_prev tb_bk T.1 (tb_bk row) T.1.length))) := by rw [List.getElem?_map, l3 _ hbl]; rfl
    have c1 : (E.map Value.int).set (T.1.length + 1) (.int (nI (tm_end T.1 T.1.length + row.length))) = (E.set (T.1.length + 1) (nI (tm_end T.1 T.1.length + row.length))).map Value.int := by rw [List.map_set]
    have c2 : (O.map Value.int).set (T.1.length + 1) (.int (nI (tm_prev tb_bk T.1 (tb_bk row) T.1.length))) = (O.set (T.1.length + 1) (nI (tm_prev tb_bk T.1 (tb_bk row) T.1.length))).map Value.int := by rw [List.map_set]
    have c3 : (L.map Value.int).set (tb_bk row) (.int (nI (T.1.length + 1))) = (L.set (tb_bk row) (nI (T.1.length + 1))).map Value.int := by rw [List.map_set]
    have s1 : M1[30]? = some (9, [.ref p, .ref e, .ref o, .ref 34, .ref 35, .int (nI row.length), .int (nI T.1.length), .int (nI T.2.1), .int (nI T.2.2)]) := by rw [t1 30 (by omega)]; exact hob
    have s2 : M1[e]? = some (1000, E.map Value.int) := by rw [t1 e (by omega)]; exact e1
    have s3 : M2[30]? = some (9, [.ref p, .ref e, .ref o, .ref 34, .ref 35, .int (nI row.length), .int (nI T.1.length), .int (nI T.2.1), .int (nI T.2.2)]) := by rw [m2c 30 (by omega)]; exact s1
    have s4 : M2[34]? = some (1000, L.map Value.int) := by rw [m2c 34 (by omega), t1 34 (by omega)]; exact l1
    have s5 : M2[o]? = some (1000, O.map Value.int) := by rw [m2c o (by omega), t1 o (by omega)]; exact o1
    have s6 : M3[30]? = some (9, [.ref p, .ref e, .ref o, .ref 34, .ref 35, .int (nI row.length), .int (nI T.1.length), .int (nI T.2.1), .int (nI T.2.2)]) := by rw [m3c 30 (by omega)]; exact s3
    have s7 : M3[34]? = some (1000, L.map Value.int) := by rw [m3c 34 (by omega)]; exact s4
    have s8 : M4[30]? = some (9, [.ref p, .ref e, .ref o, .ref 34, .ref 35, .int (nI row.length), .int (nI T.1.length), .int (nI T.2.1), .int (nI T.2.2)]) := by rw [m4c 30 (by omega)]; exact s6
    have v2 : M1.set e (1000, (E.set (T.1.length + 1) (nI (tm_end T.1 T.1.length + row.length))).map Value.int) = M2 := rfl
    have v3 : M2.set o (1000, (O.set (T.1.length + 1) (nI (tm_prev tb_bk T.1 (tb_bk row) T.1.length))).map Value.int) = M3 := rfl
    have v4 : M3.set 34 (1000, (L.set (tb_bk row) (nI (T.1.length + 1))).map Value.int) = M4 := rfl
    have v5 : M4.set 30 (9, [.ref p, .ref e, .ref o, .ref 34, .ref 35, .int (nI row.length), .int (nI (T.1.length + 1)), .int (nI T.2.1), .int (nI T.2.2)]) = M5 := rfl
    clear_value M5 M4 M3 M2
    rw [← c1] at v2
    rw [← c2] at v3
    rw [← c3] at v4
    generalize E.map Value.int = es at *
    generalize O.map Value.int = os at *
    generalize L.map Value.int = ls at *
    generalize (T.1.flatten ++ g).map Value.int = ps at *
    rw [hPl] at p2'
    generalize (T.1.flatten ++ g).length = pl at *
    have r1 := r1 (some (.int (nI (T.1.length + 1))), M5) (by
      rw [s37_118]
      simp (disch := (first | omega | decide)) [s37_0, s37_1, s37_4, s37_5, s37_6, s37_7, s37_8, s37_11, s37_14, s37_15, s37_18, s37_19, s37_22, s37_23, s37_26, s37_28, s37_31, s37_32, s37_35, s37_36, s37_39, s37_40, s37_41, s37_42, s37_43, s37_46, s37_47, s37_50, s37_51, s37_52, s37_55, s37_56, s37_59, s37_60, s37_63, s37_64, s37_65, s37_68, s37_69, s37_70, s37_73, s37_74, s37_77, s37_78, s37_79, s37_80, s37_81, s37_82, s37_83, s37_86, s37_89, s37_90, s37_91, s37_94, s37_95, s37_98, s37_99, s37_102, s37_103, s37_104, s37_105, s37_106, s37_109, s37_110, s37_111, s37_112, s37_115, s37_119, s37_122, s37_123, s37_124, s37_125, s37_128, s37_129, s37_130, s37_131, s37_134, s37_135, s37_136, s37_139, s37_140, s37_141, s37_144, s37_145, s37_148, s37_149, s37_152, s37_153, s37_154, s37_157, s37_158, s37_159, s37_160, s37_161, s37_164, s37_165, s37_166, s37_167, s37_168, s37_169, s37_172, s37_173, mq_k0s, mq_k1s, mq_k2s, mq_k4s, mq_k5s, mq_k5n, mq_k5as, mq_k6s, mj_pu, mj_lo, mj_br, mj_hr, mj_hw, mq_gf, mq_len, mq_al, mq_pf, mq_ok, mj_re, mq_lkm, mq_lkn, mj_ldi, mj_ldl, mj_lda, mj_ii, mj_ll, mj_li, mj_i1, ms_1, ms_2, f1_n, f1_i, f1_r, f1_u, f1_l, f2_n, f2_i, f2_r, f2_u, f2_l, mj_tg, mj_c1, mj_c2, mj_ar, mj_aw, mq_cb, mq_oi, mj_rm, Value.category, -getElem?_pos, List.getElem?_cons_zero, decide_eq_true, decide_eq_false, nl_lt, nl_le, ln_lt, ln_le, nl_eq, ln_eq, nl_add, ln_add, nl_sub, ln_mul, nI_sub, nI_mul, nI_add, nI_lt_iff, nI_le_iff, nI_inj, nI_num, mq_ix, nI_1, s1, s2, s3, s4, s5, s6, s7, s8, b3, b6, b8, b9, hbk, v2, v3, v4, v5, mj_E, narrow, Nat.not_lt.mpr d2, Nat.not_lt.mpr d3, show ¬ e < 25 from Nat.not_lt.mpr d2, show ¬ o < 25 from Nat.not_lt.mpr d3])
    rw [nI_0] at r1
    simp (disch := (first | omega | decide)) [c37, s37_0, s37_1, s37_4, s37_5, s37_6, s37_7, s37_8, s37_11, s37_14, s37_15, s37_18, s37_19, s37_22, s37_23, s37_26, s37_28, s37_31, s37_32, s37_35, s37_36, s37_39, s37_40, s37_41, s37_42, s37_43, s37_46, s37_47, s37_50, s37_51, s37_52, s37_55, s37_56, s37_59, s37_60, s37_63, s37_64, s37_65, s37_68, s37_69, s37_70, s37_73, s37_74, s37_77, s37_78, s37_79, s37_80, s37_82, s37_83, s37_86, s37_89, s37_90, s37_91, s37_94, s37_95, s37_98, s37_99, s37_102, s37_103, s37_104, s37_105, s37_106, s37_109, s37_110, s37_111, s37_112, s37_115, s37_118, s37_119, s37_122, s37_123, s37_124, s37_125, s37_128, s37_129, s37_130, s37_131, s37_134, s37_135, s37_136, s37_139, s37_140, s37_141, s37_144, s37_145, s37_148, s37_149, s37_152, s37_153, s37_154, s37_157, s37_158, s37_159, s37_160, s37_161, s37_164, s37_165, s37_166, s37_167, s37_168, s37_169, s37_172, s37_173, mq_k0s, mq_k1s, mq_k2s, mq_k4s, mq_k5s, mq_k5n, mq_k5as, mq_k6s, mj_pu, mj_lo, mj_br, mj_hr, mj_hw, mq_gf, mq_len, mq_al, mq_pf, mq_ok, mj_re, mq_lkm, mq_lkn, mj_ldi, mj_ldl, mj_lda, mj_ii, mj_ll, mj_li, mj_i1, ms_1, ms_2, f1_n, f1_i, f1_r, f1_u, f1_l, f2_n, f2_i, f2_r, f2_u, f2_l, mj_tg, mj_c1, mj_c2, mj_ar, mj_aw, mq_cb, mq_oi, mj_rm, Value.category, -getElem?_pos, List.getElem?_cons_zero, decide_eq_true, decide_eq_false, nl_lt, nl_le, ln_lt, ln_le, nl_eq, ln_eq, nl_add, ln_add, nl_sub, ln_mul, nI_sub, nI_mul, nI_add, nI_lt_iff, nI_le_iff, nI_inj, nI_num, mq_ix, nI_1, hob, e1, o1, g1, b3, b5, b6, b7]
    refine mq_wk ?_ r1
    simp [mq_sub, mj_lk]
  · intro r hr
    rcases List.mem_append.mp hr with hr | hr
    · exact h.tbl.wide r hr
    · rw [List.mem_singleton.mp hr]; exact ⟨h0, hwd⟩
  · rw [m5c p d7, m4c p d10, m3c p d5, m2c p d4, q1]; simp
  · rw [List.flatten_append, List.append_assoc, List.length_append, show [row].flatten = row by simp, ePl]; rw [List.length_append] at g2; exact g2
  · rw [List.flatten_append, List.append_assoc, List.length_append, show [row].flatten = row by simp, ePl]; rw [List.length_append] at g3; exact g3
  · rw [m5c e d8, m4c e d11, m3c e d6]; exact m2e
  · intro t ht
    simp only [List.length_append, List.length_singleton] at ht
    by_cases htn : t = T.1.length + 1
    · subst htn
      rw [List.getElem?_set_self (by omega)]
      congr 2
      rw [tm_end_s (by simp), tm_end_app _ _ (Nat.le_refl _)]; simp
    · rw [List.getElem?_set_ne (by omega), tm_end_app _ _ (by omega)]; exact e5 t (by omega)
  · rw [m5c o d9, m4c o d12]
    exact List.getElem?_set_self (by rw [n2]; exact lo)
  · rw [m5c e d8, m4c e d11, m3c e d6, m2e]; simp [o2]
  · intro t ht
    simp only [List.length_append, List.length_singleton] at ht
    by_cases htn : t = T.1.length
    · subst htn
      rw [List.getElem?_set_self (by omega)]
      congr 2
      rw [tm_prev_app _ _ _ _ (Nat.le_refl _)]; simp
    · have hb : t < T.1.length := by omega
      rw [List.getElem?_set_ne (by omega), tm_prev_app _ _ _ _ (by omega)]
      have := o3 t hb
      rw [this]
      congr 3
      rw [List.getElem_append_left hb]
  · rw [m5c 34 (by omega)]
    exact List.getElem?_set_self (by rw [n3]; exact l34)
  · intro b hb
    simp only [List.length_append, List.length_singleton]
    unfold tm_prev
    rw [tm_prev_app _ _ _ _ (Nat.le_refl _)]
    by_cases hbb : b = tb_bk row
    · subst hbb
      rw [List.getElem?_set_self (by omega)]; simp
    · rw [List.getElem?_set_ne (fun z => hbb z.symm), if_neg (by simp; exact fun z => hbb z.symm)]
      exact l3 b hb
end
/- 55.terms6 -/
section
set_option maxRecDepth 512
/-! Class: Terms, told with a set of foreign cells. -/
theorem zz_tt {M : mj_H} {p e o : Nat} {T : Tm} {row : List Int32} (h : tt M p e o T row) : mj_zz M = 2 * ((M[p]?).getD (0, [])).2.length + 4 * ((M[e]?).getD (0, [])).2.length := by
  unfold mj_zz
  rw [h.ob]
theorem fx.ot {S : List Nat} {M M' : mj_H} {p e o o' : Nat} {T T' : Tm} {row row' : List Int32} (hg : mj_gr M M') (h : mq_fr S M M') (h1 : tt M p e o T row) (h2 : tt M' p e o' T' row') : fx (· ∈ S) M M' := by
  have hz : mj_zz M' = mj_zz M := by
    obtain ⟨E, e1, -⟩ := h1.tbl.en
    obtain ⟨g, g1, -⟩ := h1.tbl.po
    obtain ⟨q1, a1, -, a3⟩ := hg.at e1
    obtain ⟨q2, b1, -, b3⟩ := hg.at g1
    rw [zz_tt h1, zz_tt h2, e1, g1, a1, b1]
    simp only [Option.getD_some]
    rw [a3, b3]
  have hs := hg.sl
  rw [List.drop_eq_nil_of_le (by rw [h.1]; exact Nat.le_refl _)] at hs
  refine (fx_mk_ hg (fun c _ hc => h.2 c hc) ?_ ?_)
  · rw [hs, hz]; simp [mj_sl]
  · rw [hz, h.1]; exact Nat.le_refl _
/-- what Terms may change: all but the foreign cells -/
def na (A : Nat → Prop) (c : Nat) : Prop := ¬ A c
theorem tx.up {A : Nat → Prop} {M M' : mj_H} {T T' : Tm} {row row' : List Int32} {p e o : Nat} {d j : Nat} {vs : List Value} {v : Option Value} (h : tx A M T row) (ht : tt M p e o T row) (hp : ¬ A p) (he : ¬ A e) (ho : ¬ A o) (hv : mj_V d j vs M = some (v, M')) (h' : tt M' p e o T' row') (hf : mq_fr [30, 35] M M') : tx A M' T' row' ∧ fx (na A) M M' := by
  refine ⟨(tx_mk_ (⟨p, e, o, h', hp, he, ho⟩) h.a0 h.a4 h.a5 (fun c hc => by rw [hf.1]; exact h.lo c hc)), (fx.ot (mj_V_gr hv) hf ht h').mono ?_⟩
  intro c _ hc hA
  simp only [List.mem_cons, List.mem_nil_iff, or_false] at hc
  rcases hc with rfl | rfl
  · exact h.a0 hA
  · exact h.a5 hA
theorem tx.wid {A : Nat → Prop} {M : mj_H} {T : Tm} {row : List Int32} (h : tx A M T row) : row.length ≤ 410 := by
  obtain ⟨⟨p, e, o, ht, -⟩, -⟩ := h
  exact ht.wid
theorem tx.few {A : Nat → Prop} {M : mj_H} {T : Tm} {row : List Int32} (h : tx A M T row) : T.1.length ≤ 1000 := by
  obtain ⟨⟨p, e, o, ht, -⟩, -⟩ := h
  exact ht.tbl.few
theorem tx.p30 {A : Nat → Prop} {M : mj_H} {T : Tm} {row : List Int32} (h : tx A M T row) : mj_p30 M := by
  obtain ⟨⟨p, e, o, ht, -⟩, -⟩ := h
  obtain ⟨E, e1, -⟩ := ht.tbl.en
  obtain ⟨g, g1, -⟩ := ht.tbl.po
  exact ⟨_, _, _, _, ht.ob, mq_lt g1, mq_lt e1⟩
/-- the class of the cell of terms -/
theorem tx.ob {A : Nat → Prop} {M : mj_H} {T : Tm} {row : List Int32} (h : tx A M T row) : ∃ p e o, M[30]? = some (9, [.ref p, .ref e, .ref o, .ref 34, .ref 35, .int (nI row.length), .int (nI T.1.length), .int (nI T.2.1), .int (nI T.2.2)]) := by
  obtain ⟨⟨p, e, o, ht, -⟩, -⟩ := h
  exact ⟨p, e, o, ht.ob⟩
/-- foreign cells changed, those of terms not -/
theorem tx.fr {A : Nat → Prop} {M M' : mj_H} {T : Tm} {row : List Int32} (h : tx A M T row) (hl : M.length ≤ M'.length) (hs : ∀ c, c < M.length → ¬ A c → M'[c]? = M[c]?) : tx A M' T row := by
  obtain ⟨⟨p, e, o, ht, hp, he, ho⟩, h0, h4, h5, hlo⟩ := id h
  obtain ⟨E, e1, -⟩ := ht.tbl.en
  obtain ⟨g, g1, -⟩ := ht.tbl.po
  obtain ⟨O, o1, -⟩ := ht.tbl.ol
  obtain ⟨L, l1, -⟩ := ht.tbl.la
  obtain ⟨f, f1, -⟩ := ht.rw
  exact (tx_mk_ (⟨p, e, o, ht.fr (hs _ (mq_lt ht.ob) h0) (hs _ (mq_lt g1) hp) (hs _ (mq_lt e1) he) (hs _ (mq_lt o1) ho) (hs _ (mq_lt l1) h4) (hs _ (mq_lt f1) h5), hp, he, ho⟩) h0 h4 h5 (fun c hc => Nat.lt_of_lt_of_le (hlo c hc) hl))
theorem tb.tm {M : mj_H} {p e o : Nat} {T T' : Tm} (h : tb M p e o T) (hr : T'.1 = T.1) : tb M p e o T' := by
  cases T; cases T'
  cases hr
  exact (tb_mk_ h.few h.wide h.po h.en h.ol h.la)
section TX
variable {d : Nat} {A : Nat → Prop} {M : mj_H} {T : Tm} {row : List Int32}
theorem tx_add (h : tx A M T row) (hl : row.length < 410) (v : Int32) : ∃ M', mj_V (d + 1) 29 [.ref 30, .int v] M = some (none, M') ∧ tx A M' T (row ++ [v]) ∧ fx (na A) M M' := by
  obtain ⟨⟨p, e, o, ht, hp, he, ho⟩, -⟩ := id h
  obtain ⟨M', r1, r2, r3⟩ := t_add (d := d) ht hl v
  exact ⟨M', r1, h.up ht hp he ho r1 r2 r3⟩
theorem tx_begin (h : tx A M T row) (v : Int32) : ∃ M', mj_V (d + 2) 28 [.ref 30, .int v] M = some (none, M') ∧ tx A M' T [v] ∧ fx (na A) M M' := by
  obtain ⟨⟨p, e, o, ht, hp, he, ho⟩, -⟩ := id h
  obtain ⟨M', r1, r2, r3⟩ := t_begin (d := d) ht v
  exact ⟨M', r1, h.up ht hp he ho r1 r2 r3⟩
theorem tx_addFour (h : tx A M T row) (hl : row.length + 4 ≤ 410) (v : Int32) : ∃ M', mj_V (d + 2) 122 [.ref 30, .int v] M = some (none, M') ∧ tx A M' T (row ++ bt_4 v) ∧ fx (na A) M M' := by
  obtain ⟨⟨p, e, o, ht, hp, he, ho⟩, -⟩ := id h
  obtain ⟨M', r1, r2, r3⟩ := t_addFour (d := d) ht hl v
  exact ⟨M', r1, h.up ht hp he ho r1 r2 r3⟩
theorem tx_addBytes {c b cap q n : Nat} {ys : List Int32} (h : tx A M T row) (hy : bb M c b cap ys) (hc : A c) (hb : A b) (hn : q + n ≤ ys.length) (hl : row.length + n ≤ 410) : ∃ M', mj_V (d + 2) 113 [.ref 30, .ref c, .int (nI q), .int (nI n)] M = some (none, M') ∧ tx A M' T (row ++ (ys.drop q).take n) ∧ fx (na A) M M' := by
  obtain ⟨⟨p, e, o, ht, hp, he, ho⟩, -⟩ := id h
  have z : ∀ x y, A x → ¬ A y → x ≠ y := fun x y hx hy e => hy (e ▸ hx)
  obtain ⟨M', r1, r2, r3⟩ := t_addBytes (d := d) ⟨z _ _ hc h.a0, z _ _ hc h.a5, z _ _ hb h.a0, z _ _ hb h.a5⟩ hn hl ht hy
  exact ⟨M', r1, h.up ht hp he ho r1 r2 r3⟩
theorem tx_known (h : tx A M T row) : mj_V (d + 2) 31 [.ref 30] M = some (some (.int (nI (tm_ix T.1 row))), M) := by
  obtain ⟨⟨p, e, o, ht, -⟩, -⟩ := h
  exact tc_known ht
theorem tx_part (h : tx A M T row) (t i : Int32) : mj_V (d + 2) 20 [.ref 30, .int t, .int i] M = some (some (.int (bt_at (tm_row T.1 t) i)), M) := by
  obtain ⟨⟨p, e, o, ht, -⟩, -⟩ := h
  exact t_part ht t i
theorem tx_width (h : tx A M T row) (t : Int32) : mj_V (d + 1) 21 [.ref 30, .int t] M = some (some (.int (nI (tm_row T.1 t).length)), M) := by
  obtain ⟨⟨p, e, o, ht, -⟩, -⟩ := h
  exact t_width ht t
theorem tx_count (h : tx A M T row) : mj_V (d + 1) 18 [.ref 30] M = some (some (.int (nI T.1.length)), M) := by
  obtain ⟨⟨p, e, o, ht, -⟩, -⟩ := h
  exact t_count ht
/-- a row becomes a term, if it is none yet -/
def tm_mk (T : Tm) (row : List Int32) : Tm := if tm_ix T.1 row = 0 then ((T.1 ++ [row], (T.2.1, T.2.2)) : Tm) else T
def tm_no (T : Tm) (row : List Int32) : Nat := if tm_ix T.1 row = 0 then T.1.length + 1 else tm_ix T.1 row
theorem tx_made (h : tx A M T row) (h0 : 0 < row.length) (hf : T.1.length < 1000) : ∃ M', mj_V (d + 4) 30 [.ref 30] M = some (some (.int (nI (tm_no T row))), M') ∧ tx A M' (tm_mk T row) row ∧ fx (na A) M M' := by
  obtain ⟨⟨p, e, o, ht, hp, he, ho⟩, a0, a4, a5, hlo⟩ := id h
  have hk := tc_known (d := d + 1) ht
  have hix := tm_ix_le T.1 row
  unfold tm_no tm_mk
  by_cases h1 : tm_ix T.1 row = 0
  · rw [if_pos h1, if_pos h1]
    rw [h1] at hk
    obtain ⟨M1, e1, o1, r1, t1, f1, c1, w1, lp⟩ := g_ends (d := d) ht hf
    obtain ⟨M2, p2, r2, t2, f2, c2, w2⟩ := g_pool (d := d) t1 hf
    have hE : ∃ E : List Int32, M2[e1]? = some (1000, E.map Value.int) ∧ T.1.length + 1 < E.length := by
      obtain ⟨E, x1, x2⟩ := c1
      exact ⟨E, by rw [f2.same e1 (mq_lt x1) (t1.dis.2.2.2.2.2.2.2.1)]; exact x1, x2⟩
    obtain ⟨M3, r3, t3, f3, w3⟩ := tc_added (d := d + 1) t2 h0 hf hE c2
    have hroom : mj_V (d + 3) 34 [.ref 30] M = some (none, M2) := by
      rw [show d + 3 = (d + 2) + 1 from rfl, c34, r1]; exact r2
    have hv : mj_V (d + 4) 30 [.ref 30] M = some (some (.int (nI (T.1.length + 1))), M3) := by
      simp (disch := (first | omega | decide)) [c30, s30_0, s30_1, s30_4, s30_5, s30_6, s30_9, s30_10, s30_11, s30_12, s30_15, s30_16, s30_19, mq_k0s, mq_k1s, mq_k2s, mq_k4s, mq_k5s, mq_k5n, mq_k5as, mq_k6s, mj_pu, mj_lo, mj_br, mj_hr, mj_hw, mq_gf, mq_len, mq_al, mq_pf, mq_ok, mj_re, mq_lkm, mq_lkn, mj_ldi, mj_ldl, mj_lda, mj_ii, mj_ll, mj_li, mj_i1, ms_1, ms_2, f1_n, f1_i, f1_r, f1_u, f1_l, f2_n, f2_i, f2_r, f2_u, f2_l, mj_tg, mj_c1, mj_c2, mj_ar, mj_aw, mq_cb, mq_oi, mj_rm, Value.category, -getElem?_pos, List.getElem?_cons_zero, decide_eq_true, decide_eq_false, nl_lt, nl_le, ln_lt, ln_le, nl_eq, ln_eq, nl_add, ln_add, nl_sub, ln_mul, nI_sub, nI_mul, nI_add, nI_lt_iff, nI_le_iff, nI_inj, nI_num, mq_ix, nI_1, ht.ob, hk, hroom, t2.ob, r3, narrow]
    have len1 := f1.gr.len
    have len2 := f2.gr.len
    have le1 : ¬ A e1 ∧ ¬ A o1 := by
      rcases w1 with ⟨rfl, rfl⟩ | ⟨ha, hb⟩
      · exact ⟨he, ho⟩
      · exact ⟨fun z => by have := hlo _ z; omega, fun z => by have := hlo _ z; omega⟩
    have lp2 : ¬ A p2 := by
      rcases w2 with rfl | ha
      · exact hp
      · exact fun z => by have := hlo _ z; omega
    have g3 : fx (· ∈ [30, 34, p2, e1, o1]) M2 M3 := fx.ot (mj_V_gr r3) f3 t2 t3
    refine ⟨M3, hv, (tx_mk_ (⟨p2, e1, o1, t3, lp2, le1.1, le1.2⟩) a0 a4 a5 (fun c hc => ?_)), ?_⟩
    · rw [f3.1]; have := hlo c hc; omega
    · refine (f1.trs f2).tr g3 ?_ ?_
      · intro c _ hc; rw [hc]; exact a0
      · intro c _ hc
        simp only [List.mem_cons, List.mem_nil_iff, or_false] at hc
        rcases hc with rfl | rfl | rfl | rfl | rfl
        · exact a0
        · exact a4
        · exact lp2
        · exact le1.1
        · exact le1.2
  · rw [if_neg h1, if_neg h1]
    refine ⟨M, ?_, h, fx.rf⟩
    simp (disch := (first | omega | decide)) [c30, s30_0, s30_1, s30_4, s30_5, s30_6, s30_9, s30_10, s30_11, s30_12, s30_15, s30_16, s30_19, mq_k0s, mq_k1s, mq_k2s, mq_k4s, mq_k5s, mq_k5n, mq_k5as, mq_k6s, mj_pu, mj_lo, mj_br, mj_hr, mj_hw, mq_gf, mq_len, mq_al, mq_pf, mq_ok, mj_re, mq_lkm, mq_lkn, mj_ldi, mj_ldl, mj_lda, mj_ii, mj_ll, mj_li, mj_i1, ms_1, ms_2, f1_n, f1_i, f1_r, f1_u, f1_l, f2_n, f2_i, f2_r, f2_u, f2_l, mj_tg, mj_c1, mj_c2, mj_ar, mj_aw, mq_cb, mq_oi, mj_rm, Value.category, -getElem?_pos, List.getElem?_cons_zero, decide_eq_true, decide_eq_false, nl_lt, nl_le, ln_lt, ln_le, nl_eq, ln_eq, nl_add, ln_add, nl_sub, ln_mul, nI_sub, nI_mul, nI_add, nI_lt_iff, nI_le_iff, nI_inj, nI_num, mq_ix, nI_1, ht.ob, hk, narrow]
theorem tx_newSecret (h : tx A M T row) : ∃ M', mj_V (d + 1) 66 [.ref 30] M = some (some (.int (nI (T.2.2 + 1))), M') ∧ tx A M' ((T.1, (T.2.1, T.2.2 + 1)) : Tm) row ∧ fx (na A) M M' := by
  obtain ⟨⟨p, e, o, ht, hp, he, ho⟩, -⟩ := id h
  have hob := ht.ob
  have hd := ht.dis
  obtain ⟨d1, d2, d3, d4, d5, d6, d7, d8, d9, d10, d11, d12, d13, d14, d15⟩ := ht.dis
  have l30 := mq_lt hob
  have hv : mj_V (d + 1) 66 [.ref 30] M = some (some (.int (nI (T.2.2 + 1))), M.set 30 (9, [.ref p, .ref e, .ref o, .ref 34, .ref 35, .int (nI row.length), .int (nI T.1.length), .int (nI T.2.1), .int (nI (T.2.2 + 1))])) := by
    simp (disch := (first | omega | decide)) [c66, s66_0, s66_1, s66_2, s66_5, s66_6, s66_7, s66_10, s66_11, s66_14, mq_k0s, mq_k1s, mq_k2s, mq_k4s, mq_k5s, mq_k5n, mq_k5as, mq_k6s, mj_pu, mj_lo, mj_br, mj_hr, mj_hw, mq_gf, mq_len, mq_al, mq_pf, mq_ok, mj_re, mq_lkm, mq_lkn, mj_ldi, mj_ldl, mj_lda, mj_ii, mj_ll, mj_li, mj_i1, ms_1, ms_2, f1_n, f1_i, f1_r, f1_u, f1_l, f2_n, f2_i, f2_r, f2_u, f2_l, mj_tg, mj_c1, mj_c2, mj_ar, mj_aw, mq_cb, mq_oi, mj_rm, Value.category, -getElem?_pos, List.getElem?_cons_zero, decide_eq_true, decide_eq_false, nl_lt, nl_le, ln_lt, ln_le, nl_eq, ln_eq, nl_add, ln_add, nl_sub, ln_mul, nI_sub, nI_mul, nI_add, nI_lt_iff, nI_le_iff, nI_inj, nI_num, mq_ix, nI_1, hob, mj_E, List.getElem?_set, l30, narrow]
  refine ⟨_, hv, h.up ht hp he ho hv (tt_mk_ (by simp [List.getElem?_set, l30]) (by simpa [List.getElem?_set] using ht.rw) ((ht.tbl.fr ?_ ?_ ?_ ?_).tm rfl) ht.dis) ((mq_fr.rf.set (by simp)))⟩ <;> rw [List.getElem?_set_ne (by omega)]
/-- the count of FRESH ones, one more -/
theorem tx_freshTerm (h : tx A M T row) (hf : T.1.length < 1000) : ∃ M', mj_V (d + 5) 27 [.ref 30] M = some (some (.int (nI (tm_no T [1, nI T.2.1]))), M') ∧ tx A M' (((tm_mk T [1, nI T.2.1]).1, (T.2.1 + 1, (tm_mk T [1, nI T.2.1]).2.2)) : Tm) [1, nI T.2.1] ∧ fx (na A) M M' := by
  obtain ⟨M1, p1, r1, f1⟩ := tx_begin (d := d + 2) h 1
  obtain ⟨M2, p2, r2, f2⟩ := tx_add (d := d + 3) r1 (by simp) (nI T.2.1)
  obtain ⟨⟨p, e, o, ht, hp, he, ho⟩, -⟩ := id r2
  obtain ⟨⟨p0, e0, o0, ht1, -⟩, -⟩ := id r1
  have hob := ht.ob
  obtain ⟨d1, d2, d3, d4, d5, d6, d7, d8, d9, d10, d11, d12, d13, d14, d15⟩ := ht.dis
  have l30 := mq_lt hob
  let M3 : mj_H := M2.set 30 (9, [.ref p, .ref e, .ref o, .ref 34, .ref 35, .int (nI ([1] ++ [nI T.2.1]).length), .int (nI T.1.length), .int (nI (T.2.1 + 1)), .int (nI T.2.2)])
  have t3 : tt M3 p e o ((T.1, (T.2.1 + 1, T.2.2)) : Tm) ([1] ++ [nI T.2.1]) := by
    refine (tt_mk_ (by simp [M3, List.getElem?_set, l30]) (by simpa [M3, List.getElem?_set] using ht.rw) ((tb_mk_ ht.tbl.few ht.tbl.wide ?_ ?_ ?_ ?_)) ht.dis)
    · have := ht.tbl.po; rw [show M3[p]? = M2[p]? from List.getElem?_set_ne (by omega)]; exact this
    · have := ht.tbl.en; rw [show M3[e]? = M2[e]? from List.getElem?_set_ne (by omega)]; exact this
    · have := ht.tbl.ol; rw [show M3[o]? = M2[o]? from List.getElem?_set_ne (by omega), show M3[e]? = M2[e]? from List.getElem?_set_ne (by omega)]; exact this
    · have := ht.tbl.la; rw [show M3[34]? = M2[34]? from List.getElem?_set_ne (by omega)]; exact this
  have g3 : fx (· ∈ [30]) M2 M3 := fx.ot (mj_gr.set hob rfl rfl) (mq_fr.rf.set (by simp)) ht t3
  have f3 : fx (na A) M2 M3 := g3.mono (fun c _ hc => by rw [List.mem_singleton.mp hc]; exact r2.a0)
  have r3 : tx A M3 ((T.1, (T.2.1 + 1, T.2.2)) : Tm) ([1] ++ [nI T.2.1]) := (tx_mk_ (⟨p, e, o, t3, hp, he, ho⟩) r2.a0 r2.a4 r2.a5 (fun c hc => by show c < (M2.set _ _).length; rw [List.length_set]; exact r2.lo c hc))
  obtain ⟨M4, p4, r4, f4⟩ := tx_made (d := d) r3 (by simp) hf
  have e1 : tm_no ((T.1, (T.2.1 + 1, T.2.2)) : Tm) ([1] ++ [nI T.2.1]) = tm_no T [1, nI T.2.1] := rfl
  have e2 : tm_mk ((T.1, (T.2.1 + 1, T.2.2)) : Tm) ([1] ++ [nI T.2.1]) = (((tm_mk T [1, nI T.2.1]).1, (T.2.1 + 1, (tm_mk T [1, nI T.2.1]).2.2)) : Tm) := by
    unfold tm_mk
    simp only [List.singleton_append]
    split <;> rfl
  rw [e1] at p4
  rw [e2] at r4
  refine ⟨M4, ?_, r4, ((f1.trs f2).trs f3).trs f4⟩
  have s3 : M2.set 30 (9, [.ref p, .ref e, .ref o, .ref 34, .ref 35, .int (nI ([1] ++ [nI T.2.1]).length), .int (nI T.1.length), .int (nI (T.2.1 + 1)), .int (nI T.2.2)]) = M3 := rfl
  have o3 := t3.ob
  have o0 := h.ob
  obtain ⟨x1, x2, x3, o0⟩ := o0
  clear_value M3
  simp only [List.singleton_append, List.length_cons, List.length_nil, Nat.zero_add, Nat.reduceAdd] at hob s3 o3 p4
  simp (disch := (first | omega | decide)) [c27, s27_0, s27_1, s27_2, s27_5, s27_6, s27_7, s27_10, s27_13, s27_14, s27_15, s27_18, s27_19, s27_20, s27_23, s27_24, s27_27, mq_k0s, mq_k1s, mq_k2s, mq_k4s, mq_k5s, mq_k5n, mq_k5as, mq_k6s, mj_pu, mj_lo, mj_br, mj_hr, mj_hw, mq_gf, mq_len, mq_al, mq_pf, mq_ok, mj_re, mq_lkm, mq_lkn, mj_ldi, mj_ldl, mj_lda, mj_ii, mj_ll, mj_li, mj_i1, ms_1, ms_2, f1_n, f1_i, f1_r, f1_u, f1_l, f2_n, f2_i, f2_r, f2_u, f2_l, mj_tg, mj_c1, mj_c2, mj_ar, mj_aw, mq_cb, mq_oi, mj_rm, Value.category, -getElem?_pos, List.getElem?_cons_zero, decide_eq_true, decide_eq_false, nl_lt, nl_le, ln_lt, ln_le, nl_eq, ln_eq, nl_add, ln_add, nl_sub, ln_mul, nI_sub, nI_mul, nI_add, nI_lt_iff, nI_le_iff, nI_inj, nI_num, mq_ix, nI_1, o0, p1, ht1.ob, p2, hob, mj_E, s3, o3, p4, narrow]
theorem tx_publicOf (h : tx A M T row) (s : Int32) (hf : T.1.length < 1000) : ∃ M', mj_V (d + 5) 130 [.ref 30, .int s] M = some (some (.int (nI (tm_no T [2, s]))), M') ∧ tx A M' (tm_mk T [2, s]) [2, s] ∧ fx (na A) M M' := by
  obtain ⟨M1, p1, r1, f1⟩ := tx_begin (d := d + 2) h 2
  obtain ⟨M2, p2, r2, f2⟩ := tx_add (d := d + 3) r1 (by simp) s
  obtain ⟨M4, p4, r4, f4⟩ := tx_made (d := d) r2 (by simp) hf
  obtain ⟨x1, x2, x3, o0⟩ := h.ob
  obtain ⟨y1, y2, y3, o1⟩ := r1.ob
  obtain ⟨z1, z2, z3, o2⟩ := r2.ob
  refine ⟨M4, ?_, r4, (f1.trs f2).trs f4⟩
  simp only [List.singleton_append] at p4
  simp (disch := (first | omega | decide)) [c130, s130_0, s130_1, s130_2, s130_5, s130_6, s130_7, s130_10, s130_11, s130_14, mq_k0s, mq_k1s, mq_k2s, mq_k4s, mq_k5s, mq_k5n, mq_k5as, mq_k6s, mj_pu, mj_lo, mj_br, mj_hr, mj_hw, mq_gf, mq_len, mq_al, mq_pf, mq_ok, mj_re, mq_lkm, mq_lkn, mj_ldi, mj_ldl, mj_lda, mj_ii, mj_ll, mj_li, mj_i1, ms_1, ms_2, f1_n, f1_i, f1_r, f1_u, f1_l, f2_n, f2_i, f2_r, f2_u, f2_l, mj_tg, mj_c1, mj_c2, mj_ar, mj_aw, mq_cb, mq_oi, mj_rm, Value.category, -getElem?_pos, List.getElem?_cons_zero, decide_eq_true, decide_eq_false, nl_lt, nl_le, ln_lt, ln_le, nl_eq, ln_eq, nl_add, ln_add, nl_sub, ln_mul, nI_sub, nI_mul, nI_add, nI_lt_iff, nI_le_iff, nI_inj, nI_num, mq_ix, nI_1, o0, p1, o1, p2, o2, p4, narrow]
/-- the secret of a PUBLIC; 0 for what is none -/
def tm_sec (rows : List (List Int32)) (t : Int32) : Int32 := if bt_at (tm_row rows t) 0 = 2 then bt_at (tm_row rows t) 1 else 0
theorem tx_secretOf (h : tx A M T row) (t : Int32) : mj_V (d + 3) 145 [.ref 30, .int t] M = some (some (.int (tm_sec T.1 t)), M) := by
  obtain ⟨x1, x2, x3, o0⟩ := h.ob
  have h1 := tx_part (d := d) h t 0
  have h2 := tx_part (d := d) h t 1
  unfold tm_sec
  by_cases hs : bt_at (tm_row T.1 t) 0 = 2
  · simp (disch := (first | omega | decide)) [c145, s145_0, s145_1, s145_2, s145_3, s145_6, s145_7, s145_10, s145_11, s145_12, s145_13, s145_16, s145_19, s145_20, mq_k0s, mq_k1s, mq_k2s, mq_k4s, mq_k5s, mq_k5n, mq_k5as, mq_k6s, mj_pu, mj_lo, mj_br, mj_hr, mj_hw, mq_gf, mq_len, mq_al, mq_pf, mq_ok, mj_re, mq_lkm, mq_lkn, mj_ldi, mj_ldl, mj_lda, mj_ii, mj_ll, mj_li, mj_i1, ms_1, ms_2, f1_n, f1_i, f1_r, f1_u, f1_l, f2_n, f2_i, f2_r, f2_u, f2_l, mj_tg, mj_c1, mj_c2, mj_ar, mj_aw, mq_cb, mq_oi, mj_rm, Value.category, -getElem?_pos, List.getElem?_cons_zero, decide_eq_true, decide_eq_false, nl_lt, nl_le, ln_lt, ln_le, nl_eq, ln_eq, nl_add, ln_add, nl_sub, ln_mul, nI_sub, nI_mul, nI_add, nI_lt_iff, nI_le_iff, nI_inj, nI_num, mq_ix, nI_1, o0, h1, h2, hs, narrow]
  · simp (disch := (first | omega | decide)) [c145, s145_0, s145_1, s145_2, s145_3, s145_6, s145_7, s145_10, s145_11, s145_12, s145_13, s145_16, s145_19, s145_20, mq_k0s, mq_k1s, mq_k2s, mq_k4s, mq_k5s, mq_k5n, mq_k5as, mq_k6s, mj_pu, mj_lo, mj_br, mj_hr, mj_hw, mq_gf, mq_len, mq_al, mq_pf, mq_ok, mj_re, mq_lkm, mq_lkn, mj_ldi, mj_ldl, mj_lda, mj_ii, mj_ll, mj_li, mj_i1, ms_1, ms_2, f1_n, f1_i, f1_r, f1_u, f1_l, f2_n, f2_i, f2_r, f2_u, f2_l, mj_tg, mj_c1, mj_c2, mj_ar, mj_aw, mq_cb, mq_oi, mj_rm, Value.category, -getElem?_pos, List.getElem?_cons_zero, decide_eq_true, decide_eq_false, nl_lt, nl_le, ln_lt, ln_le, nl_eq, ln_eq, nl_add, ln_add, nl_sub, ln_mul, nI_sub, nI_mul, nI_add, nI_lt_iff, nI_le_iff, nI_inj, nI_num, mq_ix, nI_1, o0, h1, h2, hs, narrow]
/-- the row of AGREED -/
def tm_agr (a b : Int32) : List Int32 := [3, if a ≤ b then a else b, if a < b then b else a]
theorem tx_beginAgreed (h : tx A M T row) (a b : Int32) : ∃ M', mj_V (d + 3) 147 [.ref 30, .int a, .int b] M = some (none, M') ∧ tx A M' T (tm_agr a b) ∧ fx (na A) M M' := by
  obtain ⟨M1, p1, r1, f1⟩ := tx_begin (d := d) h 3
  obtain ⟨M2, p2, r2, f2⟩ := tx_add (d := d + 1) r1 (by simp) (if a ≤ b then a else b)
  obtain ⟨M3, p3, r3, f3⟩ := tx_add (d := d + 1) r2 (by simp) (if a < b then b else a)
  obtain ⟨x1, x2, x3, o0⟩ := h.ob
  obtain ⟨y1, y2, y3, o1⟩ := r1.ob
  obtain ⟨z1, z2, z3, o2⟩ := r2.ob
  refine ⟨M3, ?_, r3, (f1.trs f2).trs f3⟩
  have m1 := j_min (d := d + 1) (x := a) (y := b) (M := M1)
  have m2 := j_max (d := d + 1) (x := a) (y := b) (M := M2)
  simp [c147, s147_0, s147_1, s147_2, s147_5, s147_6, s147_7, s147_8, s147_11, s147_14, s147_15, s147_16, s147_17, s147_20, s147_23, mq_k0s, mq_k1s, mq_k2s, mq_k4s, mq_k5s, mq_k5n, mq_k5as, mq_k6s, mj_pu, mj_lo, mj_br, mj_hr, mj_hw, mq_gf, mq_len, mq_al, mq_pf, mq_ok, mj_re, mj_lk, mj_ldi, mj_ldl, mj_lda, mj_ii, mj_ll, mj_li, mj_i1, mj_s1, mj_s2, mj_tg, mj_c1, mj_c2, mj_ar, mj_aw, mq_cb, mq_oi, mj_rm, Value.category, o0, p1, o1, m1, p2, m2, o2, p3]
theorem l_addParts {t : Int32} {q n : Nat} (hn : n = (tm_row T.1 t).length) (hq : n < 2 ^ 30) : ∀ (m j : Nat) (row : List Int32) (M : mj_H), q + j + m = n → row.length + m ≤ 410 → tx A M T row → ∃ M', mj_Rn (d + 2) mj_m153 9 [(4, .int (nI (q + j))), (3, .int (nI n)), (0, .ref 30), (1, .int t), (2, .int (nI q))] [] M = some (none, M') ∧ tx A M' T (row ++ (tm_row T.1 t).drop (q + j)) ∧ fx (na A) M M' := by
  intro m
  induction m with
  | zero =>
    intro j row M hj hl h
    refine ⟨M, ?_, by rw [List.drop_eq_nil_of_le (by omega)]; simpa using h, fx.rf⟩
    simp (disch := (first | omega | decide)) [s153_0, s153_1, s153_2, s153_5, s153_6, s153_7, s153_9, s153_11, s153_12, s153_15, s153_16, s153_17, s153_18, s153_20, s153_23, s153_26, s153_29, s153_32, mq_k0s, mq_k1s, mq_k2s, mq_k4s, mq_k5s, mq_k5n, mq_k5as, mq_k6s, mj_pu, mj_lo, mj_br, mj_hr, mj_hw, mq_gf, mq_len, mq_al, mq_pf, mq_ok, mj_re, mq_lkm, mq_lkn, mj_ldi, mj_ldl, mj_lda, mj_ii, mj_ll, mj_li, mj_i1, ms_1, ms_2, f1_n, f1_i, f1_r, f1_u, f1_l, f2_n, f2_i, f2_r, f2_u, f2_l, mj_tg, mj_c1, mj_c2, mj_ar, mj_aw, mq_cb, mq_oi, mj_rm, Value.category, -getElem?_pos, List.getElem?_cons_zero, decide_eq_true, decide_eq_false, nl_lt, nl_le, ln_lt, ln_le, nl_eq, ln_eq, nl_add, ln_add, nl_sub, ln_mul, nI_sub, nI_mul, nI_add, nI_lt_iff, nI_le_iff, nI_inj, nI_num, mq_ix, nI_1]
  | succ m ih =>
    intro j row M hj hl h
    have hk : q + j < (tm_row T.1 t).length := by omega
    have hp := tx_part (d := d) h t (nI (q + j))
    rw [bt_at_nI (by omega)] at hp
    have hg : (tm_row T.1 t).getD (q + j) (-1) = (tm_row T.1 t)[q + j] := by simp [List.getD, hk]
    rw [hg] at hp
    obtain ⟨M1, p1, r1, f1⟩ := tx_add (d := d + 1) h (by omega) (tm_row T.1 t)[q + j]
    obtain ⟨M', r4, r5, r6⟩ := ih (j + 1) _ M1 (by omega) (by simp; omega) r1
    obtain ⟨x1, x2, x3, o0⟩ := h.ob
    refine ⟨M', ?_, ?_, f1.trs r6⟩
    · generalize (tm_row T.1 t)[q + j] = u at *
      rw [s153_9]
      simp (disch := (first | omega | decide)) [s153_0, s153_1, s153_2, s153_5, s153_6, s153_7, s153_11, s153_12, s153_15, s153_16, s153_17, s153_18, s153_20, s153_23, s153_26, s153_29, s153_32, mq_k0s, mq_k1s, mq_k2s, mq_k4s, mq_k5s, mq_k5n, mq_k5as, mq_k6s, mj_pu, mj_lo, mj_br, mj_hr, mj_hw, mq_gf, mq_len, mq_al, mq_pf, mq_ok, mj_re, mq_lkm, mq_lkn, mj_ldi, mj_ldl, mj_lda, mj_ii, mj_ll, mj_li, mj_i1, ms_1, ms_2, f1_n, f1_i, f1_r, f1_u, f1_l, f2_n, f2_i, f2_r, f2_u, f2_l, mj_tg, mj_c1, mj_c2, mj_ar, mj_aw, mq_cb, mq_oi, mj_rm, Value.category, -getElem?_pos, List.getElem?_cons_zero, decide_eq_true, decide_eq_false, nl_lt, nl_le, ln_lt, ln_le, nl_eq, ln_eq, nl_add, ln_add, nl_sub, ln_mul, nI_sub, nI_mul, nI_add, nI_lt_iff, nI_le_iff, nI_inj, nI_num, mq_ix, nI_1, o0, hp, p1]
      exact r4
    · rw [List.drop_eq_getElem_cons hk]
      rw [List.append_assoc] at r5
      exact r5
theorem tx_addPartsOf {t : Int32} {q : Nat} (h : tx A M T row) (hq : q ≤ (tm_row T.1 t).length) (hl : row.length + (tm_row T.1 t).length ≤ 410) : ∃ M', mj_V (d + 3) 153 [.ref 30, .int t, .int (nI q)] M = some (none, M') ∧ tx A M' T (row ++ (tm_row T.1 t).drop q) ∧ fx (na A) M M' := by
  obtain ⟨M', r1, r2, r3⟩ := l_addParts (d := d) (q := q) (n := (tm_row T.1 t).length) rfl (by omega) ((tm_row T.1 t).length - q) 0 row M (by omega) (by omega) h
  obtain ⟨x1, x2, x3, o0⟩ := h.ob
  have hw := tx_width (d := d + 1) h t
  refine ⟨M', ?_, r2, r3⟩
  simp (disch := (first | omega | decide)) [c153, s153_0, s153_1, s153_2, s153_5, s153_6, s153_7, s153_11, s153_12, s153_15, s153_16, s153_17, s153_18, s153_20, s153_23, s153_26, s153_29, s153_32, mq_k0s, mq_k1s, mq_k2s, mq_k4s, mq_k5s, mq_k5n, mq_k5as, mq_k6s, mj_pu, mj_lo, mj_br, mj_hr, mj_hw, mq_gf, mq_len, mq_al, mq_pf, mq_ok, mj_re, mq_lkm, mq_lkn, mj_ldi, mj_ldl, mj_lda, mj_ii, mj_ll, mj_li, mj_i1, ms_1, ms_2, f1_n, f1_i, f1_r, f1_u, f1_l, f2_n, f2_i, f2_r, f2_u, f2_l, mj_tg, mj_c1, mj_c2, mj_ar, mj_aw, mq_cb, mq_oi, mj_rm, Value.category, -getElem?_pos, List.getElem?_cons_zero, decide_eq_true, decide_eq_false, nl_lt, nl_le, ln_lt, ln_le, nl_eq, ln_eq, nl_add, ln_add, nl_sub, ln_mul, nI_sub, nI_mul, nI_add, nI_lt_iff, nI_le_iff, nI_inj, nI_num, mq_ix, nI_1, o0, hw]
  exact r1
end TX
end
