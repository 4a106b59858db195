/-! Class: Bytes, its loops. -/
/- 10 PasskeyHouse$Bytes.pushLow(JI)V -/
theorem s10_0 {d : Nat} {ls : mj_L} {st : List Value} {M : mj_H} : mj_Rn d mj_m10 0 ls st M = mq_k0 d mj_m10 1 ls M (mj_ldi (mj_lk ls 3) st) := mj_R0 (r := (.iload_n 3, 1, 0, 0, 0)) rfl rfl
theorem s10_1 {d : Nat} {ls : mj_L} {st : List Value} {M : mj_H} : mj_Rn d mj_m10 1 ls st M = mj_Rn d mj_m10 2 ls (.int 1 :: st) M := mj_R0 (r := (.iconst 1, 1, 0, 0, 0)) rfl rfl
theorem s10_2 {d : Nat} {ls : mj_L} {st : List Value} {M : mj_H} : mj_Rn d mj_m10 2 ls st M = mq_k0 d mj_m10 3 ls M (mj_pu .isub ls st) := mj_R0 (r := (.isub, 1, 0, 0, 0)) rfl rfl
theorem s10_3 {d : Nat} {ls : mj_L} {st : List Value} {M : mj_H} : mj_Rn d mj_m10 3 ls st M = mq_k1 d mj_m10 5 M (mj_lo 5 (.istore 4) ls st) := mj_R1 (r := (.istore 4, 2, 0, 0, 0)) rfl rfl
theorem s10_5 {d : Nat} {ls : mj_L} {st : List Value} {M : mj_H} : mj_Rn d mj_m10 5 ls st M = mq_k0 d mj_m10 7 ls M (mj_ldi (mj_lk ls 4) st) := mj_R0 (r := (.iload 4, 2, 0, 0, 0)) rfl rfl
theorem s10_7 {d : Nat} {ls : mj_L} {st : List Value} {M : mj_H} : mj_Rn d mj_m10 7 ls st M = mq_k2 d mj_m10 ls M (mj_br (.ifCond .lt 59) 7 st) := mj_R2 (r := (.ifCond .lt 59, 3, 0, 0, 0)) rfl rfl
theorem s10_10 {d : Nat} {ls : mj_L} {st : List Value} {M : mj_H} : mj_Rn d mj_m10 10 ls st M = mq_k0 d mj_m10 11 ls M (mj_lda (mj_lk ls 0) st) := mj_R0 (r := (.aload_n 0, 1, 0, 0, 0)) rfl rfl
theorem s10_11 {d : Nat} {ls : mj_L} {st : List Value} {M : mj_H} : mj_Rn d mj_m10 11 ls st M = mq_k0 d mj_m10 14 ls M (mq_gf 1 1 st M) := (mj_R3 (r := (.getfield 21, 3, 1, 1, 8268)) rfl rfl).trans (congrArg (mq_k0 d mj_m10 14 ls M) mq_gf_eq)
theorem s10_14 {d : Nat} {ls : mj_L} {st : List Value} {M : mj_H} : mj_Rn d mj_m10 14 ls st M = mq_k2 d mj_m10 ls M (mj_br (.ifCond .lt 46) 14 st) := mj_R2 (r := (.ifCond .lt 46, 3, 0, 0, 0)) rfl rfl
theorem s10_17 {d : Nat} {ls : mj_L} {st : List Value} {M : mj_H} : mj_Rn d mj_m10 17 ls st M = mq_k0 d mj_m10 18 ls M (mj_lda (mj_lk ls 0) st) := mj_R0 (r := (.aload_n 0, 1, 0, 0, 0)) rfl rfl
theorem s10_18 {d : Nat} {ls : mj_L} {st : List Value} {M : mj_H} : mj_Rn d mj_m10 18 ls st M = mq_k0 d mj_m10 21 ls M (mq_gf 1 1 st M) := (mj_R3 (r := (.getfield 21, 3, 1, 1, 8268)) rfl rfl).trans (congrArg (mq_k0 d mj_m10 21 ls M) mq_gf_eq)
theorem s10_21 {d : Nat} {ls : mj_L} {st : List Value} {M : mj_H} : mj_Rn d mj_m10 21 ls st M = mq_k0 d mj_m10 22 ls M (mj_lda (mj_lk ls 0) st) := mj_R0 (r := (.aload_n 0, 1, 0, 0, 0)) rfl rfl
theorem s10_22 {d : Nat} {ls : mj_L} {st : List Value} {M : mj_H} : mj_Rn d mj_m10 22 ls st M = mq_k0 d mj_m10 25 ls M (mq_gf 1 0 st M) := (mj_R3 (r := (.getfield 15, 3, 1, 0, 8266)) rfl rfl).trans (congrArg (mq_k0 d mj_m10 25 ls M) mq_gf_eq)
theorem s10_25 {d : Nat} {ls : mj_L} {st : List Value} {M : mj_H} : mj_Rn d mj_m10 25 ls st M = mq_k0 d mj_m10 26 ls M (mq_len st M) := (mj_R3 (r := (.arraylength, 1, 0, 0, 0)) rfl rfl).trans (congrArg (mq_k0 d mj_m10 26 ls M) mq_len_eq)
theorem s10_26 {d : Nat} {ls : mj_L} {st : List Value} {M : mj_H} : mj_Rn d mj_m10 26 ls st M = mq_k2 d mj_m10 ls M (mj_br (.if_icmp .ge 34) 26 st) := mj_R2 (r := (.if_icmp .ge 34, 3, 0, 0, 0)) rfl rfl
theorem s10_29 {d : Nat} {ls : mj_L} {st : List Value} {M : mj_H} : mj_Rn d mj_m10 29 ls st M = mq_k0 d mj_m10 30 ls M (mj_lda (mj_lk ls 0) st) := mj_R0 (r := (.aload_n 0, 1, 0, 0, 0)) rfl rfl
theorem s10_30 {d : Nat} {ls : mj_L} {st : List Value} {M : mj_H} : mj_Rn d mj_m10 30 ls st M = mq_k0 d mj_m10 33 ls M (mq_gf 1 0 st M) := (mj_R3 (r := (.getfield 15, 3, 1, 0, 8266)) rfl rfl).trans (congrArg (mq_k0 d mj_m10 33 ls M) mq_gf_eq)
theorem s10_33 {d : Nat} {ls : mj_L} {st : List Value} {M : mj_H} : mj_Rn d mj_m10 33 ls st M = mq_k0 d mj_m10 34 ls M (mj_lda (mj_lk ls 0) st) := mj_R0 (r := (.aload_n 0, 1, 0, 0, 0)) rfl rfl
theorem s10_34 {d : Nat} {ls : mj_L} {st : List Value} {M : mj_H} : mj_Rn d mj_m10 34 ls st M = mq_k0 d mj_m10 37 ls M (mq_gf 1 1 st M) := (mj_R3 (r := (.getfield 21, 3, 1, 1, 8268)) rfl rfl).trans (congrArg (mq_k0 d mj_m10 37 ls M) mq_gf_eq)
theorem s10_37 {d : Nat} {ls : mj_L} {st : List Value} {M : mj_H} : mj_Rn d mj_m10 37 ls st M = mq_k0 d mj_m10 38 ls M (mj_ldl (mj_lk ls 1) st) := mj_R0 (r := (.lload_n 1, 1, 0, 0, 0)) rfl rfl
theorem s10_38 {d : Nat} {ls : mj_L} {st : List Value} {M : mj_H} : mj_Rn d mj_m10 38 ls st M = mj_Rn d mj_m10 40 ls (.int 8 :: st) M := mj_R0 (r := (.bipush 8, 2, 0, 0, 0)) rfl rfl
theorem s10_40 {d : Nat} {ls : mj_L} {st : List Value} {M : mj_H} : mj_Rn d mj_m10 40 ls st M = mq_k0 d mj_m10 42 ls M (mj_ldi (mj_lk ls 4) st) := mj_R0 (r := (.iload 4, 2, 0, 0, 0)) rfl rfl
theorem s10_42 {d : Nat} {ls : mj_L} {st : List Value} {M : mj_H} : mj_Rn d mj_m10 42 ls st M = mq_k0 d mj_m10 43 ls M (mj_pu .imul ls st) := mj_R0 (r := (.imul, 1, 0, 0, 0)) rfl rfl
theorem s10_43 {d : Nat} {ls : mj_L} {st : List Value} {M : mj_H} : mj_Rn d mj_m10 43 ls st M = mq_k0 d mj_m10 44 ls M (mj_pu .lushr ls st) := mj_R0 (r := (.lushr, 1, 0, 0, 0)) rfl rfl
theorem s10_44 {d : Nat} {ls : mj_L} {st : List Value} {M : mj_H} : mj_Rn d mj_m10 44 ls st M = mq_k0 d mj_m10 45 ls M (mj_pu .l2i ls st) := mj_R0 (r := (.l2i, 1, 0, 0, 0)) rfl rfl
theorem s10_45 {d : Nat} {ls : mj_L} {st : List Value} {M : mj_H} : mj_Rn d mj_m10 45 ls st M = mj_Rn d mj_m10 48 ls (.int 255 :: st) M := mj_R0 (r := (.sipush 255, 3, 0, 0, 0)) rfl rfl
theorem s10_48 {d : Nat} {ls : mj_L} {st : List Value} {M : mj_H} : mj_Rn d mj_m10 48 ls st M = mq_k0 d mj_m10 49 ls M (mj_pu .iand ls st) := mj_R0 (r := (.iand, 1, 0, 0, 0)) rfl rfl
theorem s10_49 {d : Nat} {ls : mj_L} {st : List Value} {M : mj_H} : mj_Rn d mj_m10 49 ls st M = mq_k4 d mj_m10 50 ls (mj_hw (.iastore, 1, 0, 0, 0) st M) := mj_R4 (r := (.iastore, 1, 0, 0, 0)) rfl rfl
theorem s10_50 {d : Nat} {ls : mj_L} {st : List Value} {M : mj_H} : mj_Rn d mj_m10 50 ls st M = mq_k0 d mj_m10 51 ls M (mj_lda (mj_lk ls 0) st) := mj_R0 (r := (.aload_n 0, 1, 0, 0, 0)) rfl rfl
theorem s10_51 {d : Nat} {ls : mj_L} {st : List Value} {M : mj_H} : mj_Rn d mj_m10 51 ls st M = mq_k0 d mj_m10 52 ls M (mj_pu .dup ls st) := mj_R0 (r := (.dup, 1, 0, 0, 0)) rfl rfl
theorem s10_52 {d : Nat} {ls : mj_L} {st : List Value} {M : mj_H} : mj_Rn d mj_m10 52 ls st M = mq_k0 d mj_m10 55 ls M (mq_gf 1 1 st M) := (mj_R3 (r := (.getfield 21, 3, 1, 1, 8268)) rfl rfl).trans (congrArg (mq_k0 d mj_m10 55 ls M) mq_gf_eq)
theorem s10_55 {d : Nat} {ls : mj_L} {st : List Value} {M : mj_H} : mj_Rn d mj_m10 55 ls st M = mj_Rn d mj_m10 56 ls (.int 1 :: st) M := mj_R0 (r := (.iconst 1, 1, 0, 0, 0)) rfl rfl
theorem s10_56 {d : Nat} {ls : mj_L} {st : List Value} {M : mj_H} : mj_Rn d mj_m10 56 ls st M = mq_k0 d mj_m10 57 ls M (mj_pu .iadd ls st) := mj_R0 (r := (.iadd, 1, 0, 0, 0)) rfl rfl
theorem s10_57 {d : Nat} {ls : mj_L} {st : List Value} {M : mj_H} : mj_Rn d mj_m10 57 ls st M = mq_k4 d mj_m10 60 ls (mq_pf 1 1 0 st M) := (mj_R4 (r := (.putfield 21, 3, 1, 1, 8268)) rfl rfl).trans (congrArg (mq_k4 d mj_m10 60 ls) (mq_pf_eq rfl rfl))
theorem s10_60 {d : Nat} {ls : mj_L} {st : List Value} {M : mj_H} : mj_Rn d mj_m10 60 ls st M = mq_k1 d mj_m10 63 M (mj_lo 5 (.iinc 4 (-1)) ls st) := mj_R1 (r := (.iinc 4 (-1), 3, 0, 0, 0)) rfl rfl
theorem s10_63 {d : Nat} {ls : mj_L} {st : List Value} {M : mj_H} : mj_Rn d mj_m10 63 ls st M = mj_Rn d mj_m10 5 ls st M := mj_R2 (r := (.goto (-58), 3, 0, 0, 0)) rfl rfl
theorem s10_66 {d : Nat} {ls : mj_L} {st : List Value} {M : mj_H} : mj_Rn d mj_m10 66 ls st M = mq_k6 M (mj_re none (.return_) st) := mj_R6 (r := (.return_, 1, 0, 0, 0)) rfl rfl
/- 77 PasskeyHouse$Bytes.pushPart(LPasskeyHouse$Bytes;II)V -/
theorem s77_0 {d : Nat} {ls : mj_L} {st : List Value} {M : mj_H} : mj_Rn d mj_m77 0 ls st M = mj_Rn d mj_m77 1 ls (.int 0 :: st) M := mj_R0 (r := (.iconst 0, 1, 0, 0, 0)) rfl rfl
theorem s77_1 {d : Nat} {ls : mj_L} {st : List Value} {M : mj_H} : mj_Rn d mj_m77 1 ls st M = mq_k1 d mj_m77 3 M (mj_lo 6 (.istore 4) ls st) := mj_R1 (r := (.istore 4, 2, 0, 0, 0)) rfl rfl
theorem s77_3 {d : Nat} {ls : mj_L} {st : List Value} {M : mj_H} : mj_Rn d mj_m77 3 ls st M = mq_k0 d mj_m77 5 ls M (mj_ldi (mj_lk ls 4) st) := mj_R0 (r := (.iload 4, 2, 0, 0, 0)) rfl rfl
theorem s77_5 {d : Nat} {ls : mj_L} {st : List Value} {M : mj_H} : mj_Rn d mj_m77 5 ls st M = mq_k0 d mj_m77 6 ls M (mj_ldi (mj_lk ls 3) st) := mj_R0 (r := (.iload_n 3, 1, 0, 0, 0)) rfl rfl
theorem s77_6 {d : Nat} {ls : mj_L} {st : List Value} {M : mj_H} : mj_Rn d mj_m77 6 ls st M = mq_k2 d mj_m77 ls M (mj_br (.if_icmp .ge 31) 6 st) := mj_R2 (r := (.if_icmp .ge 31, 3, 0, 0, 0)) rfl rfl
theorem s77_9 {d : Nat} {ls : mj_L} {st : List Value} {M : mj_H} : mj_Rn d mj_m77 9 ls st M = mq_k0 d mj_m77 10 ls M (mj_lda (mj_lk ls 1) st) := mj_R0 (r := (.aload_n 1, 1, 0, 0, 0)) rfl rfl
theorem s77_10 {d : Nat} {ls : mj_L} {st : List Value} {M : mj_H} : mj_Rn d mj_m77 10 ls st M = mq_k0 d mj_m77 11 ls M (mj_ldi (mj_lk ls 2) st) := mj_R0 (r := (.iload_n 2, 1, 0, 0, 0)) rfl rfl
theorem s77_11 {d : Nat} {ls : mj_L} {st : List Value} {M : mj_H} : mj_Rn d mj_m77 11 ls st M = mq_k0 d mj_m77 13 ls M (mj_ldi (mj_lk ls 4) st) := mj_R0 (r := (.iload 4, 2, 0, 0, 0)) rfl rfl
theorem s77_13 {d : Nat} {ls : mj_L} {st : List Value} {M : mj_H} : mj_Rn d mj_m77 13 ls st M = mq_k0 d mj_m77 14 ls M (mj_pu .iadd ls st) := mj_R0 (r := (.iadd, 1, 0, 0, 0)) rfl rfl
theorem s77_14 {d : Nat} {ls : mj_L} {st : List Value} {M : mj_H} : mj_Rn (d + 1) mj_m77 14 ls st M = mq_k5a (d + 1) mj_m77 17 ls M 14 (mq_cb 0 1 1 st M) := mj_R5e (r := (.invokevirtual 31, 3, 0, 14, 12433)) (z := mj_m14) rfl rfl (by decide) (by decide) rfl
theorem s77_17 {d : Nat} {ls : mj_L} {st : List Value} {M : mj_H} : mj_Rn d mj_m77 17 ls st M = mq_k1 d mj_m77 19 M (mj_lo 6 (.istore 5) ls st) := mj_R1 (r := (.istore 5, 2, 0, 0, 0)) rfl rfl
theorem s77_19 {d : Nat} {ls : mj_L} {st : List Value} {M : mj_H} : mj_Rn d mj_m77 19 ls st M = mq_k0 d mj_m77 21 ls M (mj_ldi (mj_lk ls 5) st) := mj_R0 (r := (.iload 5, 2, 0, 0, 0)) rfl rfl
theorem s77_21 {d : Nat} {ls : mj_L} {st : List Value} {M : mj_H} : mj_Rn d mj_m77 21 ls st M = mj_Rn d mj_m77 22 ls (.int (-1) :: st) M := mj_R0 (r := (.iconst (-1), 1, 0, 0, 0)) rfl rfl
theorem s77_22 {d : Nat} {ls : mj_L} {st : List Value} {M : mj_H} : mj_Rn d mj_m77 22 ls st M = mq_k2 d mj_m77 ls M (mj_br (.if_icmp .eq 9) 22 st) := mj_R2 (r := (.if_icmp .eq 9, 3, 0, 0, 0)) rfl rfl
theorem s77_25 {d : Nat} {ls : mj_L} {st : List Value} {M : mj_H} : mj_Rn d mj_m77 25 ls st M = mq_k0 d mj_m77 26 ls M (mj_lda (mj_lk ls 0) st) := mj_R0 (r := (.aload_n 0, 1, 0, 0, 0)) rfl rfl
theorem s77_26 {d : Nat} {ls : mj_L} {st : List Value} {M : mj_H} : mj_Rn d mj_m77 26 ls st M = mq_k0 d mj_m77 28 ls M (mj_ldi (mj_lk ls 5) st) := mj_R0 (r := (.iload 5, 2, 0, 0, 0)) rfl rfl
theorem s77_28 {d : Nat} {ls : mj_L} {st : List Value} {M : mj_H} : mj_Rn (d + 1) mj_m77 28 ls st M = mq_k5a (d + 1) mj_m77 31 ls M 45 (mq_cb 0 1 1 st M) := mj_R5e (r := (.invokevirtual 35, 3, 0, 45, 12434)) (z := mj_m45) rfl rfl (by decide) (by decide) rfl
theorem s77_31 {d : Nat} {ls : mj_L} {st : List Value} {M : mj_H} : mj_Rn d mj_m77 31 ls st M = mq_k1 d mj_m77 34 M (mj_lo 6 (.iinc 4 1) ls st) := mj_R1 (r := (.iinc 4 1, 3, 0, 0, 0)) rfl rfl
theorem s77_34 {d : Nat} {ls : mj_L} {st : List Value} {M : mj_H} : mj_Rn d mj_m77 34 ls st M = mj_Rn d mj_m77 3 ls st M := mj_R2 (r := (.goto (-31), 3, 0, 0, 0)) rfl rfl
theorem s77_37 {d : Nat} {ls : mj_L} {st : List Value} {M : mj_H} : mj_Rn d mj_m77 37 ls st M = mq_k6 M (mj_re none (.return_) st) := mj_R6 (r := (.return_, 1, 0, 0, 0)) rfl rfl
/- 49 PasskeyHouse$Bytes.low(II)J -/
theorem s49_0 {d : Nat} {ls : mj_L} {st : List Value} {M : mj_H} : mj_Rn d mj_m49 0 ls st M = mj_Rn d mj_m49 1 ls (.long 0 :: st) M := mj_R0 (r := (.lconst 0, 1, 0, 0, 0)) rfl rfl
theorem s49_1 {d : Nat} {ls : mj_L} {st : List Value} {M : mj_H} : mj_Rn d mj_m49 1 ls st M = mq_k1 d mj_m49 2 M (mj_lo 6 (.lstore 3) ls st) := (mj_R1 (r := (.lstore_n 3, 1, 0, 0, 0)) rfl rfl).trans (congrArg (mq_k1 d mj_m49 2 M) (mq_stl (k := 3)))
theorem s49_2 {d : Nat} {ls : mj_L} {st : List Value} {M : mj_H} : mj_Rn d mj_m49 2 ls st M = mq_k0 d mj_m49 3 ls M (mj_ldi (mj_lk ls 1) st) := mj_R0 (r := (.iload_n 1, 1, 0, 0, 0)) rfl rfl
theorem s49_3 {d : Nat} {ls : mj_L} {st : List Value} {M : mj_H} : mj_Rn d mj_m49 3 ls st M = mq_k1 d mj_m49 5 M (mj_lo 6 (.istore 5) ls st) := mj_R1 (r := (.istore 5, 2, 0, 0, 0)) rfl rfl
theorem s49_5 {d : Nat} {ls : mj_L} {st : List Value} {M : mj_H} : mj_Rn d mj_m49 5 ls st M = mq_k0 d mj_m49 7 ls M (mj_ldi (mj_lk ls 5) st) := mj_R0 (r := (.iload 5, 2, 0, 0, 0)) rfl rfl
theorem s49_7 {d : Nat} {ls : mj_L} {st : List Value} {M : mj_H} : mj_Rn d mj_m49 7 ls st M = mq_k0 d mj_m49 8 ls M (mj_ldi (mj_lk ls 1) st) := mj_R0 (r := (.iload_n 1, 1, 0, 0, 0)) rfl rfl
theorem s49_8 {d : Nat} {ls : mj_L} {st : List Value} {M : mj_H} : mj_Rn d mj_m49 8 ls st M = mq_k0 d mj_m49 9 ls M (mj_ldi (mj_lk ls 2) st) := mj_R0 (r := (.iload_n 2, 1, 0, 0, 0)) rfl rfl
theorem s49_9 {d : Nat} {ls : mj_L} {st : List Value} {M : mj_H} : mj_Rn d mj_m49 9 ls st M = mq_k0 d mj_m49 10 ls M (mj_pu .iadd ls st) := mj_R0 (r := (.iadd, 1, 0, 0, 0)) rfl rfl
theorem s49_10 {d : Nat} {ls : mj_L} {st : List Value} {M : mj_H} : mj_Rn d mj_m49 10 ls st M = mq_k2 d mj_m49 ls M (mj_br (.if_icmp .ge 42) 10 st) := mj_R2 (r := (.if_icmp .ge 42, 3, 0, 0, 0)) rfl rfl
theorem s49_13 {d : Nat} {ls : mj_L} {st : List Value} {M : mj_H} : mj_Rn d mj_m49 13 ls st M = mq_k0 d mj_m49 14 ls M (mj_ldl (mj_lk ls 3) st) := mj_R0 (r := (.lload_n 3, 1, 0, 0, 0)) rfl rfl
theorem s49_14 {d : Nat} {ls : mj_L} {st : List Value} {M : mj_H} : mj_Rn d mj_m49 14 ls st M = mj_Rn d mj_m49 16 ls (.int 8 :: st) M := mj_R0 (r := (.bipush 8, 2, 0, 0, 0)) rfl rfl
theorem s49_16 {d : Nat} {ls : mj_L} {st : List Value} {M : mj_H} : mj_Rn d mj_m49 16 ls st M = mq_k0 d mj_m49 17 ls M (mj_pu .lshl ls st) := mj_R0 (r := (.lshl, 1, 0, 0, 0)) rfl rfl
theorem s49_17 {d : Nat} {ls : mj_L} {st : List Value} {M : mj_H} : mj_Rn d mj_m49 17 ls st M = mq_k0 d mj_m49 19 ls M (mj_ldi (mj_lk ls 5) st) := mj_R0 (r := (.iload 5, 2, 0, 0, 0)) rfl rfl
theorem s49_19 {d : Nat} {ls : mj_L} {st : List Value} {M : mj_H} : mj_Rn d mj_m49 19 ls st M = mq_k2 d mj_m49 ls M (mj_br (.ifCond .lt 13) 19 st) := mj_R2 (r := (.ifCond .lt 13, 3, 0, 0, 0)) rfl rfl
theorem s49_22 {d : Nat} {ls : mj_L} {st : List Value} {M : mj_H} : mj_Rn d mj_m49 22 ls st M = mq_k0 d mj_m49 24 ls M (mj_ldi (mj_lk ls 5) st) := mj_R0 (r := (.iload 5, 2, 0, 0, 0)) rfl rfl
theorem s49_24 {d : Nat} {ls : mj_L} {st : List Value} {M : mj_H} : mj_Rn d mj_m49 24 ls st M = mq_k0 d mj_m49 25 ls M (mj_lda (mj_lk ls 0) st) := mj_R0 (r := (.aload_n 0, 1, 0, 0, 0)) rfl rfl
theorem s49_25 {d : Nat} {ls : mj_L} {st : List Value} {M : mj_H} : mj_Rn d mj_m49 25 ls st M = mq_k0 d mj_m49 28 ls M (mq_gf 1 0 st M) := (mj_R3 (r := (.getfield 15, 3, 1, 0, 8266)) rfl rfl).trans (congrArg (mq_k0 d mj_m49 28 ls M) mq_gf_eq)
theorem s49_28 {d : Nat} {ls : mj_L} {st : List Value} {M : mj_H} : mj_Rn d mj_m49 28 ls st M = mq_k0 d mj_m49 29 ls M (mq_len st M) := (mj_R3 (r := (.arraylength, 1, 0, 0, 0)) rfl rfl).trans (congrArg (mq_k0 d mj_m49 29 ls M) mq_len_eq)
theorem s49_29 {d : Nat} {ls : mj_L} {st : List Value} {M : mj_H} : mj_Rn d mj_m49 29 ls st M = mq_k2 d mj_m49 ls M (mj_br (.if_icmp .lt 7) 29 st) := mj_R2 (r := (.if_icmp .lt 7, 3, 0, 0, 0)) rfl rfl
theorem s49_32 {d : Nat} {ls : mj_L} {st : List Value} {M : mj_H} : mj_Rn d mj_m49 32 ls st M = mj_Rn d mj_m49 33 ls (.int 0 :: st) M := mj_R0 (r := (.iconst 0, 1, 0, 0, 0)) rfl rfl
theorem s49_33 {d : Nat} {ls : mj_L} {st : List Value} {M : mj_H} : mj_Rn d mj_m49 33 ls st M = mj_Rn d mj_m49 43 ls st M := mj_R2 (r := (.goto 10, 3, 0, 0, 0)) rfl rfl
theorem s49_36 {d : Nat} {ls : mj_L} {st : List Value} {M : mj_H} : mj_Rn d mj_m49 36 ls st M = mq_k0 d mj_m49 37 ls M (mj_lda (mj_lk ls 0) st) := mj_R0 (r := (.aload_n 0, 1, 0, 0, 0)) rfl rfl
theorem s49_37 {d : Nat} {ls : mj_L} {st : List Value} {M : mj_H} : mj_Rn d mj_m49 37 ls st M = mq_k0 d mj_m49 40 ls M (mq_gf 1 0 st M) := (mj_R3 (r := (.getfield 15, 3, 1, 0, 8266)) rfl rfl).trans (congrArg (mq_k0 d mj_m49 40 ls M) mq_gf_eq)
theorem s49_40 {d : Nat} {ls : mj_L} {st : List Value} {M : mj_H} : mj_Rn d mj_m49 40 ls st M = mq_k0 d mj_m49 42 ls M (mj_ldi (mj_lk ls 5) st) := mj_R0 (r := (.iload 5, 2, 0, 0, 0)) rfl rfl
theorem s49_42 {d : Nat} {ls : mj_L} {st : List Value} {M : mj_H} : mj_Rn d mj_m49 42 ls st M = mq_k0 d mj_m49 43 ls M (mq_al [1000] st M) := (mj_R3 (r := (.iaload, 1, 0, 0, 0)) rfl rfl).trans (congrArg (mq_k0 d mj_m49 43 ls M) mq_ali_eq)
theorem s49_43 {d : Nat} {ls : mj_L} {st : List Value} {M : mj_H} : mj_Rn d mj_m49 43 ls st M = mq_k0 d mj_m49 44 ls M (mj_pu .i2l ls st) := mj_R0 (r := (.i2l, 1, 0, 0, 0)) rfl rfl
theorem s49_44 {d : Nat} {ls : mj_L} {st : List Value} {M : mj_H} : mj_Rn d mj_m49 44 ls st M = mq_k0 d mj_m49 45 ls M (mj_pu .lor ls st) := mj_R0 (r := (.lor, 1, 0, 0, 0)) rfl rfl
theorem s49_45 {d : Nat} {ls : mj_L} {st : List Value} {M : mj_H} : mj_Rn d mj_m49 45 ls st M = mq_k1 d mj_m49 46 M (mj_lo 6 (.lstore 3) ls st) := (mj_R1 (r := (.lstore_n 3, 1, 0, 0, 0)) rfl rfl).trans (congrArg (mq_k1 d mj_m49 46 M) (mq_stl (k := 3)))
theorem s49_46 {d : Nat} {ls : mj_L} {st : List Value} {M : mj_H} : mj_Rn d mj_m49 46 ls st M = mq_k1 d mj_m49 49 M (mj_lo 6 (.iinc 5 1) ls st) := mj_R1 (r := (.iinc 5 1, 3, 0, 0, 0)) rfl rfl
theorem s49_49 {d : Nat} {ls : mj_L} {st : List Value} {M : mj_H} : mj_Rn d mj_m49 49 ls st M = mj_Rn d mj_m49 5 ls st M := mj_R2 (r := (.goto (-44), 3, 0, 0, 0)) rfl rfl
theorem s49_52 {d : Nat} {ls : mj_L} {st : List Value} {M : mj_H} : mj_Rn d mj_m49 52 ls st M = mq_k0 d mj_m49 53 ls M (mj_ldl (mj_lk ls 3) st) := mj_R0 (r := (.lload_n 3, 1, 0, 0, 0)) rfl rfl
theorem s49_53 {d : Nat} {ls : mj_L} {st : List Value} {M : mj_H} : mj_Rn d mj_m49 53 ls st M = mq_k6 M (mj_re (some .long) (.lreturn) st) := mj_R6 (r := (.lreturn, 1, 0, 0, 0)) rfl rfl
/- 42 PasskeyHouse$Bytes.check(II)I -/
theorem s42_0 {d : Nat} {ls : mj_L} {st : List Value} {M : mj_H} : mj_Rn d mj_m42 0 ls st M = mj_Rn d mj_m42 1 ls (.int 0 :: st) M := mj_R0 (r := (.iconst 0, 1, 0, 0, 0)) rfl rfl
theorem s42_1 {d : Nat} {ls : mj_L} {st : List Value} {M : mj_H} : mj_Rn d mj_m42 1 ls st M = mq_k1 d mj_m42 2 M (mj_lo 6 (.istore 3) ls st) := (mj_R1 (r := (.istore_n 3, 1, 0, 0, 0)) rfl rfl).trans (congrArg (mq_k1 d mj_m42 2 M) (mq_sti (k := 3)))
theorem s42_2 {d : Nat} {ls : mj_L} {st : List Value} {M : mj_H} : mj_Rn d mj_m42 2 ls st M = mq_k0 d mj_m42 3 ls M (mj_ldi (mj_lk ls 1) st) := mj_R0 (r := (.iload_n 1, 1, 0, 0, 0)) rfl rfl
theorem s42_3 {d : Nat} {ls : mj_L} {st : List Value} {M : mj_H} : mj_Rn d mj_m42 3 ls st M = mq_k1 d mj_m42 5 M (mj_lo 6 (.istore 4) ls st) := mj_R1 (r := (.istore 4, 2, 0, 0, 0)) rfl rfl
theorem s42_5 {d : Nat} {ls : mj_L} {st : List Value} {M : mj_H} : mj_Rn d mj_m42 5 ls st M = mq_k0 d mj_m42 7 ls M (mj_ldi (mj_lk ls 4) st) := mj_R0 (r := (.iload 4, 2, 0, 0, 0)) rfl rfl
theorem s42_7 {d : Nat} {ls : mj_L} {st : List Value} {M : mj_H} : mj_Rn d mj_m42 7 ls st M = mq_k0 d mj_m42 8 ls M (mj_ldi (mj_lk ls 1) st) := mj_R0 (r := (.iload_n 1, 1, 0, 0, 0)) rfl rfl
theorem s42_8 {d : Nat} {ls : mj_L} {st : List Value} {M : mj_H} : mj_Rn d mj_m42 8 ls st M = mq_k0 d mj_m42 9 ls M (mj_ldi (mj_lk ls 2) st) := mj_R0 (r := (.iload_n 2, 1, 0, 0, 0)) rfl rfl
theorem s42_9 {d : Nat} {ls : mj_L} {st : List Value} {M : mj_H} : mj_Rn d mj_m42 9 ls st M = mq_k0 d mj_m42 10 ls M (mj_pu .iadd ls st) := mj_R0 (r := (.iadd, 1, 0, 0, 0)) rfl rfl
theorem s42_10 {d : Nat} {ls : mj_L} {st : List Value} {M : mj_H} : mj_Rn d mj_m42 10 ls st M = mq_k2 d mj_m42 ls M (mj_br (.if_icmp .ge 51) 10 st) := mj_R2 (r := (.if_icmp .ge 51, 3, 0, 0, 0)) rfl rfl
theorem s42_13 {d : Nat} {ls : mj_L} {st : List Value} {M : mj_H} : mj_Rn d mj_m42 13 ls st M = mq_k0 d mj_m42 15 ls M (mj_ldi (mj_lk ls 4) st) := mj_R0 (r := (.iload 4, 2, 0, 0, 0)) rfl rfl
theorem s42_15 {d : Nat} {ls : mj_L} {st : List Value} {M : mj_H} : mj_Rn d mj_m42 15 ls st M = mq_k2 d mj_m42 ls M (mj_br (.ifCond .lt 13) 15 st) := mj_R2 (r := (.ifCond .lt 13, 3, 0, 0, 0)) rfl rfl
theorem s42_18 {d : Nat} {ls : mj_L} {st : List Value} {M : mj_H} : mj_Rn d mj_m42 18 ls st M = mq_k0 d mj_m42 20 ls M (mj_ldi (mj_lk ls 4) st) := mj_R0 (r := (.iload 4, 2, 0, 0, 0)) rfl rfl
theorem s42_20 {d : Nat} {ls : mj_L} {st : List Value} {M : mj_H} : mj_Rn d mj_m42 20 ls st M = mq_k0 d mj_m42 21 ls M (mj_lda (mj_lk ls 0) st) := mj_R0 (r := (.aload_n 0, 1, 0, 0, 0)) rfl rfl
theorem s42_21 {d : Nat} {ls : mj_L} {st : List Value} {M : mj_H} : mj_Rn d mj_m42 21 ls st M = mq_k0 d mj_m42 24 ls M (mq_gf 1 0 st M) := (mj_R3 (r := (.getfield 15, 3, 1, 0, 8266)) rfl rfl).trans (congrArg (mq_k0 d mj_m42 24 ls M) mq_gf_eq)
theorem s42_24 {d : Nat} {ls : mj_L} {st : List Value} {M : mj_H} : mj_Rn d mj_m42 24 ls st M = mq_k0 d mj_m42 25 ls M (mq_len st M) := (mj_R3 (r := (.arraylength, 1, 0, 0, 0)) rfl rfl).trans (congrArg (mq_k0 d mj_m42 25 ls M) mq_len_eq)
theorem s42_25 {d : Nat} {ls : mj_L} {st : List Value} {M : mj_H} : mj_Rn d mj_m42 25 ls st M = mq_k2 d mj_m42 ls M (mj_br (.if_icmp .lt 7) 25 st) := mj_R2 (r := (.if_icmp .lt 7, 3, 0, 0, 0)) rfl rfl
theorem s42_28 {d : Nat} {ls : mj_L} {st : List Value} {M : mj_H} : mj_Rn d mj_m42 28 ls st M = mj_Rn d mj_m42 29 ls (.int 0 :: st) M := mj_R0 (r := (.iconst 0, 1, 0, 0, 0)) rfl rfl
theorem s42_29 {d : Nat} {ls : mj_L} {st : List Value} {M : mj_H} : mj_Rn d mj_m42 29 ls st M = mj_Rn d mj_m42 39 ls st M := mj_R2 (r := (.goto 10, 3, 0, 0, 0)) rfl rfl
theorem s42_32 {d : Nat} {ls : mj_L} {st : List Value} {M : mj_H} : mj_Rn d mj_m42 32 ls st M = mq_k0 d mj_m42 33 ls M (mj_lda (mj_lk ls 0) st) := mj_R0 (r := (.aload_n 0, 1, 0, 0, 0)) rfl rfl
theorem s42_33 {d : Nat} {ls : mj_L} {st : List Value} {M : mj_H} : mj_Rn d mj_m42 33 ls st M = mq_k0 d mj_m42 36 ls M (mq_gf 1 0 st M) := (mj_R3 (r := (.getfield 15, 3, 1, 0, 8266)) rfl rfl).trans (congrArg (mq_k0 d mj_m42 36 ls M) mq_gf_eq)
theorem s42_36 {d : Nat} {ls : mj_L} {st : List Value} {M : mj_H} : mj_Rn d mj_m42 36 ls st M = mq_k0 d mj_m42 38 ls M (mj_ldi (mj_lk ls 4) st) := mj_R0 (r := (.iload 4, 2, 0, 0, 0)) rfl rfl
theorem s42_38 {d : Nat} {ls : mj_L} {st : List Value} {M : mj_H} : mj_Rn d mj_m42 38 ls st M = mq_k0 d mj_m42 39 ls M (mq_al [1000] st M) := (mj_R3 (r := (.iaload, 1, 0, 0, 0)) rfl rfl).trans (congrArg (mq_k0 d mj_m42 39 ls M) mq_ali_eq)
theorem s42_39 {d : Nat} {ls : mj_L} {st : List Value} {M : mj_H} : mj_Rn d mj_m42 39 ls st M = mq_k1 d mj_m42 41 M (mj_lo 6 (.istore 5) ls st) := mj_R1 (r := (.istore 5, 2, 0, 0, 0)) rfl rfl
theorem s42_41 {d : Nat} {ls : mj_L} {st : List Value} {M : mj_H} : mj_Rn d mj_m42 41 ls st M = mj_Rn d mj_m42 43 ls (.int 31 :: st) M := mj_R0 (r := (.bipush 31, 2, 0, 0, 0)) rfl rfl
theorem s42_43 {d : Nat} {ls : mj_L} {st : List Value} {M : mj_H} : mj_Rn d mj_m42 43 ls st M = mq_k0 d mj_m42 44 ls M (mj_ldi (mj_lk ls 3) st) := mj_R0 (r := (.iload_n 3, 1, 0, 0, 0)) rfl rfl
theorem s42_44 {d : Nat} {ls : mj_L} {st : List Value} {M : mj_H} : mj_Rn d mj_m42 44 ls st M = mq_k0 d mj_m42 45 ls M (mj_pu .imul ls st) := mj_R0 (r := (.imul, 1, 0, 0, 0)) rfl rfl
theorem s42_45 {d : Nat} {ls : mj_L} {st : List Value} {M : mj_H} : mj_Rn d mj_m42 45 ls st M = mq_k0 d mj_m42 47 ls M (mj_ldi (mj_lk ls 5) st) := mj_R0 (r := (.iload 5, 2, 0, 0, 0)) rfl rfl
theorem s42_47 {d : Nat} {ls : mj_L} {st : List Value} {M : mj_H} : mj_Rn d mj_m42 47 ls st M = mq_k0 d mj_m42 48 ls M (mj_pu .iadd ls st) := mj_R0 (r := (.iadd, 1, 0, 0, 0)) rfl rfl
theorem s42_48 {d : Nat} {ls : mj_L} {st : List Value} {M : mj_H} : mj_Rn d mj_m42 48 ls st M = mj_Rn d mj_m42 50 ls (.int 7 :: st) M := mj_R0 (r := (.bipush 7, 2, 0, 0, 0)) rfl rfl
theorem s42_50 {d : Nat} {ls : mj_L} {st : List Value} {M : mj_H} : mj_Rn d mj_m42 50 ls st M = mq_k0 d mj_m42 51 ls M (mj_pu .iadd ls st) := mj_R0 (r := (.iadd, 1, 0, 0, 0)) rfl rfl
theorem s42_51 {d : Nat} {ls : mj_L} {st : List Value} {M : mj_H} : mj_Rn d mj_m42 51 ls st M = mj_Rn d mj_m42 53 ls (.int 65535 :: st) M := mj_R3 (r := (.ldc 43, 2, 0, 1, 8427)) rfl rfl
theorem s42_53 {d : Nat} {ls : mj_L} {st : List Value} {M : mj_H} : mj_Rn d mj_m42 53 ls st M = mq_k0 d mj_m42 54 ls M (mj_pu .iand ls st) := mj_R0 (r := (.iand, 1, 0, 0, 0)) rfl rfl
theorem s42_54 {d : Nat} {ls : mj_L} {st : List Value} {M : mj_H} : mj_Rn d mj_m42 54 ls st M = mq_k1 d mj_m42 55 M (mj_lo 6 (.istore 3) ls st) := (mj_R1 (r := (.istore_n 3, 1, 0, 0, 0)) rfl rfl).trans (congrArg (mq_k1 d mj_m42 55 M) (mq_sti (k := 3)))
theorem s42_55 {d : Nat} {ls : mj_L} {st : List Value} {M : mj_H} : mj_Rn d mj_m42 55 ls st M = mq_k1 d mj_m42 58 M (mj_lo 6 (.iinc 4 1) ls st) := mj_R1 (r := (.iinc 4 1, 3, 0, 0, 0)) rfl rfl
theorem s42_58 {d : Nat} {ls : mj_L} {st : List Value} {M : mj_H} : mj_Rn d mj_m42 58 ls st M = mj_Rn d mj_m42 5 ls st M := mj_R2 (r := (.goto (-53), 3, 0, 0, 0)) rfl rfl
theorem s42_61 {d : Nat} {ls : mj_L} {st : List Value} {M : mj_H} : mj_Rn d mj_m42 61 ls st M = mq_k0 d mj_m42 62 ls M (mj_ldi (mj_lk ls 3) st) := mj_R0 (r := (.iload_n 3, 1, 0, 0, 0)) rfl rfl
theorem s42_62 {d : Nat} {ls : mj_L} {st : List Value} {M : mj_H} : mj_Rn d mj_m42 62 ls st M = mj_Rn d mj_m42 64 ls (.int 65535 :: st) M := mj_R3 (r := (.ldc 43, 2, 0, 1, 8427)) rfl rfl
theorem s42_64 {d : Nat} {ls : mj_L} {st : List Value} {M : mj_H} : mj_Rn d mj_m42 64 ls st M = mq_k2 d mj_m42 ls M (mj_br (.if_icmp .ne 7) 64 st) := mj_R2 (r := (.if_icmp .ne 7, 3, 0, 0, 0)) rfl rfl
theorem s42_67 {d : Nat} {ls : mj_L} {st : List Value} {M : mj_H} : mj_Rn d mj_m42 67 ls st M = mj_Rn d mj_m42 68 ls (.int 0 :: st) M := mj_R0 (r := (.iconst 0, 1, 0, 0, 0)) rfl rfl
theorem s42_68 {d : Nat} {ls : mj_L} {st : List Value} {M : mj_H} : mj_Rn d mj_m42 68 ls st M = mj_Rn d mj_m42 72 ls st M := mj_R2 (r := (.goto 4, 3, 0, 0, 0)) rfl rfl
theorem s42_71 {d : Nat} {ls : mj_L} {st : List Value} {M : mj_H} : mj_Rn d mj_m42 71 ls st M = mq_k0 d mj_m42 72 ls M (mj_ldi (mj_lk ls 3) st) := mj_R0 (r := (.iload_n 3, 1, 0, 0, 0)) rfl rfl
theorem s42_72 {d : Nat} {ls : mj_L} {st : List Value} {M : mj_H} : mj_Rn d mj_m42 72 ls st M = mq_k6 M (mj_re (some .int) (.ireturn) st) := mj_R6 (r := (.ireturn, 1, 0, 0, 0)) rfl rfl
/- 193 PasskeyHouse$Bytes.matches(ILPasskeyHouse$Bytes;II)Z -/
theorem s193_0 {d : Nat} {ls : mj_L} {st : List Value} {M : mj_H} : mj_Rn d mj_m193 0 ls st M = mj_Rn d mj_m193 1 ls (.int 0 :: st) M := mj_R0 (r := (.iconst 0, 1, 0, 0, 0)) rfl rfl
theorem s193_1 {d : Nat} {ls : mj_L} {st : List Value} {M : mj_H} : mj_Rn d mj_m193 1 ls st M = mq_k1 d mj_m193 3 M (mj_lo 7 (.istore 5) ls st) := mj_R1 (r := (.istore 5, 2, 0, 0, 0)) rfl rfl
theorem s193_3 {d : Nat} {ls : mj_L} {st : List Value} {M : mj_H} : mj_Rn d mj_m193 3 ls st M = mq_k0 d mj_m193 5 ls M (mj_ldi (mj_lk ls 5) st) := mj_R0 (r := (.iload 5, 2, 0, 0, 0)) rfl rfl
theorem s193_5 {d : Nat} {ls : mj_L} {st : List Value} {M : mj_H} : mj_Rn d mj_m193 5 ls st M = mq_k0 d mj_m193 7 ls M (mj_ldi (mj_lk ls 4) st) := mj_R0 (r := (.iload 4, 2, 0, 0, 0)) rfl rfl
theorem s193_7 {d : Nat} {ls : mj_L} {st : List Value} {M : mj_H} : mj_Rn d mj_m193 7 ls st M = mq_k2 d mj_m193 ls M (mj_br (.if_icmp .ge 40) 7 st) := mj_R2 (r := (.if_icmp .ge 40, 3, 0, 0, 0)) rfl rfl
theorem s193_10 {d : Nat} {ls : mj_L} {st : List Value} {M : mj_H} : mj_Rn d mj_m193 10 ls st M = mq_k0 d mj_m193 11 ls M (mj_lda (mj_lk ls 0) st) := mj_R0 (r := (.aload_n 0, 1, 0, 0, 0)) rfl rfl
theorem s193_11 {d : Nat} {ls : mj_L} {st : List Value} {M : mj_H} : mj_Rn d mj_m193 11 ls st M = mq_k0 d mj_m193 12 ls M (mj_ldi (mj_lk ls 1) st) := mj_R0 (r := (.iload_n 1, 1, 0, 0, 0)) rfl rfl
theorem s193_12 {d : Nat} {ls : mj_L} {st : List Value} {M : mj_H} : mj_Rn d mj_m193 12 ls st M = mq_k0 d mj_m193 14 ls M (mj_ldi (mj_lk ls 5) st) := mj_R0 (r := (.iload 5, 2, 0, 0, 0)) rfl rfl
theorem s193_14 {d : Nat} {ls : mj_L} {st : List Value} {M : mj_H} : mj_Rn d mj_m193 14 ls st M = mq_k0 d mj_m193 15 ls M (mj_pu .iadd ls st) := mj_R0 (r := (.iadd, 1, 0, 0, 0)) rfl rfl
theorem s193_15 {d : Nat} {ls : mj_L} {st : List Value} {M : mj_H} : mj_Rn (d + 1) mj_m193 15 ls st M = mq_k5a (d + 1) mj_m193 18 ls M 14 (mq_cb 0 1 1 st M) := mj_R5e (r := (.invokevirtual 31, 3, 0, 14, 12433)) (z := mj_m14) rfl rfl (by decide) (by decide) rfl
theorem s193_18 {d : Nat} {ls : mj_L} {st : List Value} {M : mj_H} : mj_Rn d mj_m193 18 ls st M = mq_k1 d mj_m193 20 M (mj_lo 7 (.istore 6) ls st) := mj_R1 (r := (.istore 6, 2, 0, 0, 0)) rfl rfl
theorem s193_20 {d : Nat} {ls : mj_L} {st : List Value} {M : mj_H} : mj_Rn d mj_m193 20 ls st M = mq_k0 d mj_m193 22 ls M (mj_ldi (mj_lk ls 6) st) := mj_R0 (r := (.iload 6, 2, 0, 0, 0)) rfl rfl
theorem s193_22 {d : Nat} {ls : mj_L} {st : List Value} {M : mj_H} : mj_Rn d mj_m193 22 ls st M = mj_Rn d mj_m193 23 ls (.int (-1) :: st) M := mj_R0 (r := (.iconst (-1), 1, 0, 0, 0)) rfl rfl
theorem s193_23 {d : Nat} {ls : mj_L} {st : List Value} {M : mj_H} : mj_Rn d mj_m193 23 ls st M = mq_k2 d mj_m193 ls M (mj_br (.if_icmp .eq 16) 23 st) := mj_R2 (r := (.if_icmp .eq 16, 3, 0, 0, 0)) rfl rfl
theorem s193_26 {d : Nat} {ls : mj_L} {st : List Value} {M : mj_H} : mj_Rn d mj_m193 26 ls st M = mq_k0 d mj_m193 28 ls M (mj_ldi (mj_lk ls 6) st) := mj_R0 (r := (.iload 6, 2, 0, 0, 0)) rfl rfl
theorem s193_28 {d : Nat} {ls : mj_L} {st : List Value} {M : mj_H} : mj_Rn d mj_m193 28 ls st M = mq_k0 d mj_m193 29 ls M (mj_lda (mj_lk ls 2) st) := mj_R0 (r := (.aload_n 2, 1, 0, 0, 0)) rfl rfl
theorem s193_29 {d : Nat} {ls : mj_L} {st : List Value} {M : mj_H} : mj_Rn d mj_m193 29 ls st M = mq_k0 d mj_m193 30 ls M (mj_ldi (mj_lk ls 3) st) := mj_R0 (r := (.iload_n 3, 1, 0, 0, 0)) rfl rfl
theorem s193_30 {d : Nat} {ls : mj_L} {st : List Value} {M : mj_H} : mj_Rn d mj_m193 30 ls st M = mq_k0 d mj_m193 32 ls M (mj_ldi (mj_lk ls 5) st) := mj_R0 (r := (.iload 5, 2, 0, 0, 0)) rfl rfl
theorem s193_32 {d : Nat} {ls : mj_L} {st : List Value} {M : mj_H} : mj_Rn d mj_m193 32 ls st M = mq_k0 d mj_m193 33 ls M (mj_pu .iadd ls st) := mj_R0 (r := (.iadd, 1, 0, 0, 0)) rfl rfl
theorem s193_33 {d : Nat} {ls : mj_L} {st : List Value} {M : mj_H} : mj_Rn (d + 1) mj_m193 33 ls st M = mq_k5a (d + 1) mj_m193 36 ls M 14 (mq_cb 0 1 1 st M) := mj_R5e (r := (.invokevirtual 31, 3, 0, 14, 12433)) (z := mj_m14) rfl rfl (by decide) (by decide) rfl
theorem s193_36 {d : Nat} {ls : mj_L} {st : List Value} {M : mj_H} : mj_Rn d mj_m193 36 ls st M = mq_k2 d mj_m193 ls M (mj_br (.if_icmp .eq 5) 36 st) := mj_R2 (r := (.if_icmp .eq 5, 3, 0, 0, 0)) rfl rfl
theorem s193_39 {d : Nat} {ls : mj_L} {st : List Value} {M : mj_H} : mj_Rn d mj_m193 39 ls st M = mj_Rn d mj_m193 40 ls (.int 0 :: st) M := mj_R0 (r := (.iconst 0, 1, 0, 0, 0)) rfl rfl
theorem s193_40 {d : Nat} {ls : mj_L} {st : List Value} {M : mj_H} : mj_Rn d mj_m193 40 ls st M = mq_k6 M (mj_re (some .boolean) (.ireturn) st) := mj_R6 (r := (.ireturn, 1, 0, 0, 0)) rfl rfl
theorem s193_41 {d : Nat} {ls : mj_L} {st : List Value} {M : mj_H} : mj_Rn d mj_m193 41 ls st M = mq_k1 d mj_m193 44 M (mj_lo 7 (.iinc 5 1) ls st) := mj_R1 (r := (.iinc 5 1, 3, 0, 0, 0)) rfl rfl
theorem s193_44 {d : Nat} {ls : mj_L} {st : List Value} {M : mj_H} : mj_Rn d mj_m193 44 ls st M = mj_Rn d mj_m193 3 ls st M := mj_R2 (r := (.goto (-41), 3, 0, 0, 0)) rfl rfl
theorem s193_47 {d : Nat} {ls : mj_L} {st : List Value} {M : mj_H} : mj_Rn d mj_m193 47 ls st M = mj_Rn d mj_m193 48 ls (.int 1 :: st) M := mj_R0 (r := (.iconst 1, 1, 0, 0, 0)) rfl rfl
theorem s193_48 {d : Nat} {ls : mj_L} {st : List Value} {M : mj_H} : mj_Rn d mj_m193 48 ls st M = mq_k6 M (mj_re (some .boolean) (.ireturn) st) := mj_R6 (r := (.ireturn, 1, 0, 0, 0)) rfl rfl
/- 53 PasskeyHouse$Bytes.four(I)I -/
theorem s53_0 {d : Nat} {ls : mj_L} {st : List Value} {M : mj_H} : mj_Rn d mj_m53 0 ls st M = mq_k0 d mj_m53 1 ls M (mj_lda (mj_lk ls 0) st) := mj_R0 (r := (.aload_n 0, 1, 0, 0, 0)) rfl rfl
theorem s53_1 {d : Nat} {ls : mj_L} {st : List Value} {M : mj_H} : mj_Rn d mj_m53 1 ls st M = mq_k0 d mj_m53 2 ls M (mj_ldi (mj_lk ls 1) st) := mj_R0 (r := (.iload_n 1, 1, 0, 0, 0)) rfl rfl
theorem s53_2 {d : Nat} {ls : mj_L} {st : List Value} {M : mj_H} : mj_Rn d mj_m53 2 ls st M = mj_Rn d mj_m53 3 ls (.int 4 :: st) M := mj_R0 (r := (.iconst 4, 1, 0, 0, 0)) rfl rfl
theorem s53_3 {d : Nat} {ls : mj_L} {st : List Value} {M : mj_H} : mj_Rn (d + 1) mj_m53 3 ls st M = mq_k5a (d + 1) mj_m53 6 ls M 49 (mq_cb 0 2 1 st M) := mj_R5e (r := (.invokevirtual 39, 3, 0, 49, 12336)) (z := mj_m49) rfl rfl (by decide) (by decide) rfl
theorem s53_6 {d : Nat} {ls : mj_L} {st : List Value} {M : mj_H} : mj_Rn d mj_m53 6 ls st M = mq_k0 d mj_m53 7 ls M (mj_pu .l2i ls st) := mj_R0 (r := (.l2i, 1, 0, 0, 0)) rfl rfl
theorem s53_7 {d : Nat} {ls : mj_L} {st : List Value} {M : mj_H} : mj_Rn d mj_m53 7 ls st M = mq_k6 M (mj_re (some .int) (.ireturn) st) := mj_R6 (r := (.ireturn, 1, 0, 0, 0)) rfl rfl
theorem c10 {d : Nat} {a0 : Nat} {x1 : Int64} {x2 : Int32} {M : mj_H} : mj_V (d + 1) 10 [.ref a0, .long x1, .int x2] M = mj_Rn d mj_m10 0 [(0, .ref a0), (1, .long x1), (3, .int x2)] [] M := mj_V_go rfl (Nat.le_of_ble_eq_true rfl)
theorem c77 {d : Nat} {a0 : Nat} {a1 : Nat} {x2 : Int32} {x3 : Int32} {M : mj_H} : mj_V (d + 1) 77 [.ref a0, .ref a1, .int x2, .int x3] M = mj_Rn d mj_m77 0 [(0, .ref a0), (1, .ref a1), (2, .int x2), (3, .int x3)] [] M := mj_V_go rfl (Nat.le_of_ble_eq_true rfl)
theorem c49 {d : Nat} {a0 : Nat} {x1 : Int32} {x2 : Int32} {M : mj_H} : mj_V (d + 1) 49 [.ref a0, .int x1, .int x2] M = mj_Rn d mj_m49 0 [(0, .ref a0), (1, .int x1), (2, .int x2)] [] M := mj_V_go rfl (Nat.le_of_ble_eq_true rfl)
theorem c42 {d : Nat} {a0 : Nat} {x1 : Int32} {x2 : Int32} {M : mj_H} : mj_V (d + 1) 42 [.ref a0, .int x1, .int x2] M = mj_Rn d mj_m42 0 [(0, .ref a0), (1, .int x1), (2, .int x2)] [] M := mj_V_go rfl (Nat.le_of_ble_eq_true rfl)
theorem c193 {d : Nat} {a0 : Nat} {x1 : Int32} {a2 : Nat} {x3 : Int32} {x4 : Int32} {M : mj_H} : mj_V (d + 1) 193 [.ref a0, .int x1, .ref a2, .int x3, .int x4] M = mj_Rn d mj_m193 0 [(0, .ref a0), (1, .int x1), (2, .ref a2), (3, .int x3), (4, .int x4)] [] M := mj_V_go rfl (Nat.le_of_ble_eq_true rfl)
theorem c53 {d : Nat} {a0 : Nat} {x1 : Int32} {M : mj_H} : mj_V (d + 1) 53 [.ref a0, .int x1] M = mj_Rn d mj_m53 0 [(0, .ref a0), (1, .int x1)] [] M := mj_V_go rfl (Nat.le_of_ble_eq_true rfl)
theorem bt_app_app (cap : Nat) (xs ys zs : List Int32) : bt_app cap (bt_app cap xs ys) zs = bt_app cap xs (ys ++ zs) := by
  unfold bt_app
  rw [← List.append_assoc]
  generalize xs ++ ys = l
  rw [List.take_append, List.take_append, List.take_take, Nat.min_self, List.length_take]
  congr 2
  omega
theorem bt_app_nil {cap : Nat} {xs : List Int32} (h : xs.length ≤ cap) : bt_app cap xs [] = xs := by
  unfold bt_app
  rw [List.append_nil]
  exact List.take_of_length_le h
theorem bt_app_full {cap : Nat} {xs : List Int32} (h : xs.length = cap) (ys : List Int32) : bt_app cap xs ys = xs := by
  unfold bt_app
  rw [List.take_append_of_le_length (by omega)]
  exact List.take_of_length_le (by omega)
/-- one byte goes behind the row, on the heap -/
theorem bb_one {M : mj_H} {a b cap : Nat} {xs : List Int32} (h : bb M a b cap xs) (hlt : xs.length < cap) (v : Int32) : ∃ zs, M[b]? = some (1000, zs) ∧ ¬ Int32.ofNat zs.length ≤ nI xs.length ∧ mj_ix (nI xs.length) zs.length = some xs.length ∧
    bb ((M.set b (1000, zs.set xs.length (.int (v &&& 255)))).set a (1, [.ref b, .int (nI (xs.length + 1))])) a b cap (xs ++ [v &&& 255]) ∧ mq_fr [a, b] M ((M.set b (1000, zs.set xs.length (.int (v &&& 255)))).set a (1, [.ref b, .int (nI (xs.length + 1))])) := by
  obtain ⟨ha, hb, hab, hcap, h8, h1, g, h2, hg⟩ := id h
  obtain ⟨c, g', rfl⟩ : ∃ c g', g = c :: g' := by
    cases g with
    | nil => simp at hg; omega
    | cons c g' => exact ⟨c, g', rfl⟩
  have q4 : ((xs ++ c :: g').map Value.int).set xs.length (.int (v &&& 255)) = ((xs ++ [v &&& 255]) ++ g').map Value.int := by
    rw [← List.map_set]; simp
  refine ⟨(xs ++ c :: g').map Value.int, h2, by rw [List.length_map, hg]; exact nI_ge hlt hcap, mq_ix (by rw [List.length_map, hg]; omega) (by rw [List.length_map, hg]; exact hcap), ?_, (mq_fr.rf.set (by simp)).set (by simp)⟩
  rw [q4]
  refine ⟨ha, hb, hab, hcap, ?_, ?_, g', ?_, ?_⟩
  · intro w hw
    rcases List.mem_append.mp hw with h | h
    · exact h8 w h
    · rw [List.mem_singleton.mp h]; exact bt_255 v
  · rw [List.getElem?_set_self (by rw [List.length_set]; exact mq_lt h1)]; simp
  · rw [List.getElem?_set_ne hab, List.getElem?_set_self (mq_lt h2)]
  · simpa using hg
/-- byte j of a long, from below -/
def bt_by (w : Int64) (j : Nat) : Int32 := (w.toUInt64 >>> (((8 : Int32) * nI j).toInt64.toUInt64 &&& Int64.toUInt64 63)).toInt64.toInt32 &&& 255
/-- the m lowest bytes of a long, the highest of them first -/
def bt_low (w : Int64) : Nat → List Int32
  | 0 => []
  | m + 1 => bt_by w m :: bt_low w m
theorem l_pushLow {d a b cap : Nat} {w : Int64} {n : Int32} : ∀ (m : Nat) (xs : List Int32) (M : mj_H), m < 2 ^ 31 → bb M a b cap xs → ∃ M', mj_Rn d mj_m10 5 [(4, .int (nI m + -1)), (0, .ref a), (1, .long w), (3, .int n)] [] M = some (none, M') ∧ bb M' a b cap (bt_app cap xs (bt_low w m)) ∧ mq_fr [a, b] M M' := by
  intro m
  induction m with
  | zero =>
    intro xs M _ h
    refine ⟨M, ?_, by rw [bt_low, bt_app_nil h.len]; exact h, mq_fr.rf⟩
    have e : nI 0 + -1 < 0 := by decide
    simp [s10_0, s10_1, s10_2, s10_3, s10_5, s10_7, s10_10, s10_11, s10_14, s10_17, s10_18, s10_21, s10_22, s10_25, s10_26, s10_29, s10_30, s10_33, s10_34, s10_37, s10_38, s10_40, s10_42, s10_43, s10_44, s10_45, s10_48, s10_49, s10_50, s10_51, s10_52, s10_55, s10_56, s10_57, s10_60, s10_63, s10_66, mq_k0s, mq_k1s, mq_k2s, mq_k4s, mq_k5s, mq_k5n, mq_k5as, mq_k6s, mj_pu, mj_lo, mj_br, mj_hr, mj_hw, mq_gf, mq_len, mq_al, mq_pf, mq_ok, mj_re, mj_lk, mj_ldi, mj_ldl, mj_lda, mj_ii, mj_ll, mj_li, mj_i1, mj_s1, mj_s2, mj_tg, mj_c1, mj_c2, mj_ar, mj_aw, mq_cb, mq_oi, mj_rm, Value.category, e]
  | succ m ih =>
    intro xs M hm h
    have hxl := h.len
    obtain ⟨ha, hb, hab, hcap, h8, h1, g, h2, hg⟩ := id h
    have e0 : ¬ nI m < 0 := nI_pos (by omega)
    have q0 : ¬ nI xs.length < 0 := nI_pos (by omega)
    rw [pk_m1]
    by_cases hlt : xs.length < cap
    · obtain ⟨zs, z1, z2, z3, z4, z5⟩ := bb_one h hlt ((w.toUInt64 >>> (((8 : Int32) * nI m).toInt64.toUInt64 &&& Int64.toUInt64 63)).toInt64.toInt32)
      obtain ⟨M', r1, r2, r3⟩ := ih _ _ (by omega) z4
      refine ⟨M', ?_, ?_, z5.tr r3⟩
      · rw [s10_5]
        simp [s10_0, s10_1, s10_2, s10_3, s10_7, s10_10, s10_11, s10_14, s10_17, s10_18, s10_21, s10_22, s10_25, s10_26, s10_29, s10_30, s10_33, s10_34, s10_37, s10_38, s10_40, s10_42, s10_43, s10_44, s10_45, s10_48, s10_49, s10_50, s10_51, s10_52, s10_55, s10_56, s10_57, s10_60, s10_63, s10_66, mq_k0s, mq_k1s, mq_k2s, mq_k4s, mq_k5s, mq_k5n, mq_k5as, mq_k6s, mj_pu, mj_lo, mj_br, mj_hr, mj_hw, mq_gf, mq_len, mq_al, mq_pf, mq_ok, mj_re, mj_lk, mj_ldi, mj_ldl, mj_lda, mj_ii, mj_ll, mj_li, mj_i1, mj_s1, mj_s2, mj_tg, mj_c1, mj_c2, mj_ar, mj_aw, mq_cb, mq_oi, mj_rm, Value.category, h1, z1, e0, q0, z2, z3, Nat.not_lt.mpr ha, Nat.not_lt.mpr hb, hab, Ne.symm hab, List.getElem?_set, nI_1, litm1]
        exact r1
      · have : bt_app cap (xs ++ [bt_by w m]) (bt_low w m) = bt_app cap xs (bt_low w (m + 1)) := by
          unfold bt_app; simp [bt_low]
        rw [← this]; exact r2
    · obtain ⟨M', r1, r2, r3⟩ := ih _ _ (by omega) h
      have q2 : Int32.ofNat ((xs ++ g).map Value.int).length ≤ nI xs.length := by rw [List.length_map, hg]; exact nI_le (by omega) (by omega)
      refine ⟨M', ?_, ?_, r3⟩
      · rw [s10_5]
        generalize hz : (xs ++ g).map Value.int = zs at *
        simp [s10_0, s10_1, s10_2, s10_3, s10_7, s10_10, s10_11, s10_14, s10_17, s10_18, s10_21, s10_22, s10_25, s10_26, s10_29, s10_30, s10_33, s10_34, s10_37, s10_38, s10_40, s10_42, s10_43, s10_44, s10_45, s10_48, s10_49, s10_50, s10_51, s10_52, s10_55, s10_56, s10_57, s10_60, s10_63, s10_66, mq_k0s, mq_k1s, mq_k2s, mq_k4s, mq_k5s, mq_k5n, mq_k5as, mq_k6s, mj_pu, mj_lo, mj_br, mj_hr, mj_hw, mq_gf, mq_len, mq_al, mq_pf, mq_ok, mj_re, mj_lk, mj_ldi, mj_ldl, mj_lda, mj_ii, mj_ll, mj_li, mj_i1, mj_s1, mj_s2, mj_tg, mj_c1, mj_c2, mj_ar, mj_aw, mq_cb, mq_oi, mj_rm, Value.category, h1, h2, e0, q0, q2, litm1]
        exact r1
      · rw [bt_app_full (by omega)] at r2 ⊢; exact r2
theorem v_pushLow {d a b cap : Nat} {w : Int64} {xs : List Int32} {M : mj_H} {m : Nat} (hm : m < 2 ^ 31) (h : bb M a b cap xs) : ∃ M', mj_V (d + 1) 10 [.ref a, .long w, .int (nI m)] M = some (none, M') ∧ bb M' a b cap (bt_app cap xs (bt_low w m)) ∧ mq_fr [a, b] M M' := by
  obtain ⟨M', r1, r2, r3⟩ := l_pushLow (d := d) (n := nI m) (w := w) m xs M hm h
  refine ⟨M', ?_, r2, r3⟩
  have e : nI m - 1 = nI m + -1 := by rw [Int32.sub_eq_add_neg]
  simp [c10, s10_0, s10_1, s10_2, s10_3, mq_k0s, mq_k1s, mq_k2s, mq_k4s, mq_k5s, mq_k5n, mq_k5as, mq_k6s, mj_pu, mj_lo, mj_br, mj_hr, mj_hw, mq_gf, mq_len, mq_al, mq_pf, mq_ok, mj_re, mj_lk, mj_ldi, mj_ldl, mj_lda, mj_ii, mj_ll, mj_li, mj_i1, mj_s1, mj_s2, mj_tg, mj_c1, mj_c2, mj_ar, mj_aw, mq_cb, mq_oi, mj_rm, Value.category, e]
  exact r1
/-- a part of another row goes behind this one -/
theorem bt_neg {v : Int32} (h : v &&& 255 = v) : ¬ v = -1 := by
  intro e
  rw [e] at h
  exact absurd h (by decide)
theorem l_pushPart {d a b cap c e cap2 p : Nat} {ys : List Int32} (hac : a ≠ c) (hae : a ≠ e) (hbc : b ≠ c) (hbe : b ≠ e) {n : Nat} (hn : p + n < 2 ^ 31) : ∀ (m j : Nat) (xs : List Int32) (M : mj_H), j + m = n → bb M a b cap xs → bb M c e cap2 ys → ∃ M', mj_Rn (d + 1) mj_m77 3 [(4, .int (nI j)), (0, .ref a), (1, .ref c), (2, .int (nI p)), (3, .int (nI n))] [] M = some (none, M') ∧ bb M' a b cap (bt_app cap xs ((ys.drop (p + j)).take m)) ∧ mq_fr [a, b] M M' := by
  intro m
  induction m with
  | zero =>
    intro j xs M hj h hy
    refine ⟨M, ?_, by rw [List.take_zero, bt_app_nil h.len]; exact h, mq_fr.rf⟩
    have q : nI n ≤ nI j := nI_le (by omega) (by omega)
    simp [s77_0, s77_1, s77_3, s77_5, s77_6, s77_9, s77_10, s77_11, s77_13, s77_14, s77_17, s77_19, s77_21, s77_22, s77_25, s77_26, s77_28, s77_31, s77_34, s77_37, mq_k0s, mq_k1s, mq_k2s, mq_k4s, mq_k5s, mq_k5n, mq_k5as, mq_k6s, mj_pu, mj_lo, mj_br, mj_hr, mj_hw, mq_gf, mq_len, mq_al, mq_pf, mq_ok, mj_re, mj_lk, mj_ldi, mj_ldl, mj_lda, mj_ii, mj_ll, mj_li, mj_i1, mj_s1, mj_s2, mj_tg, mj_c1, mj_c2, mj_ar, mj_aw, mq_cb, mq_oi, mj_rm, Value.category, q]
  | succ m ih =>
    intro j xs M hj h hy
    have q : ¬ nI n ≤ nI j := nI_ge (by omega) (by omega)
    have hc1 : M[c]? = some (1, [.ref e, .int (nI ys.length)]) := hy.2.2.2.2.2.1
    have ha1 : M[a]? = some (1, [.ref b, .int (nI xs.length)]) := h.2.2.2.2.2.1
    have hv := v_item (d := d) hy (nI p + nI j)
    rw [nI_add, bt_at_nI (by omega)] at hv
    by_cases hk : p + j < ys.length
    · have hg : ys.getD (p + j) (-1) = ys[p + j] := by simp [List.getD, hk]
      have h8 : ys[p + j] &&& 255 = ys[p + j] := hy.2.2.2.2.1 _ (List.getElem_mem hk)
      rw [hg] at hv
      obtain ⟨M1, p1, p2, p3⟩ := v_push (d := d) h ys[p + j]
      rw [h8] at p2
      have hy1 : bb M1 c e cap2 ys := hy.fr (p3.2 c (by simp [Ne.symm hac, Ne.symm hbc])) (p3.2 e (by simp [Ne.symm hae, Ne.symm hbe]))
      obtain ⟨M', r1, r2, r3⟩ := ih (j + 1) _ M1 (by omega) p2 hy1
      refine ⟨M', ?_, ?_, p3.tr r3⟩
      · rw [s77_3]
        simp [s77_0, s77_1, s77_5, s77_6, s77_9, s77_10, s77_11, s77_13, s77_14, s77_17, s77_19, s77_21, s77_22, s77_25, s77_26, s77_28, s77_31, s77_34, s77_37, mq_k0s, mq_k1s, mq_k2s, mq_k4s, mq_k5s, mq_k5n, mq_k5as, mq_k6s, mj_pu, mj_lo, mj_br, mj_hr, mj_hw, mq_gf, mq_len, mq_al, mq_pf, mq_ok, mj_re, mj_lk, mj_ldi, mj_ldl, mj_lda, mj_ii, mj_ll, mj_li, mj_i1, mj_s1, mj_s2, mj_tg, mj_c1, mj_c2, mj_ar, mj_aw, mq_cb, mq_oi, mj_rm, Value.category, q, hc1, ha1, nI_add, hv, bt_neg h8, p1, nI_1]
        refine mq_wk ?_ r1
        simp [mq_sub, mj_lk]
      · rw [bt_app_app] at r2
        have : [ys[p + j]] ++ (ys.drop (p + (j + 1))).take m = (ys.drop (p + j)).take (m + 1) := by
          rw [List.drop_eq_getElem_cons hk]; rfl
        rw [← this]; exact r2
    · have hg : ys.getD (p + j) (-1) = -1 := by simp [List.getD, hk]
      rw [hg] at hv
      obtain ⟨M', r1, r2, r3⟩ := ih (j + 1) _ M (by omega) h hy
      refine ⟨M', ?_, ?_, r3⟩
      · rw [s77_3]
        simp [s77_0, s77_1, s77_5, s77_6, s77_9, s77_10, s77_11, s77_13, s77_14, s77_17, s77_19, s77_21, s77_22, s77_25, s77_26, s77_28, s77_31, s77_34, s77_37, mq_k0s, mq_k1s, mq_k2s, mq_k4s, mq_k5s, mq_k5n, mq_k5as, mq_k6s, mj_pu, mj_lo, mj_br, mj_hr, mj_hw, mq_gf, mq_len, mq_al, mq_pf, mq_ok, mj_re, mj_lk, mj_ldi, mj_ldl, mj_lda, mj_ii, mj_ll, mj_li, mj_i1, mj_s1, mj_s2, mj_tg, mj_c1, mj_c2, mj_ar, mj_aw, mq_cb, mq_oi, mj_rm, Value.category, q, hc1, nI_add, hv, nI_1]
        refine mq_wk ?_ r1
        simp [mq_sub, mj_lk]
      · have e1 : ys.drop (p + j) = [] := List.drop_eq_nil_of_le (by omega)
        have e2 : ys.drop (p + (j + 1)) = [] := List.drop_eq_nil_of_le (by omega)
        rw [e2] at r2
        rw [e1]
        simpa using r2
theorem v_pushPart {d a b cap c e cap2 p n : Nat} {xs ys : List Int32} {M : mj_H} (hac : a ≠ c) (hae : a ≠ e) (hbc : b ≠ c) (hbe : b ≠ e) (hn : p + n < 2 ^ 31) (h : bb M a b cap xs) (hy : bb M c e cap2 ys) : ∃ M', mj_V (d + 2) 77 [.ref a, .ref c, .int (nI p), .int (nI n)] M = some (none, M') ∧ bb M' a b cap (bt_app cap xs ((ys.drop p).take n)) ∧ mq_fr [a, b] M M' := by
  obtain ⟨M', r1, r2, r3⟩ := l_pushPart (d := d) hac hae hbc hbe hn n 0 xs M (by omega) h hy
  refine ⟨M', ?_, r2, r3⟩
  rw [nI_0] at r1
  simp [c77, s77_0, s77_1, mq_k0s, mq_k1s, mq_k2s, mq_k4s, mq_k5s, mq_k5n, mq_k5as, mq_k6s, mj_pu, mj_lo, mj_br, mj_hr, mj_hw, mq_gf, mq_len, mq_al, mq_pf, mq_ok, mj_re, mj_lk, mj_ldi, mj_ldl, mj_lda, mj_ii, mj_ll, mj_li, mj_i1, mj_s1, mj_s2, mj_tg, mj_c1, mj_c2, mj_ar, mj_aw, mq_cb, mq_oi, mj_rm, Value.category]
  exact r1
