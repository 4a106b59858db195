/- f1.newmod -/
section
set_option maxRecDepth 512
/-! The model: its constructor. -/
set_option maxRecDepth 20000
/- 231 PasskeyHouseModel.<init>()V -/
theorem s231_0 {d : Nat} {ls : mj_L} {st : List Value} {M : mj_H} : mj_Rn d mj_m231 0 ls st M = mq_k0 d mj_m231 1 ls M (mj_lda (mj_lk ls 0) st) := mj_R0 (r := (.aload_n 0, 1, 0, 0, 0)) rfl rfl
theorem s231_1 {d : Nat} {ls : mj_L} {st : List Value} {M : mj_H} : mj_Rn (d + 1) mj_m231 1 ls st M = mq_k0 (d + 1) mj_m231 4 ls M (mq_oi st) := mj_R5oe (r := (.invokespecial 1, 3, 6, 0, 24795)) rfl rfl rfl
theorem s231_4 {d : Nat} {ls : mj_L} {st : List Value} {M : mj_H} : mj_Rn d mj_m231 4 ls st M = mq_k0 d mj_m231 5 ls M (mj_lda (mj_lk ls 0) st) := mj_R0 (r := (.aload_n 0, 1, 0, 0, 0)) rfl rfl
theorem s231_5 {d : Nat} {ls : mj_L} {st : List Value} {M : mj_H} : mj_Rn d mj_m231 5 ls st M = mj_Rn d mj_m231 7 ls (.int 1700000 :: st) M := mj_R3 (r := (.ldc 7, 2, 0, 20, 24796)) rfl rfl
theorem s231_7 {d : Nat} {ls : mj_L} {st : List Value} {M : mj_H} : mj_Rn d mj_m231 7 ls st M = mq_k4 d mj_m231 9 ls (mj_hw (.newarray .int, 2, 1000, 0, 4140) st M) := mj_R4 (r := (.newarray .int, 2, 1000, 0, 4140)) rfl rfl
theorem s231_9 {d : Nat} {ls : mj_L} {st : List Value} {M : mj_H} : mj_Rn d mj_m231 9 ls st M = mq_k4 d mj_m231 12 ls (mq_pf 11 0 2 st M) := (mj_R4 (r := (.putfield 8, 3, 11, 0, 49596)) rfl rfl).trans (congrArg (mq_k4 d mj_m231 12 ls) (mq_pf_eq rfl rfl))
theorem s231_12 {d : Nat} {ls : mj_L} {st : List Value} {M : mj_H} : mj_Rn d mj_m231 12 ls st M = mq_k0 d mj_m231 13 ls M (mj_lda (mj_lk ls 0) st) := mj_R0 (r := (.aload_n 0, 1, 0, 0, 0)) rfl rfl
theorem s231_13 {d : Nat} {ls : mj_L} {st : List Value} {M : mj_H} : mj_Rn d mj_m231 13 ls st M = mj_Rn d mj_m231 15 ls (.int 40000 :: st) M := mj_R3 (r := (.ldc 14, 2, 0, 21, 24797)) rfl rfl
theorem s231_15 {d : Nat} {ls : mj_L} {st : List Value} {M : mj_H} : mj_Rn d mj_m231 15 ls st M = mq_k4 d mj_m231 17 ls (mj_hw (.newarray .int, 2, 1000, 0, 4140) st M) := mj_R4 (r := (.newarray .int, 2, 1000, 0, 4140)) rfl rfl
theorem s231_17 {d : Nat} {ls : mj_L} {st : List Value} {M : mj_H} : mj_Rn d mj_m231 17 ls st M = mq_k4 d mj_m231 20 ls (mq_pf 11 2 2 st M) := (mj_R4 (r := (.putfield 15, 3, 11, 2, 49600)) rfl rfl).trans (congrArg (mq_k4 d mj_m231 20 ls) (mq_pf_eq rfl rfl))
theorem s231_20 {d : Nat} {ls : mj_L} {st : List Value} {M : mj_H} : mj_Rn d mj_m231 20 ls st M = mq_k0 d mj_m231 21 ls M (mj_lda (mj_lk ls 0) st) := mj_R0 (r := (.aload_n 0, 1, 0, 0, 0)) rfl rfl
theorem s231_21 {d : Nat} {ls : mj_L} {st : List Value} {M : mj_H} : mj_Rn d mj_m231 21 ls st M = mj_Rn d mj_m231 23 ls (.int 40000 :: st) M := mj_R3 (r := (.ldc 14, 2, 0, 21, 24797)) rfl rfl
theorem s231_23 {d : Nat} {ls : mj_L} {st : List Value} {M : mj_H} : mj_Rn d mj_m231 23 ls st M = mq_k4 d mj_m231 25 ls (mj_hw (.newarray .int, 2, 1000, 0, 4140) st M) := mj_R4 (r := (.newarray .int, 2, 1000, 0, 4140)) rfl rfl
theorem s231_25 {d : Nat} {ls : mj_L} {st : List Value} {M : mj_H} : mj_Rn d mj_m231 25 ls st M = mq_k4 d mj_m231 28 ls (mq_pf 11 3 2 st M) := (mj_R4 (r := (.putfield 18, 3, 11, 3, 49602)) rfl rfl).trans (congrArg (mq_k4 d mj_m231 28 ls) (mq_pf_eq rfl rfl))
theorem s231_28 {d : Nat} {ls : mj_L} {st : List Value} {M : mj_H} : mj_Rn d mj_m231 28 ls st M = mq_k0 d mj_m231 29 ls M (mj_lda (mj_lk ls 0) st) := mj_R0 (r := (.aload_n 0, 1, 0, 0, 0)) rfl rfl
theorem s231_29 {d : Nat} {ls : mj_L} {st : List Value} {M : mj_H} : mj_Rn d mj_m231 29 ls st M = mj_Rn d mj_m231 32 ls (.int 8192 :: st) M := mj_R0 (r := (.sipush 8192, 3, 0, 0, 0)) rfl rfl
theorem s231_32 {d : Nat} {ls : mj_L} {st : List Value} {M : mj_H} : mj_Rn d mj_m231 32 ls st M = mq_k4 d mj_m231 34 ls (mj_hw (.newarray .int, 2, 1000, 0, 4140) st M) := mj_R4 (r := (.newarray .int, 2, 1000, 0, 4140)) rfl rfl
theorem s231_34 {d : Nat} {ls : mj_L} {st : List Value} {M : mj_H} : mj_Rn d mj_m231 34 ls st M = mq_k4 d mj_m231 37 ls (mq_pf 11 4 2 st M) := (mj_R4 (r := (.putfield 21, 3, 11, 4, 49604)) rfl rfl).trans (congrArg (mq_k4 d mj_m231 37 ls) (mq_pf_eq rfl rfl))
theorem s231_37 {d : Nat} {ls : mj_L} {st : List Value} {M : mj_H} : mj_Rn d mj_m231 37 ls st M = mq_k0 d mj_m231 38 ls M (mj_lda (mj_lk ls 0) st) := mj_R0 (r := (.aload_n 0, 1, 0, 0, 0)) rfl rfl
theorem s231_38 {d : Nat} {ls : mj_L} {st : List Value} {M : mj_H} : mj_Rn d mj_m231 38 ls st M = mj_Rn d mj_m231 41 ls (.int 512 :: st) M := mj_R0 (r := (.sipush 512, 3, 0, 0, 0)) rfl rfl
theorem s231_41 {d : Nat} {ls : mj_L} {st : List Value} {M : mj_H} : mj_Rn d mj_m231 41 ls st M = mq_k4 d mj_m231 43 ls (mj_hw (.newarray .int, 2, 1000, 0, 4140) st M) := mj_R4 (r := (.newarray .int, 2, 1000, 0, 4140)) rfl rfl
theorem s231_43 {d : Nat} {ls : mj_L} {st : List Value} {M : mj_H} : mj_Rn d mj_m231 43 ls st M = mq_k4 d mj_m231 46 ls (mq_pf 11 8 2 st M) := (mj_R4 (r := (.putfield 24, 3, 11, 8, 49612)) rfl rfl).trans (congrArg (mq_k4 d mj_m231 46 ls) (mq_pf_eq rfl rfl))
theorem s231_46 {d : Nat} {ls : mj_L} {st : List Value} {M : mj_H} : mj_Rn d mj_m231 46 ls st M = mq_k0 d mj_m231 47 ls M (mj_lda (mj_lk ls 0) st) := mj_R0 (r := (.aload_n 0, 1, 0, 0, 0)) rfl rfl
theorem s231_47 {d : Nat} {ls : mj_L} {st : List Value} {M : mj_H} : mj_Rn d mj_m231 47 ls st M = mj_Rn d mj_m231 50 ls (.int 400 :: st) M := mj_R0 (r := (.sipush 400, 3, 0, 0, 0)) rfl rfl
theorem s231_50 {d : Nat} {ls : mj_L} {st : List Value} {M : mj_H} : mj_Rn d mj_m231 50 ls st M = mq_k4 d mj_m231 52 ls (mj_hw (.newarray .int, 2, 1000, 0, 4140) st M) := mj_R4 (r := (.newarray .int, 2, 1000, 0, 4140)) rfl rfl
theorem s231_52 {d : Nat} {ls : mj_L} {st : List Value} {M : mj_H} : mj_Rn d mj_m231 52 ls st M = mq_k4 d mj_m231 55 ls (mq_pf 11 10 2 st M) := (mj_R4 (r := (.putfield 27, 3, 11, 10, 49616)) rfl rfl).trans (congrArg (mq_k4 d mj_m231 55 ls) (mq_pf_eq rfl rfl))
theorem s231_55 {d : Nat} {ls : mj_L} {st : List Value} {M : mj_H} : mj_Rn d mj_m231 55 ls st M = mq_k0 d mj_m231 56 ls M (mj_lda (mj_lk ls 0) st) := mj_R0 (r := (.aload_n 0, 1, 0, 0, 0)) rfl rfl
theorem s231_56 {d : Nat} {ls : mj_L} {st : List Value} {M : mj_H} : mj_Rn d mj_m231 56 ls st M = mj_Rn d mj_m231 59 ls (.int 1536 :: st) M := mj_R0 (r := (.sipush 1536, 3, 0, 0, 0)) rfl rfl
theorem s231_59 {d : Nat} {ls : mj_L} {st : List Value} {M : mj_H} : mj_Rn d mj_m231 59 ls st M = mq_k4 d mj_m231 61 ls (mj_hw (.newarray .int, 2, 1000, 0, 4140) st M) := mj_R4 (r := (.newarray .int, 2, 1000, 0, 4140)) rfl rfl
theorem s231_61 {d : Nat} {ls : mj_L} {st : List Value} {M : mj_H} : mj_Rn d mj_m231 61 ls st M = mq_k4 d mj_m231 64 ls (mq_pf 11 13 2 st M) := (mj_R4 (r := (.putfield 30, 3, 11, 13, 49622)) rfl rfl).trans (congrArg (mq_k4 d mj_m231 64 ls) (mq_pf_eq rfl rfl))
theorem s231_64 {d : Nat} {ls : mj_L} {st : List Value} {M : mj_H} : mj_Rn d mj_m231 64 ls st M = mq_k0 d mj_m231 65 ls M (mj_lda (mj_lk ls 0) st) := mj_R0 (r := (.aload_n 0, 1, 0, 0, 0)) rfl rfl
theorem s231_65 {d : Nat} {ls : mj_L} {st : List Value} {M : mj_H} : mj_Rn d mj_m231 65 ls st M = mj_Rn d mj_m231 66 ls (.int 3 :: st) M := mj_R0 (r := (.iconst 3, 1, 0, 0, 0)) rfl rfl
theorem s231_66 {d : Nat} {ls : mj_L} {st : List Value} {M : mj_H} : mj_Rn d mj_m231 66 ls st M = mq_k4 d mj_m231 68 ls (mj_hw (.newarray .boolean, 2, 1002, 0, 32781) st M) := mj_R4 (r := (.newarray .boolean, 2, 1002, 0, 32781)) rfl rfl
theorem s231_68 {d : Nat} {ls : mj_L} {st : List Value} {M : mj_H} : mj_Rn d mj_m231 68 ls st M = mq_k4 d mj_m231 71 ls (mq_pf 11 14 2 st M) := (mj_R4 (r := (.putfield 33, 3, 11, 14, 49624)) rfl rfl).trans (congrArg (mq_k4 d mj_m231 71 ls) (mq_pf_eq rfl rfl))
theorem s231_71 {d : Nat} {ls : mj_L} {st : List Value} {M : mj_H} : mj_Rn d mj_m231 71 ls st M = mq_k0 d mj_m231 72 ls M (mj_lda (mj_lk ls 0) st) := mj_R0 (r := (.aload_n 0, 1, 0, 0, 0)) rfl rfl
theorem s231_72 {d : Nat} {ls : mj_L} {st : List Value} {M : mj_H} : mj_Rn d mj_m231 72 ls st M = mj_Rn d mj_m231 73 ls (.int 3 :: st) M := mj_R0 (r := (.iconst 3, 1, 0, 0, 0)) rfl rfl
theorem s231_73 {d : Nat} {ls : mj_L} {st : List Value} {M : mj_H} : mj_Rn d mj_m231 73 ls st M = mq_k4 d mj_m231 75 ls (mj_hw (.newarray .int, 2, 1000, 0, 4140) st M) := mj_R4 (r := (.newarray .int, 2, 1000, 0, 4140)) rfl rfl
theorem s231_75 {d : Nat} {ls : mj_L} {st : List Value} {M : mj_H} : mj_Rn d mj_m231 75 ls st M = mq_k4 d mj_m231 78 ls (mq_pf 11 15 2 st M) := (mj_R4 (r := (.putfield 37, 3, 11, 15, 49626)) rfl rfl).trans (congrArg (mq_k4 d mj_m231 78 ls) (mq_pf_eq rfl rfl))
theorem s231_78 {d : Nat} {ls : mj_L} {st : List Value} {M : mj_H} : mj_Rn d mj_m231 78 ls st M = mq_k0 d mj_m231 79 ls M (mj_lda (mj_lk ls 0) st) := mj_R0 (r := (.aload_n 0, 1, 0, 0, 0)) rfl rfl
theorem s231_79 {d : Nat} {ls : mj_L} {st : List Value} {M : mj_H} : mj_Rn d mj_m231 79 ls st M = mj_Rn d mj_m231 80 ls (.int 3 :: st) M := mj_R0 (r := (.iconst 3, 1, 0, 0, 0)) rfl rfl
theorem s231_80 {d : Nat} {ls : mj_L} {st : List Value} {M : mj_H} : mj_Rn d mj_m231 80 ls st M = mq_k4 d mj_m231 82 ls (mj_hw (.newarray .int, 2, 1000, 0, 4140) st M) := mj_R4 (r := (.newarray .int, 2, 1000, 0, 4140)) rfl rfl
theorem s231_82 {d : Nat} {ls : mj_L} {st : List Value} {M : mj_H} : mj_Rn d mj_m231 82 ls st M = mq_k4 d mj_m231 85 ls (mq_pf 11 16 2 st M) := (mj_R4 (r := (.putfield 40, 3, 11, 16, 49628)) rfl rfl).trans (congrArg (mq_k4 d mj_m231 85 ls) (mq_pf_eq rfl rfl))
theorem s231_85 {d : Nat} {ls : mj_L} {st : List Value} {M : mj_H} : mj_Rn d mj_m231 85 ls st M = mq_k0 d mj_m231 86 ls M (mj_lda (mj_lk ls 0) st) := mj_R0 (r := (.aload_n 0, 1, 0, 0, 0)) rfl rfl
theorem s231_86 {d : Nat} {ls : mj_L} {st : List Value} {M : mj_H} : mj_Rn d mj_m231 86 ls st M = mj_Rn d mj_m231 87 ls (.int 3 :: st) M := mj_R0 (r := (.iconst 3, 1, 0, 0, 0)) rfl rfl
theorem s231_87 {d : Nat} {ls : mj_L} {st : List Value} {M : mj_H} : mj_Rn d mj_m231 87 ls st M = mq_k4 d mj_m231 89 ls (mj_hw (.newarray .int, 2, 1000, 0, 4140) st M) := mj_R4 (r := (.newarray .int, 2, 1000, 0, 4140)) rfl rfl
theorem s231_89 {d : Nat} {ls : mj_L} {st : List Value} {M : mj_H} : mj_Rn d mj_m231 89 ls st M = mq_k4 d mj_m231 92 ls (mq_pf 11 17 2 st M) := (mj_R4 (r := (.putfield 43, 3, 11, 17, 49630)) rfl rfl).trans (congrArg (mq_k4 d mj_m231 92 ls) (mq_pf_eq rfl rfl))
theorem s231_92 {d : Nat} {ls : mj_L} {st : List Value} {M : mj_H} : mj_Rn d mj_m231 92 ls st M = mq_k0 d mj_m231 93 ls M (mj_lda (mj_lk ls 0) st) := mj_R0 (r := (.aload_n 0, 1, 0, 0, 0)) rfl rfl
theorem s231_93 {d : Nat} {ls : mj_L} {st : List Value} {M : mj_H} : mj_Rn d mj_m231 93 ls st M = mj_Rn d mj_m231 94 ls (.int 3 :: st) M := mj_R0 (r := (.iconst 3, 1, 0, 0, 0)) rfl rfl
theorem s231_94 {d : Nat} {ls : mj_L} {st : List Value} {M : mj_H} : mj_Rn d mj_m231 94 ls st M = mq_k4 d mj_m231 96 ls (mj_hw (.newarray .int, 2, 1000, 0, 4140) st M) := mj_R4 (r := (.newarray .int, 2, 1000, 0, 4140)) rfl rfl
theorem s231_96 {d : Nat} {ls : mj_L} {st : List Value} {M : mj_H} : mj_Rn d mj_m231 96 ls st M = mq_k4 d mj_m231 99 ls (mq_pf 11 18 2 st M) := (mj_R4 (r := (.putfield 46, 3, 11, 18, 57344)) rfl rfl).trans (congrArg (mq_k4 d mj_m231 99 ls) (mq_pf_eq rfl rfl))
theorem s231_99 {d : Nat} {ls : mj_L} {st : List Value} {M : mj_H} : mj_Rn d mj_m231 99 ls st M = mq_k0 d mj_m231 100 ls M (mj_lda (mj_lk ls 0) st) := mj_R0 (r := (.aload_n 0, 1, 0, 0, 0)) rfl rfl
theorem s231_100 {d : Nat} {ls : mj_L} {st : List Value} {M : mj_H} : mj_Rn d mj_m231 100 ls st M = mj_Rn d mj_m231 101 ls (.int 3 :: st) M := mj_R0 (r := (.iconst 3, 1, 0, 0, 0)) rfl rfl
theorem s231_101 {d : Nat} {ls : mj_L} {st : List Value} {M : mj_H} : mj_Rn d mj_m231 101 ls st M = mq_k4 d mj_m231 103 ls (mj_hw (.newarray .int, 2, 1000, 0, 4140) st M) := mj_R4 (r := (.newarray .int, 2, 1000, 0, 4140)) rfl rfl
theorem s231_103 {d : Nat} {ls : mj_L} {st : List Value} {M : mj_H} : mj_Rn d mj_m231 103 ls st M = mq_k4 d mj_m231 106 ls (mq_pf 11 19 2 st M) := (mj_R4 (r := (.putfield 49, 3, 11, 19, 57346)) rfl rfl).trans (congrArg (mq_k4 d mj_m231 106 ls) (mq_pf_eq rfl rfl))
theorem s231_106 {d : Nat} {ls : mj_L} {st : List Value} {M : mj_H} : mj_Rn d mj_m231 106 ls st M = mq_k0 d mj_m231 107 ls M (mj_lda (mj_lk ls 0) st) := mj_R0 (r := (.aload_n 0, 1, 0, 0, 0)) rfl rfl
theorem s231_107 {d : Nat} {ls : mj_L} {st : List Value} {M : mj_H} : mj_Rn d mj_m231 107 ls st M = mj_Rn d mj_m231 108 ls (.int 3 :: st) M := mj_R0 (r := (.iconst 3, 1, 0, 0, 0)) rfl rfl
theorem s231_108 {d : Nat} {ls : mj_L} {st : List Value} {M : mj_H} : mj_Rn d mj_m231 108 ls st M = mq_k4 d mj_m231 110 ls (mj_hw (.newarray .int, 2, 1000, 0, 4140) st M) := mj_R4 (r := (.newarray .int, 2, 1000, 0, 4140)) rfl rfl
theorem s231_110 {d : Nat} {ls : mj_L} {st : List Value} {M : mj_H} : mj_Rn d mj_m231 110 ls st M = mq_k4 d mj_m231 113 ls (mq_pf 11 20 2 st M) := (mj_R4 (r := (.putfield 52, 3, 11, 20, 57348)) rfl rfl).trans (congrArg (mq_k4 d mj_m231 113 ls) (mq_pf_eq rfl rfl))
theorem s231_113 {d : Nat} {ls : mj_L} {st : List Value} {M : mj_H} : mj_Rn d mj_m231 113 ls st M = mq_k0 d mj_m231 114 ls M (mj_lda (mj_lk ls 0) st) := mj_R0 (r := (.aload_n 0, 1, 0, 0, 0)) rfl rfl
theorem s231_114 {d : Nat} {ls : mj_L} {st : List Value} {M : mj_H} : mj_Rn d mj_m231 114 ls st M = mj_Rn d mj_m231 115 ls (.int 3 :: st) M := mj_R0 (r := (.iconst 3, 1, 0, 0, 0)) rfl rfl
theorem s231_115 {d : Nat} {ls : mj_L} {st : List Value} {M : mj_H} : mj_Rn d mj_m231 115 ls st M = mq_k4 d mj_m231 117 ls (mj_hw (.newarray .int, 2, 1000, 0, 4140) st M) := mj_R4 (r := (.newarray .int, 2, 1000, 0, 4140)) rfl rfl
theorem s231_117 {d : Nat} {ls : mj_L} {st : List Value} {M : mj_H} : mj_Rn d mj_m231 117 ls st M = mq_k4 d mj_m231 120 ls (mq_pf 11 21 2 st M) := (mj_R4 (r := (.putfield 55, 3, 11, 21, 57350)) rfl rfl).trans (congrArg (mq_k4 d mj_m231 120 ls) (mq_pf_eq rfl rfl))
theorem s231_120 {d : Nat} {ls : mj_L} {st : List Value} {M : mj_H} : mj_Rn d mj_m231 120 ls st M = mq_k0 d mj_m231 121 ls M (mj_lda (mj_lk ls 0) st) := mj_R0 (r := (.aload_n 0, 1, 0, 0, 0)) rfl rfl
theorem s231_121 {d : Nat} {ls : mj_L} {st : List Value} {M : mj_H} : mj_Rn d mj_m231 121 ls st M = mj_Rn d mj_m231 122 ls (.int 3 :: st) M := mj_R0 (r := (.iconst 3, 1, 0, 0, 0)) rfl rfl
theorem s231_122 {d : Nat} {ls : mj_L} {st : List Value} {M : mj_H} : mj_Rn d mj_m231 122 ls st M = mq_k4 d mj_m231 124 ls (mj_hw (.newarray .int, 2, 1000, 0, 4140) st M) := mj_R4 (r := (.newarray .int, 2, 1000, 0, 4140)) rfl rfl
theorem s231_124 {d : Nat} {ls : mj_L} {st : List Value} {M : mj_H} : mj_Rn d mj_m231 124 ls st M = mq_k4 d mj_m231 127 ls (mq_pf 11 22 2 st M) := (mj_R4 (r := (.putfield 58, 3, 11, 22, 57352)) rfl rfl).trans (congrArg (mq_k4 d mj_m231 127 ls) (mq_pf_eq rfl rfl))
theorem s231_127 {d : Nat} {ls : mj_L} {st : List Value} {M : mj_H} : mj_Rn d mj_m231 127 ls st M = mq_k0 d mj_m231 128 ls M (mj_lda (mj_lk ls 0) st) := mj_R0 (r := (.aload_n 0, 1, 0, 0, 0)) rfl rfl
theorem s231_128 {d : Nat} {ls : mj_L} {st : List Value} {M : mj_H} : mj_Rn d mj_m231 128 ls st M = mj_Rn d mj_m231 129 ls (.int 3 :: st) M := mj_R0 (r := (.iconst 3, 1, 0, 0, 0)) rfl rfl
theorem s231_129 {d : Nat} {ls : mj_L} {st : List Value} {M : mj_H} : mj_Rn d mj_m231 129 ls st M = mq_k4 d mj_m231 131 ls (mj_hw (.newarray .int, 2, 1000, 0, 4140) st M) := mj_R4 (r := (.newarray .int, 2, 1000, 0, 4140)) rfl rfl
theorem s231_131 {d : Nat} {ls : mj_L} {st : List Value} {M : mj_H} : mj_Rn d mj_m231 131 ls st M = mq_k4 d mj_m231 134 ls (mq_pf 11 23 2 st M) := (mj_R4 (r := (.putfield 61, 3, 11, 23, 57354)) rfl rfl).trans (congrArg (mq_k4 d mj_m231 134 ls) (mq_pf_eq rfl rfl))
theorem s231_134 {d : Nat} {ls : mj_L} {st : List Value} {M : mj_H} : mj_Rn d mj_m231 134 ls st M = mq_k0 d mj_m231 135 ls M (mj_lda (mj_lk ls 0) st) := mj_R0 (r := (.aload_n 0, 1, 0, 0, 0)) rfl rfl
theorem s231_135 {d : Nat} {ls : mj_L} {st : List Value} {M : mj_H} : mj_Rn d mj_m231 135 ls st M = mj_Rn d mj_m231 136 ls (.int 3 :: st) M := mj_R0 (r := (.iconst 3, 1, 0, 0, 0)) rfl rfl
theorem s231_136 {d : Nat} {ls : mj_L} {st : List Value} {M : mj_H} : mj_Rn d mj_m231 136 ls st M = mq_k4 d mj_m231 138 ls (mj_hw (.newarray .int, 2, 1000, 0, 4140) st M) := mj_R4 (r := (.newarray .int, 2, 1000, 0, 4140)) rfl rfl
theorem s231_138 {d : Nat} {ls : mj_L} {st : List Value} {M : mj_H} : mj_Rn d mj_m231 138 ls st M = mq_k4 d mj_m231 141 ls (mq_pf 11 24 2 st M) := (mj_R4 (r := (.putfield 64, 3, 11, 24, 57356)) rfl rfl).trans (congrArg (mq_k4 d mj_m231 141 ls) (mq_pf_eq rfl rfl))
theorem s231_141 {d : Nat} {ls : mj_L} {st : List Value} {M : mj_H} : mj_Rn d mj_m231 141 ls st M = mq_k0 d mj_m231 142 ls M (mj_lda (mj_lk ls 0) st) := mj_R0 (r := (.aload_n 0, 1, 0, 0, 0)) rfl rfl
theorem s231_142 {d : Nat} {ls : mj_L} {st : List Value} {M : mj_H} : mj_Rn d mj_m231 142 ls st M = mj_Rn d mj_m231 143 ls (.int 3 :: st) M := mj_R0 (r := (.iconst 3, 1, 0, 0, 0)) rfl rfl
theorem s231_143 {d : Nat} {ls : mj_L} {st : List Value} {M : mj_H} : mj_Rn d mj_m231 143 ls st M = mq_k4 d mj_m231 145 ls (mj_hw (.newarray .int, 2, 1000, 0, 4140) st M) := mj_R4 (r := (.newarray .int, 2, 1000, 0, 4140)) rfl rfl
theorem s231_145 {d : Nat} {ls : mj_L} {st : List Value} {M : mj_H} : mj_Rn d mj_m231 145 ls st M = mq_k4 d mj_m231 148 ls (mq_pf 11 25 2 st M) := (mj_R4 (r := (.putfield 67, 3, 11, 25, 57358)) rfl rfl).trans (congrArg (mq_k4 d mj_m231 148 ls) (mq_pf_eq rfl rfl))
theorem s231_148 {d : Nat} {ls : mj_L} {st : List Value} {M : mj_H} : mj_Rn d mj_m231 148 ls st M = mq_k0 d mj_m231 149 ls M (mj_lda (mj_lk ls 0) st) := mj_R0 (r := (.aload_n 0, 1, 0, 0, 0)) rfl rfl
theorem s231_149 {d : Nat} {ls : mj_L} {st : List Value} {M : mj_H} : mj_Rn d mj_m231 149 ls st M = mj_Rn d mj_m231 150 ls (.int 3 :: st) M := mj_R0 (r := (.iconst 3, 1, 0, 0, 0)) rfl rfl
theorem s231_150 {d : Nat} {ls : mj_L} {st : List Value} {M : mj_H} : mj_Rn d mj_m231 150 ls st M = mq_k4 d mj_m231 152 ls (mj_hw (.newarray .int, 2, 1000, 0, 4140) st M) := mj_R4 (r := (.newarray .int, 2, 1000, 0, 4140)) rfl rfl
theorem s231_152 {d : Nat} {ls : mj_L} {st : List Value} {M : mj_H} : mj_Rn d mj_m231 152 ls st M = mq_k4 d mj_m231 155 ls (mq_pf 11 26 2 st M) := (mj_R4 (r := (.putfield 70, 3, 11, 26, 57360)) rfl rfl).trans (congrArg (mq_k4 d mj_m231 155 ls) (mq_pf_eq rfl rfl))
theorem s231_155 {d : Nat} {ls : mj_L} {st : List Value} {M : mj_H} : mj_Rn d mj_m231 155 ls st M = mq_k0 d mj_m231 156 ls M (mj_lda (mj_lk ls 0) st) := mj_R0 (r := (.aload_n 0, 1, 0, 0, 0)) rfl rfl
theorem s231_156 {d : Nat} {ls : mj_L} {st : List Value} {M : mj_H} : mj_Rn d mj_m231 156 ls st M = mj_Rn d mj_m231 157 ls (.int 3 :: st) M := mj_R0 (r := (.iconst 3, 1, 0, 0, 0)) rfl rfl
theorem s231_157 {d : Nat} {ls : mj_L} {st : List Value} {M : mj_H} : mj_Rn d mj_m231 157 ls st M = mq_k4 d mj_m231 159 ls (mj_hw (.newarray .int, 2, 1000, 0, 4140) st M) := mj_R4 (r := (.newarray .int, 2, 1000, 0, 4140)) rfl rfl
theorem s231_159 {d : Nat} {ls : mj_L} {st : List Value} {M : mj_H} : mj_Rn d mj_m231 159 ls st M = mq_k4 d mj_m231 162 ls (mq_pf 11 27 2 st M) := (mj_R4 (r := (.putfield 73, 3, 11, 27, 57362)) rfl rfl).trans (congrArg (mq_k4 d mj_m231 162 ls) (mq_pf_eq rfl rfl))
theorem s231_162 {d : Nat} {ls : mj_L} {st : List Value} {M : mj_H} : mj_Rn d mj_m231 162 ls st M = mq_k0 d mj_m231 163 ls M (mj_lda (mj_lk ls 0) st) := mj_R0 (r := (.aload_n 0, 1, 0, 0, 0)) rfl rfl
theorem s231_163 {d : Nat} {ls : mj_L} {st : List Value} {M : mj_H} : mj_Rn d mj_m231 163 ls st M = mj_Rn d mj_m231 165 ls (.int 36 :: st) M := mj_R0 (r := (.bipush 36, 2, 0, 0, 0)) rfl rfl
theorem s231_165 {d : Nat} {ls : mj_L} {st : List Value} {M : mj_H} : mj_Rn d mj_m231 165 ls st M = mq_k4 d mj_m231 167 ls (mj_hw (.newarray .int, 2, 1000, 0, 4140) st M) := mj_R4 (r := (.newarray .int, 2, 1000, 0, 4140)) rfl rfl
theorem s231_167 {d : Nat} {ls : mj_L} {st : List Value} {M : mj_H} : mj_Rn d mj_m231 167 ls st M = mq_k4 d mj_m231 170 ls (mq_pf 11 28 2 st M) := (mj_R4 (r := (.putfield 76, 3, 11, 28, 57364)) rfl rfl).trans (congrArg (mq_k4 d mj_m231 170 ls) (mq_pf_eq rfl rfl))
theorem s231_170 {d : Nat} {ls : mj_L} {st : List Value} {M : mj_H} : mj_Rn d mj_m231 170 ls st M = mq_k0 d mj_m231 171 ls M (mj_lda (mj_lk ls 0) st) := mj_R0 (r := (.aload_n 0, 1, 0, 0, 0)) rfl rfl
theorem s231_171 {d : Nat} {ls : mj_L} {st : List Value} {M : mj_H} : mj_Rn d mj_m231 171 ls st M = mj_Rn d mj_m231 173 ls (.int 36 :: st) M := mj_R0 (r := (.bipush 36, 2, 0, 0, 0)) rfl rfl
theorem s231_173 {d : Nat} {ls : mj_L} {st : List Value} {M : mj_H} : mj_Rn d mj_m231 173 ls st M = mq_k4 d mj_m231 175 ls (mj_hw (.newarray .int, 2, 1000, 0, 4140) st M) := mj_R4 (r := (.newarray .int, 2, 1000, 0, 4140)) rfl rfl
theorem s231_175 {d : Nat} {ls : mj_L} {st : List Value} {M : mj_H} : mj_Rn d mj_m231 175 ls st M = mq_k4 d mj_m231 178 ls (mq_pf 11 29 2 st M) := (mj_R4 (r := (.putfield 79, 3, 11, 29, 57366)) rfl rfl).trans (congrArg (mq_k4 d mj_m231 178 ls) (mq_pf_eq rfl rfl))
theorem s231_178 {d : Nat} {ls : mj_L} {st : List Value} {M : mj_H} : mj_Rn d mj_m231 178 ls st M = mq_k0 d mj_m231 179 ls M (mj_lda (mj_lk ls 0) st) := mj_R0 (r := (.aload_n 0, 1, 0, 0, 0)) rfl rfl
theorem s231_179 {d : Nat} {ls : mj_L} {st : List Value} {M : mj_H} : mj_Rn d mj_m231 179 ls st M = mj_Rn d mj_m231 181 ls (.int 36 :: st) M := mj_R0 (r := (.bipush 36, 2, 0, 0, 0)) rfl rfl
theorem s231_181 {d : Nat} {ls : mj_L} {st : List Value} {M : mj_H} : mj_Rn d mj_m231 181 ls st M = mq_k4 d mj_m231 183 ls (mj_hw (.newarray .int, 2, 1000, 0, 4140) st M) := mj_R4 (r := (.newarray .int, 2, 1000, 0, 4140)) rfl rfl
theorem s231_183 {d : Nat} {ls : mj_L} {st : List Value} {M : mj_H} : mj_Rn d mj_m231 183 ls st M = mq_k4 d mj_m231 186 ls (mq_pf 11 30 2 st M) := (mj_R4 (r := (.putfield 82, 3, 11, 30, 57368)) rfl rfl).trans (congrArg (mq_k4 d mj_m231 186 ls) (mq_pf_eq rfl rfl))
theorem s231_186 {d : Nat} {ls : mj_L} {st : List Value} {M : mj_H} : mj_Rn d mj_m231 186 ls st M = mq_k0 d mj_m231 187 ls M (mj_lda (mj_lk ls 0) st) := mj_R0 (r := (.aload_n 0, 1, 0, 0, 0)) rfl rfl
theorem s231_187 {d : Nat} {ls : mj_L} {st : List Value} {M : mj_H} : mj_Rn d mj_m231 187 ls st M = mj_Rn d mj_m231 189 ls (.int 36 :: st) M := mj_R0 (r := (.bipush 36, 2, 0, 0, 0)) rfl rfl
theorem s231_189 {d : Nat} {ls : mj_L} {st : List Value} {M : mj_H} : mj_Rn d mj_m231 189 ls st M = mq_k4 d mj_m231 191 ls (mj_hw (.newarray .int, 2, 1000, 0, 4140) st M) := mj_R4 (r := (.newarray .int, 2, 1000, 0, 4140)) rfl rfl
theorem s231_191 {d : Nat} {ls : mj_L} {st : List Value} {M : mj_H} : mj_Rn d mj_m231 191 ls st M = mq_k4 d mj_m231 194 ls (mq_pf 11 31 2 st M) := (mj_R4 (r := (.putfield 85, 3, 11, 31, 57370)) rfl rfl).trans (congrArg (mq_k4 d mj_m231 194 ls) (mq_pf_eq rfl rfl))
theorem s231_194 {d : Nat} {ls : mj_L} {st : List Value} {M : mj_H} : mj_Rn d mj_m231 194 ls st M = mq_k0 d mj_m231 195 ls M (mj_lda (mj_lk ls 0) st) := mj_R0 (r := (.aload_n 0, 1, 0, 0, 0)) rfl rfl
theorem s231_195 {d : Nat} {ls : mj_L} {st : List Value} {M : mj_H} : mj_Rn d mj_m231 195 ls st M = mj_Rn d mj_m231 197 ls (.int 36 :: st) M := mj_R0 (r := (.bipush 36, 2, 0, 0, 0)) rfl rfl
theorem s231_197 {d : Nat} {ls : mj_L} {st : List Value} {M : mj_H} : mj_Rn d mj_m231 197 ls st M = mq_k4 d mj_m231 199 ls (mj_hw (.newarray .int, 2, 1000, 0, 4140) st M) := mj_R4 (r := (.newarray .int, 2, 1000, 0, 4140)) rfl rfl
theorem s231_199 {d : Nat} {ls : mj_L} {st : List Value} {M : mj_H} : mj_Rn d mj_m231 199 ls st M = mq_k4 d mj_m231 202 ls (mq_pf 11 32 2 st M) := (mj_R4 (r := (.putfield 88, 3, 11, 32, 57372)) rfl rfl).trans (congrArg (mq_k4 d mj_m231 202 ls) (mq_pf_eq rfl rfl))
theorem s231_202 {d : Nat} {ls : mj_L} {st : List Value} {M : mj_H} : mj_Rn d mj_m231 202 ls st M = mq_k0 d mj_m231 203 ls M (mj_lda (mj_lk ls 0) st) := mj_R0 (r := (.aload_n 0, 1, 0, 0, 0)) rfl rfl
theorem s231_203 {d : Nat} {ls : mj_L} {st : List Value} {M : mj_H} : mj_Rn d mj_m231 203 ls st M = mj_Rn d mj_m231 206 ls (.int 288 :: st) M := mj_R0 (r := (.sipush 288, 3, 0, 0, 0)) rfl rfl
theorem s231_206 {d : Nat} {ls : mj_L} {st : List Value} {M : mj_H} : mj_Rn d mj_m231 206 ls st M = mq_k4 d mj_m231 208 ls (mj_hw (.newarray .int, 2, 1000, 0, 4140) st M) := mj_R4 (r := (.newarray .int, 2, 1000, 0, 4140)) rfl rfl
theorem s231_208 {d : Nat} {ls : mj_L} {st : List Value} {M : mj_H} : mj_Rn d mj_m231 208 ls st M = mq_k4 d mj_m231 211 ls (mq_pf 11 33 2 st M) := (mj_R4 (r := (.putfield 91, 3, 11, 33, 57374)) rfl rfl).trans (congrArg (mq_k4 d mj_m231 211 ls) (mq_pf_eq rfl rfl))
theorem s231_211 {d : Nat} {ls : mj_L} {st : List Value} {M : mj_H} : mj_Rn d mj_m231 211 ls st M = mq_k0 d mj_m231 212 ls M (mj_lda (mj_lk ls 0) st) := mj_R0 (r := (.aload_n 0, 1, 0, 0, 0)) rfl rfl
theorem s231_212 {d : Nat} {ls : mj_L} {st : List Value} {M : mj_H} : mj_Rn d mj_m231 212 ls st M = mj_Rn d mj_m231 213 ls (.int 3 :: st) M := mj_R0 (r := (.iconst 3, 1, 0, 0, 0)) rfl rfl
theorem s231_213 {d : Nat} {ls : mj_L} {st : List Value} {M : mj_H} : mj_Rn d mj_m231 213 ls st M = mq_k4 d mj_m231 215 ls (mj_hw (.newarray .int, 2, 1000, 0, 4140) st M) := mj_R4 (r := (.newarray .int, 2, 1000, 0, 4140)) rfl rfl
theorem s231_215 {d : Nat} {ls : mj_L} {st : List Value} {M : mj_H} : mj_Rn d mj_m231 215 ls st M = mq_k4 d mj_m231 218 ls (mq_pf 11 34 2 st M) := (mj_R4 (r := (.putfield 94, 3, 11, 34, 57376)) rfl rfl).trans (congrArg (mq_k4 d mj_m231 218 ls) (mq_pf_eq rfl rfl))
theorem s231_218 {d : Nat} {ls : mj_L} {st : List Value} {M : mj_H} : mj_Rn d mj_m231 218 ls st M = mq_k0 d mj_m231 219 ls M (mj_lda (mj_lk ls 0) st) := mj_R0 (r := (.aload_n 0, 1, 0, 0, 0)) rfl rfl
theorem s231_219 {d : Nat} {ls : mj_L} {st : List Value} {M : mj_H} : mj_Rn d mj_m231 219 ls st M = mj_Rn d mj_m231 220 ls (.int 3 :: st) M := mj_R0 (r := (.iconst 3, 1, 0, 0, 0)) rfl rfl
theorem s231_220 {d : Nat} {ls : mj_L} {st : List Value} {M : mj_H} : mj_Rn d mj_m231 220 ls st M = mq_k4 d mj_m231 222 ls (mj_hw (.newarray .int, 2, 1000, 0, 4140) st M) := mj_R4 (r := (.newarray .int, 2, 1000, 0, 4140)) rfl rfl
theorem s231_222 {d : Nat} {ls : mj_L} {st : List Value} {M : mj_H} : mj_Rn d mj_m231 222 ls st M = mq_k4 d mj_m231 225 ls (mq_pf 11 35 2 st M) := (mj_R4 (r := (.putfield 97, 3, 11, 35, 57378)) rfl rfl).trans (congrArg (mq_k4 d mj_m231 225 ls) (mq_pf_eq rfl rfl))
theorem s231_225 {d : Nat} {ls : mj_L} {st : List Value} {M : mj_H} : mj_Rn d mj_m231 225 ls st M = mq_k0 d mj_m231 226 ls M (mj_lda (mj_lk ls 0) st) := mj_R0 (r := (.aload_n 0, 1, 0, 0, 0)) rfl rfl
theorem s231_226 {d : Nat} {ls : mj_L} {st : List Value} {M : mj_H} : mj_Rn d mj_m231 226 ls st M = mj_Rn d mj_m231 227 ls (.int 3 :: st) M := mj_R0 (r := (.iconst 3, 1, 0, 0, 0)) rfl rfl
theorem s231_227 {d : Nat} {ls : mj_L} {st : List Value} {M : mj_H} : mj_Rn d mj_m231 227 ls st M = mq_k4 d mj_m231 229 ls (mj_hw (.newarray .int, 2, 1000, 0, 4140) st M) := mj_R4 (r := (.newarray .int, 2, 1000, 0, 4140)) rfl rfl
theorem s231_229 {d : Nat} {ls : mj_L} {st : List Value} {M : mj_H} : mj_Rn d mj_m231 229 ls st M = mq_k4 d mj_m231 232 ls (mq_pf 11 36 2 st M) := (mj_R4 (r := (.putfield 100, 3, 11, 36, 57380)) rfl rfl).trans (congrArg (mq_k4 d mj_m231 232 ls) (mq_pf_eq rfl rfl))
theorem s231_232 {d : Nat} {ls : mj_L} {st : List Value} {M : mj_H} : mj_Rn d mj_m231 232 ls st M = mq_k0 d mj_m231 233 ls M (mj_lda (mj_lk ls 0) st) := mj_R0 (r := (.aload_n 0, 1, 0, 0, 0)) rfl rfl
theorem s231_233 {d : Nat} {ls : mj_L} {st : List Value} {M : mj_H} : mj_Rn d mj_m231 233 ls st M = mj_Rn d mj_m231 234 ls (.int 3 :: st) M := mj_R0 (r := (.iconst 3, 1, 0, 0, 0)) rfl rfl
theorem s231_234 {d : Nat} {ls : mj_L} {st : List Value} {M : mj_H} : mj_Rn d mj_m231 234 ls st M = mq_k4 d mj_m231 236 ls (mj_hw (.newarray .boolean, 2, 1002, 0, 32781) st M) := mj_R4 (r := (.newarray .boolean, 2, 1002, 0, 32781)) rfl rfl
theorem s231_236 {d : Nat} {ls : mj_L} {st : List Value} {M : mj_H} : mj_Rn d mj_m231 236 ls st M = mq_k4 d mj_m231 239 ls (mq_pf 11 37 2 st M) := (mj_R4 (r := (.putfield 103, 3, 11, 37, 57382)) rfl rfl).trans (congrArg (mq_k4 d mj_m231 239 ls) (mq_pf_eq rfl rfl))
theorem s231_239 {d : Nat} {ls : mj_L} {st : List Value} {M : mj_H} : mj_Rn d mj_m231 239 ls st M = mq_k0 d mj_m231 240 ls M (mj_lda (mj_lk ls 0) st) := mj_R0 (r := (.aload_n 0, 1, 0, 0, 0)) rfl rfl
theorem s231_240 {d : Nat} {ls : mj_L} {st : List Value} {M : mj_H} : mj_Rn d mj_m231 240 ls st M = mj_Rn d mj_m231 241 ls (.int 3 :: st) M := mj_R0 (r := (.iconst 3, 1, 0, 0, 0)) rfl rfl
theorem s231_241 {d : Nat} {ls : mj_L} {st : List Value} {M : mj_H} : mj_Rn d mj_m231 241 ls st M = mq_k4 d mj_m231 243 ls (mj_hw (.newarray .int, 2, 1000, 0, 4140) st M) := mj_R4 (r := (.newarray .int, 2, 1000, 0, 4140)) rfl rfl
theorem s231_243 {d : Nat} {ls : mj_L} {st : List Value} {M : mj_H} : mj_Rn d mj_m231 243 ls st M = mq_k4 d mj_m231 246 ls (mq_pf 11 38 2 st M) := (mj_R4 (r := (.putfield 106, 3, 11, 38, 57384)) rfl rfl).trans (congrArg (mq_k4 d mj_m231 246 ls) (mq_pf_eq rfl rfl))
theorem s231_246 {d : Nat} {ls : mj_L} {st : List Value} {M : mj_H} : mj_Rn d mj_m231 246 ls st M = mq_k0 d mj_m231 247 ls M (mj_lda (mj_lk ls 0) st) := mj_R0 (r := (.aload_n 0, 1, 0, 0, 0)) rfl rfl
theorem s231_247 {d : Nat} {ls : mj_L} {st : List Value} {M : mj_H} : mj_Rn d mj_m231 247 ls st M = mj_Rn d mj_m231 248 ls (.int 3 :: st) M := mj_R0 (r := (.iconst 3, 1, 0, 0, 0)) rfl rfl
theorem s231_248 {d : Nat} {ls : mj_L} {st : List Value} {M : mj_H} : mj_Rn d mj_m231 248 ls st M = mq_k4 d mj_m231 250 ls (mj_hw (.newarray .int, 2, 1000, 0, 4140) st M) := mj_R4 (r := (.newarray .int, 2, 1000, 0, 4140)) rfl rfl
theorem s231_250 {d : Nat} {ls : mj_L} {st : List Value} {M : mj_H} : mj_Rn d mj_m231 250 ls st M = mq_k4 d mj_m231 253 ls (mq_pf 11 39 2 st M) := (mj_R4 (r := (.putfield 109, 3, 11, 39, 57386)) rfl rfl).trans (congrArg (mq_k4 d mj_m231 253 ls) (mq_pf_eq rfl rfl))
theorem s231_253 {d : Nat} {ls : mj_L} {st : List Value} {M : mj_H} : mj_Rn d mj_m231 253 ls st M = mq_k0 d mj_m231 254 ls M (mj_lda (mj_lk ls 0) st) := mj_R0 (r := (.aload_n 0, 1, 0, 0, 0)) rfl rfl
theorem s231_254 {d : Nat} {ls : mj_L} {st : List Value} {M : mj_H} : mj_Rn d mj_m231 254 ls st M = mj_Rn d mj_m231 256 ls (.int 36 :: st) M := mj_R0 (r := (.bipush 36, 2, 0, 0, 0)) rfl rfl
theorem s231_256 {d : Nat} {ls : mj_L} {st : List Value} {M : mj_H} : mj_Rn d mj_m231 256 ls st M = mq_k4 d mj_m231 258 ls (mj_hw (.newarray .int, 2, 1000, 0, 4140) st M) := mj_R4 (r := (.newarray .int, 2, 1000, 0, 4140)) rfl rfl
theorem s231_258 {d : Nat} {ls : mj_L} {st : List Value} {M : mj_H} : mj_Rn d mj_m231 258 ls st M = mq_k4 d mj_m231 261 ls (mq_pf 11 40 2 st M) := (mj_R4 (r := (.putfield 112, 3, 11, 40, 57388)) rfl rfl).trans (congrArg (mq_k4 d mj_m231 261 ls) (mq_pf_eq rfl rfl))
theorem s231_261 {d : Nat} {ls : mj_L} {st : List Value} {M : mj_H} : mj_Rn d mj_m231 261 ls st M = mq_k0 d mj_m231 262 ls M (mj_lda (mj_lk ls 0) st) := mj_R0 (r := (.aload_n 0, 1, 0, 0, 0)) rfl rfl
theorem s231_262 {d : Nat} {ls : mj_L} {st : List Value} {M : mj_H} : mj_Rn d mj_m231 262 ls st M = mj_Rn d mj_m231 263 ls (.int 3 :: st) M := mj_R0 (r := (.iconst 3, 1, 0, 0, 0)) rfl rfl
theorem s231_263 {d : Nat} {ls : mj_L} {st : List Value} {M : mj_H} : mj_Rn d mj_m231 263 ls st M = mq_k4 d mj_m231 265 ls (mj_hw (.newarray .int, 2, 1000, 0, 4140) st M) := mj_R4 (r := (.newarray .int, 2, 1000, 0, 4140)) rfl rfl
theorem s231_265 {d : Nat} {ls : mj_L} {st : List Value} {M : mj_H} : mj_Rn d mj_m231 265 ls st M = mq_k4 d mj_m231 268 ls (mq_pf 11 41 2 st M) := (mj_R4 (r := (.putfield 115, 3, 11, 41, 57390)) rfl rfl).trans (congrArg (mq_k4 d mj_m231 268 ls) (mq_pf_eq rfl rfl))
theorem s231_268 {d : Nat} {ls : mj_L} {st : List Value} {M : mj_H} : mj_Rn d mj_m231 268 ls st M = mq_k0 d mj_m231 269 ls M (mj_lda (mj_lk ls 0) st) := mj_R0 (r := (.aload_n 0, 1, 0, 0, 0)) rfl rfl
theorem s231_269 {d : Nat} {ls : mj_L} {st : List Value} {M : mj_H} : mj_Rn d mj_m231 269 ls st M = mj_Rn d mj_m231 270 ls (.int 3 :: st) M := mj_R0 (r := (.iconst 3, 1, 0, 0, 0)) rfl rfl
theorem s231_270 {d : Nat} {ls : mj_L} {st : List Value} {M : mj_H} : mj_Rn d mj_m231 270 ls st M = mq_k4 d mj_m231 272 ls (mj_hw (.newarray .int, 2, 1000, 0, 4140) st M) := mj_R4 (r := (.newarray .int, 2, 1000, 0, 4140)) rfl rfl
theorem s231_272 {d : Nat} {ls : mj_L} {st : List Value} {M : mj_H} : mj_Rn d mj_m231 272 ls st M = mq_k4 d mj_m231 275 ls (mq_pf 11 42 2 st M) := (mj_R4 (r := (.putfield 118, 3, 11, 42, 57392)) rfl rfl).trans (congrArg (mq_k4 d mj_m231 275 ls) (mq_pf_eq rfl rfl))
theorem s231_275 {d : Nat} {ls : mj_L} {st : List Value} {M : mj_H} : mj_Rn d mj_m231 275 ls st M = mq_k0 d mj_m231 276 ls M (mj_lda (mj_lk ls 0) st) := mj_R0 (r := (.aload_n 0, 1, 0, 0, 0)) rfl rfl
theorem s231_276 {d : Nat} {ls : mj_L} {st : List Value} {M : mj_H} : mj_Rn d mj_m231 276 ls st M = mj_Rn d mj_m231 278 ls (.int 32 :: st) M := mj_R0 (r := (.bipush 32, 2, 0, 0, 0)) rfl rfl
theorem s231_278 {d : Nat} {ls : mj_L} {st : List Value} {M : mj_H} : mj_Rn d mj_m231 278 ls st M = mq_k4 d mj_m231 280 ls (mj_hw (.newarray .int, 2, 1000, 0, 4140) st M) := mj_R4 (r := (.newarray .int, 2, 1000, 0, 4140)) rfl rfl
theorem s231_280 {d : Nat} {ls : mj_L} {st : List Value} {M : mj_H} : mj_Rn d mj_m231 280 ls st M = mq_k4 d mj_m231 283 ls (mq_pf 11 43 2 st M) := (mj_R4 (r := (.putfield 121, 3, 11, 43, 57394)) rfl rfl).trans (congrArg (mq_k4 d mj_m231 283 ls) (mq_pf_eq rfl rfl))
theorem s231_283 {d : Nat} {ls : mj_L} {st : List Value} {M : mj_H} : mj_Rn d mj_m231 283 ls st M = mq_k0 d mj_m231 284 ls M (mj_lda (mj_lk ls 0) st) := mj_R0 (r := (.aload_n 0, 1, 0, 0, 0)) rfl rfl
theorem s231_284 {d : Nat} {ls : mj_L} {st : List Value} {M : mj_H} : mj_Rn d mj_m231 284 ls st M = mj_Rn d mj_m231 286 ls (.int 32 :: st) M := mj_R0 (r := (.bipush 32, 2, 0, 0, 0)) rfl rfl
theorem s231_286 {d : Nat} {ls : mj_L} {st : List Value} {M : mj_H} : mj_Rn d mj_m231 286 ls st M = mq_k4 d mj_m231 288 ls (mj_hw (.newarray .int, 2, 1000, 0, 4140) st M) := mj_R4 (r := (.newarray .int, 2, 1000, 0, 4140)) rfl rfl
theorem s231_288 {d : Nat} {ls : mj_L} {st : List Value} {M : mj_H} : mj_Rn d mj_m231 288 ls st M = mq_k4 d mj_m231 291 ls (mq_pf 11 44 2 st M) := (mj_R4 (r := (.putfield 124, 3, 11, 44, 57396)) rfl rfl).trans (congrArg (mq_k4 d mj_m231 291 ls) (mq_pf_eq rfl rfl))
theorem s231_291 {d : Nat} {ls : mj_L} {st : List Value} {M : mj_H} : mj_Rn d mj_m231 291 ls st M = mq_k0 d mj_m231 292 ls M (mj_lda (mj_lk ls 0) st) := mj_R0 (r := (.aload_n 0, 1, 0, 0, 0)) rfl rfl
theorem s231_292 {d : Nat} {ls : mj_L} {st : List Value} {M : mj_H} : mj_Rn d mj_m231 292 ls st M = mj_Rn d mj_m231 295 ls (.int 640 :: st) M := mj_R0 (r := (.sipush 640, 3, 0, 0, 0)) rfl rfl
theorem s231_295 {d : Nat} {ls : mj_L} {st : List Value} {M : mj_H} : mj_Rn d mj_m231 295 ls st M = mq_k4 d mj_m231 297 ls (mj_hw (.newarray .int, 2, 1000, 0, 4140) st M) := mj_R4 (r := (.newarray .int, 2, 1000, 0, 4140)) rfl rfl
theorem s231_297 {d : Nat} {ls : mj_L} {st : List Value} {M : mj_H} : mj_Rn d mj_m231 297 ls st M = mq_k4 d mj_m231 300 ls (mq_pf 11 46 2 st M) := (mj_R4 (r := (.putfield 127, 3, 11, 46, 57400)) rfl rfl).trans (congrArg (mq_k4 d mj_m231 300 ls) (mq_pf_eq rfl rfl))
theorem s231_300 {d : Nat} {ls : mj_L} {st : List Value} {M : mj_H} : mj_Rn d mj_m231 300 ls st M = mq_k0 d mj_m231 301 ls M (mj_lda (mj_lk ls 0) st) := mj_R0 (r := (.aload_n 0, 1, 0, 0, 0)) rfl rfl
theorem s231_301 {d : Nat} {ls : mj_L} {st : List Value} {M : mj_H} : mj_Rn d mj_m231 301 ls st M = mj_Rn d mj_m231 302 ls (.int 5 :: st) M := mj_R0 (r := (.iconst 5, 1, 0, 0, 0)) rfl rfl
theorem s231_302 {d : Nat} {ls : mj_L} {st : List Value} {M : mj_H} : mj_Rn d mj_m231 302 ls st M = mq_k4 d mj_m231 304 ls (mj_hw (.newarray .boolean, 2, 1002, 0, 32781) st M) := mj_R4 (r := (.newarray .boolean, 2, 1002, 0, 32781)) rfl rfl
theorem s231_304 {d : Nat} {ls : mj_L} {st : List Value} {M : mj_H} : mj_Rn d mj_m231 304 ls st M = mq_k4 d mj_m231 307 ls (mq_pf 11 48 2 st M) := (mj_R4 (r := (.putfield 130, 3, 11, 48, 57404)) rfl rfl).trans (congrArg (mq_k4 d mj_m231 307 ls) (mq_pf_eq rfl rfl))
theorem s231_307 {d : Nat} {ls : mj_L} {st : List Value} {M : mj_H} : mj_Rn d mj_m231 307 ls st M = mq_k0 d mj_m231 308 ls M (mj_lda (mj_lk ls 0) st) := mj_R0 (r := (.aload_n 0, 1, 0, 0, 0)) rfl rfl
theorem s231_308 {d : Nat} {ls : mj_L} {st : List Value} {M : mj_H} : mj_Rn d mj_m231 308 ls st M = mj_Rn d mj_m231 309 ls (.int 5 :: st) M := mj_R0 (r := (.iconst 5, 1, 0, 0, 0)) rfl rfl
theorem s231_309 {d : Nat} {ls : mj_L} {st : List Value} {M : mj_H} : mj_Rn d mj_m231 309 ls st M = mq_k4 d mj_m231 311 ls (mj_hw (.newarray .long, 2, 1003, 0, 32782) st M) := mj_R4 (r := (.newarray .long, 2, 1003, 0, 32782)) rfl rfl
theorem s231_311 {d : Nat} {ls : mj_L} {st : List Value} {M : mj_H} : mj_Rn d mj_m231 311 ls st M = mq_k4 d mj_m231 314 ls (mq_pf 11 49 2 st M) := (mj_R4 (r := (.putfield 133, 3, 11, 49, 57406)) rfl rfl).trans (congrArg (mq_k4 d mj_m231 314 ls) (mq_pf_eq rfl rfl))
theorem s231_314 {d : Nat} {ls : mj_L} {st : List Value} {M : mj_H} : mj_Rn d mj_m231 314 ls st M = mq_k0 d mj_m231 315 ls M (mj_lda (mj_lk ls 0) st) := mj_R0 (r := (.aload_n 0, 1, 0, 0, 0)) rfl rfl
theorem s231_315 {d : Nat} {ls : mj_L} {st : List Value} {M : mj_H} : mj_Rn d mj_m231 315 ls st M = mj_Rn d mj_m231 316 ls (.int 5 :: st) M := mj_R0 (r := (.iconst 5, 1, 0, 0, 0)) rfl rfl
theorem s231_316 {d : Nat} {ls : mj_L} {st : List Value} {M : mj_H} : mj_Rn d mj_m231 316 ls st M = mq_k4 d mj_m231 318 ls (mj_hw (.newarray .int, 2, 1000, 0, 4140) st M) := mj_R4 (r := (.newarray .int, 2, 1000, 0, 4140)) rfl rfl
theorem s231_318 {d : Nat} {ls : mj_L} {st : List Value} {M : mj_H} : mj_Rn d mj_m231 318 ls st M = mq_k4 d mj_m231 321 ls (mq_pf 11 50 2 st M) := (mj_R4 (r := (.putfield 137, 3, 11, 50, 57408)) rfl rfl).trans (congrArg (mq_k4 d mj_m231 321 ls) (mq_pf_eq rfl rfl))
theorem s231_321 {d : Nat} {ls : mj_L} {st : List Value} {M : mj_H} : mj_Rn d mj_m231 321 ls st M = mq_k0 d mj_m231 322 ls M (mj_lda (mj_lk ls 0) st) := mj_R0 (r := (.aload_n 0, 1, 0, 0, 0)) rfl rfl
theorem s231_322 {d : Nat} {ls : mj_L} {st : List Value} {M : mj_H} : mj_Rn d mj_m231 322 ls st M = mj_Rn d mj_m231 323 ls (.int 5 :: st) M := mj_R0 (r := (.iconst 5, 1, 0, 0, 0)) rfl rfl
theorem s231_323 {d : Nat} {ls : mj_L} {st : List Value} {M : mj_H} : mj_Rn d mj_m231 323 ls st M = mq_k4 d mj_m231 325 ls (mj_hw (.newarray .int, 2, 1000, 0, 4140) st M) := mj_R4 (r := (.newarray .int, 2, 1000, 0, 4140)) rfl rfl
theorem s231_325 {d : Nat} {ls : mj_L} {st : List Value} {M : mj_H} : mj_Rn d mj_m231 325 ls st M = mq_k4 d mj_m231 328 ls (mq_pf 11 51 2 st M) := (mj_R4 (r := (.putfield 140, 3, 11, 51, 57410)) rfl rfl).trans (congrArg (mq_k4 d mj_m231 328 ls) (mq_pf_eq rfl rfl))
theorem s231_328 {d : Nat} {ls : mj_L} {st : List Value} {M : mj_H} : mj_Rn d mj_m231 328 ls st M = mq_k0 d mj_m231 329 ls M (mj_lda (mj_lk ls 0) st) := mj_R0 (r := (.aload_n 0, 1, 0, 0, 0)) rfl rfl
theorem s231_329 {d : Nat} {ls : mj_L} {st : List Value} {M : mj_H} : mj_Rn d mj_m231 329 ls st M = mj_Rn d mj_m231 331 ls (.int 10 :: st) M := mj_R0 (r := (.bipush 10, 2, 0, 0, 0)) rfl rfl
theorem s231_331 {d : Nat} {ls : mj_L} {st : List Value} {M : mj_H} : mj_Rn d mj_m231 331 ls st M = mq_k4 d mj_m231 333 ls (mj_hw (.newarray .int, 2, 1000, 0, 4140) st M) := mj_R4 (r := (.newarray .int, 2, 1000, 0, 4140)) rfl rfl
theorem s231_333 {d : Nat} {ls : mj_L} {st : List Value} {M : mj_H} : mj_Rn d mj_m231 333 ls st M = mq_k0 d mj_m231 334 ls M (mj_pu .dup ls st) := mj_R0 (r := (.dup, 1, 0, 0, 0)) rfl rfl
theorem s231_334 {d : Nat} {ls : mj_L} {st : List Value} {M : mj_H} : mj_Rn d mj_m231 334 ls st M = mj_Rn d mj_m231 335 ls (.int 0 :: st) M := mj_R0 (r := (.iconst 0, 1, 0, 0, 0)) rfl rfl
theorem s231_335 {d : Nat} {ls : mj_L} {st : List Value} {M : mj_H} : mj_Rn d mj_m231 335 ls st M = mj_Rn d mj_m231 337 ls (.int 112 :: st) M := mj_R0 (r := (.bipush 112, 2, 0, 0, 0)) rfl rfl
theorem s231_337 {d : Nat} {ls : mj_L} {st : List Value} {M : mj_H} : mj_Rn d mj_m231 337 ls st M = mq_k4 d mj_m231 338 ls (mj_hw (.iastore, 1, 0, 0, 0) st M) := mj_R4 (r := (.iastore, 1, 0, 0, 0)) rfl rfl
theorem s231_338 {d : Nat} {ls : mj_L} {st : List Value} {M : mj_H} : mj_Rn d mj_m231 338 ls st M = mq_k0 d mj_m231 339 ls M (mj_pu .dup ls st) := mj_R0 (r := (.dup, 1, 0, 0, 0)) rfl rfl
theorem s231_339 {d : Nat} {ls : mj_L} {st : List Value} {M : mj_H} : mj_Rn d mj_m231 339 ls st M = mj_Rn d mj_m231 340 ls (.int 1 :: st) M := mj_R0 (r := (.iconst 1, 1, 0, 0, 0)) rfl rfl
theorem s231_340 {d : Nat} {ls : mj_L} {st : List Value} {M : mj_H} : mj_Rn d mj_m231 340 ls st M = mj_Rn d mj_m231 342 ls (.int 117 :: st) M := mj_R0 (r := (.bipush 117, 2, 0, 0, 0)) rfl rfl
theorem s231_342 {d : Nat} {ls : mj_L} {st : List Value} {M : mj_H} : mj_Rn d mj_m231 342 ls st M = mq_k4 d mj_m231 343 ls (mj_hw (.iastore, 1, 0, 0, 0) st M) := mj_R4 (r := (.iastore, 1, 0, 0, 0)) rfl rfl
theorem s231_343 {d : Nat} {ls : mj_L} {st : List Value} {M : mj_H} : mj_Rn d mj_m231 343 ls st M = mq_k0 d mj_m231 344 ls M (mj_pu .dup ls st) := mj_R0 (r := (.dup, 1, 0, 0, 0)) rfl rfl
theorem s231_344 {d : Nat} {ls : mj_L} {st : List Value} {M : mj_H} : mj_Rn d mj_m231 344 ls st M = mj_Rn d mj_m231 345 ls (.int 2 :: st) M := mj_R0 (r := (.iconst 2, 1, 0, 0, 0)) rfl rfl
theorem s231_345 {d : Nat} {ls : mj_L} {st : List Value} {M : mj_H} : mj_Rn d mj_m231 345 ls st M = mj_Rn d mj_m231 347 ls (.int 98 :: st) M := mj_R0 (r := (.bipush 98, 2, 0, 0, 0)) rfl rfl
theorem s231_347 {d : Nat} {ls : mj_L} {st : List Value} {M : mj_H} : mj_Rn d mj_m231 347 ls st M = mq_k4 d mj_m231 348 ls (mj_hw (.iastore, 1, 0, 0, 0) st M) := mj_R4 (r := (.iastore, 1, 0, 0, 0)) rfl rfl
theorem s231_348 {d : Nat} {ls : mj_L} {st : List Value} {M : mj_H} : mj_Rn d mj_m231 348 ls st M = mq_k0 d mj_m231 349 ls M (mj_pu .dup ls st) := mj_R0 (r := (.dup, 1, 0, 0, 0)) rfl rfl
theorem s231_349 {d : Nat} {ls : mj_L} {st : List Value} {M : mj_H} : mj_Rn d mj_m231 349 ls st M = mj_Rn d mj_m231 350 ls (.int 3 :: st) M := mj_R0 (r := (.iconst 3, 1, 0, 0, 0)) rfl rfl
theorem s231_350 {d : Nat} {ls : mj_L} {st : List Value} {M : mj_H} : mj_Rn d mj_m231 350 ls st M = mj_Rn d mj_m231 352 ls (.int 108 :: st) M := mj_R0 (r := (.bipush 108, 2, 0, 0, 0)) rfl rfl
theorem s231_352 {d : Nat} {ls : mj_L} {st : List Value} {M : mj_H} : mj_Rn d mj_m231 352 ls st M = mq_k4 d mj_m231 353 ls (mj_hw (.iastore, 1, 0, 0, 0) st M) := mj_R4 (r := (.iastore, 1, 0, 0, 0)) rfl rfl
theorem s231_353 {d : Nat} {ls : mj_L} {st : List Value} {M : mj_H} : mj_Rn d mj_m231 353 ls st M = mq_k0 d mj_m231 354 ls M (mj_pu .dup ls st) := mj_R0 (r := (.dup, 1, 0, 0, 0)) rfl rfl
theorem s231_354 {d : Nat} {ls : mj_L} {st : List Value} {M : mj_H} : mj_Rn d mj_m231 354 ls st M = mj_Rn d mj_m231 355 ls (.int 4 :: st) M := mj_R0 (r := (.iconst 4, 1, 0, 0, 0)) rfl rfl
theorem s231_355 {d : Nat} {ls : mj_L} {st : List Value} {M : mj_H} : mj_Rn d mj_m231 355 ls st M = mj_Rn d mj_m231 357 ls (.int 105 :: st) M := mj_R0 (r := (.bipush 105, 2, 0, 0, 0)) rfl rfl
theorem s231_357 {d : Nat} {ls : mj_L} {st : List Value} {M : mj_H} : mj_Rn d mj_m231 357 ls st M = mq_k4 d mj_m231 358 ls (mj_hw (.iastore, 1, 0, 0, 0) st M) := mj_R4 (r := (.iastore, 1, 0, 0, 0)) rfl rfl
theorem s231_358 {d : Nat} {ls : mj_L} {st : List Value} {M : mj_H} : mj_Rn d mj_m231 358 ls st M = mq_k0 d mj_m231 359 ls M (mj_pu .dup ls st) := mj_R0 (r := (.dup, 1, 0, 0, 0)) rfl rfl
theorem s231_359 {d : Nat} {ls : mj_L} {st : List Value} {M : mj_H} : mj_Rn d mj_m231 359 ls st M = mj_Rn d mj_m231 360 ls (.int 5 :: st) M := mj_R0 (r := (.iconst 5, 1, 0, 0, 0)) rfl rfl
theorem s231_360 {d : Nat} {ls : mj_L} {st : List Value} {M : mj_H} : mj_Rn d mj_m231 360 ls st M = mj_Rn d mj_m231 362 ls (.int 99 :: st) M := mj_R0 (r := (.bipush 99, 2, 0, 0, 0)) rfl rfl
theorem s231_362 {d : Nat} {ls : mj_L} {st : List Value} {M : mj_H} : mj_Rn d mj_m231 362 ls st M = mq_k4 d mj_m231 363 ls (mj_hw (.iastore, 1, 0, 0, 0) st M) := mj_R4 (r := (.iastore, 1, 0, 0, 0)) rfl rfl
theorem s231_363 {d : Nat} {ls : mj_L} {st : List Value} {M : mj_H} : mj_Rn d mj_m231 363 ls st M = mq_k0 d mj_m231 364 ls M (mj_pu .dup ls st) := mj_R0 (r := (.dup, 1, 0, 0, 0)) rfl rfl
theorem s231_364 {d : Nat} {ls : mj_L} {st : List Value} {M : mj_H} : mj_Rn d mj_m231 364 ls st M = mj_Rn d mj_m231 366 ls (.int 6 :: st) M := mj_R0 (r := (.bipush 6, 2, 0, 0, 0)) rfl rfl
theorem s231_366 {d : Nat} {ls : mj_L} {st : List Value} {M : mj_H} : mj_Rn d mj_m231 366 ls st M = mj_Rn d mj_m231 368 ls (.int 45 :: st) M := mj_R0 (r := (.bipush 45, 2, 0, 0, 0)) rfl rfl
theorem s231_368 {d : Nat} {ls : mj_L} {st : List Value} {M : mj_H} : mj_Rn d mj_m231 368 ls st M = mq_k4 d mj_m231 369 ls (mj_hw (.iastore, 1, 0, 0, 0) st M) := mj_R4 (r := (.iastore, 1, 0, 0, 0)) rfl rfl
theorem s231_369 {d : Nat} {ls : mj_L} {st : List Value} {M : mj_H} : mj_Rn d mj_m231 369 ls st M = mq_k0 d mj_m231 370 ls M (mj_pu .dup ls st) := mj_R0 (r := (.dup, 1, 0, 0, 0)) rfl rfl
theorem s231_370 {d : Nat} {ls : mj_L} {st : List Value} {M : mj_H} : mj_Rn d mj_m231 370 ls st M = mj_Rn d mj_m231 372 ls (.int 7 :: st) M := mj_R0 (r := (.bipush 7, 2, 0, 0, 0)) rfl rfl
theorem s231_372 {d : Nat} {ls : mj_L} {st : List Value} {M : mj_H} : mj_Rn d mj_m231 372 ls st M = mj_Rn d mj_m231 374 ls (.int 107 :: st) M := mj_R0 (r := (.bipush 107, 2, 0, 0, 0)) rfl rfl
theorem s231_374 {d : Nat} {ls : mj_L} {st : List Value} {M : mj_H} : mj_Rn d mj_m231 374 ls st M = mq_k4 d mj_m231 375 ls (mj_hw (.iastore, 1, 0, 0, 0) st M) := mj_R4 (r := (.iastore, 1, 0, 0, 0)) rfl rfl
theorem s231_375 {d : Nat} {ls : mj_L} {st : List Value} {M : mj_H} : mj_Rn d mj_m231 375 ls st M = mq_k0 d mj_m231 376 ls M (mj_pu .dup ls st) := mj_R0 (r := (.dup, 1, 0, 0, 0)) rfl rfl
theorem s231_376 {d : Nat} {ls : mj_L} {st : List Value} {M : mj_H} : mj_Rn d mj_m231 376 ls st M = mj_Rn d mj_m231 378 ls (.int 8 :: st) M := mj_R0 (r := (.bipush 8, 2, 0, 0, 0)) rfl rfl
theorem s231_378 {d : Nat} {ls : mj_L} {st : List Value} {M : mj_H} : mj_Rn d mj_m231 378 ls st M = mj_Rn d mj_m231 380 ls (.int 101 :: st) M := mj_R0 (r := (.bipush 101, 2, 0, 0, 0)) rfl rfl
theorem s231_380 {d : Nat} {ls : mj_L} {st : List Value} {M : mj_H} : mj_Rn d mj_m231 380 ls st M = mq_k4 d mj_m231 381 ls (mj_hw (.iastore, 1, 0, 0, 0) st M) := mj_R4 (r := (.iastore, 1, 0, 0, 0)) rfl rfl
theorem s231_381 {d : Nat} {ls : mj_L} {st : List Value} {M : mj_H} : mj_Rn d mj_m231 381 ls st M = mq_k0 d mj_m231 382 ls M (mj_pu .dup ls st) := mj_R0 (r := (.dup, 1, 0, 0, 0)) rfl rfl
theorem s231_382 {d : Nat} {ls : mj_L} {st : List Value} {M : mj_H} : mj_Rn d mj_m231 382 ls st M = mj_Rn d mj_m231 384 ls (.int 9 :: st) M := mj_R0 (r := (.bipush 9, 2, 0, 0, 0)) rfl rfl
theorem s231_384 {d : Nat} {ls : mj_L} {st : List Value} {M : mj_H} : mj_Rn d mj_m231 384 ls st M = mj_Rn d mj_m231 386 ls (.int 121 :: st) M := mj_R0 (r := (.bipush 121, 2, 0, 0, 0)) rfl rfl
theorem s231_386 {d : Nat} {ls : mj_L} {st : List Value} {M : mj_H} : mj_Rn d mj_m231 386 ls st M = mq_k4 d mj_m231 387 ls (mj_hw (.iastore, 1, 0, 0, 0) st M) := mj_R4 (r := (.iastore, 1, 0, 0, 0)) rfl rfl
theorem s231_387 {d : Nat} {ls : mj_L} {st : List Value} {M : mj_H} : mj_Rn d mj_m231 387 ls st M = mq_k4 d mj_m231 390 ls (mq_pf 11 52 2 st M) := (mj_R4 (r := (.putfield 143, 3, 11, 52, 57412)) rfl rfl).trans (congrArg (mq_k4 d mj_m231 390 ls) (mq_pf_eq rfl rfl))
theorem s231_390 {d : Nat} {ls : mj_L} {st : List Value} {M : mj_H} : mj_Rn d mj_m231 390 ls st M = mq_k0 d mj_m231 391 ls M (mj_lda (mj_lk ls 0) st) := mj_R0 (r := (.aload_n 0, 1, 0, 0, 0)) rfl rfl
theorem s231_391 {d : Nat} {ls : mj_L} {st : List Value} {M : mj_H} : mj_Rn d mj_m231 391 ls st M = mj_Rn d mj_m231 394 ls (.int 1200 :: st) M := mj_R0 (r := (.sipush 1200, 3, 0, 0, 0)) rfl rfl
theorem s231_394 {d : Nat} {ls : mj_L} {st : List Value} {M : mj_H} : mj_Rn d mj_m231 394 ls st M = mq_k4 d mj_m231 396 ls (mj_hw (.newarray .int, 2, 1000, 0, 4140) st M) := mj_R4 (r := (.newarray .int, 2, 1000, 0, 4140)) rfl rfl
theorem s231_396 {d : Nat} {ls : mj_L} {st : List Value} {M : mj_H} : mj_Rn d mj_m231 396 ls st M = mq_k4 d mj_m231 399 ls (mq_pf 11 53 2 st M) := (mj_R4 (r := (.putfield 146, 3, 11, 53, 57414)) rfl rfl).trans (congrArg (mq_k4 d mj_m231 399 ls) (mq_pf_eq rfl rfl))
theorem s231_399 {d : Nat} {ls : mj_L} {st : List Value} {M : mj_H} : mj_Rn d mj_m231 399 ls st M = mq_k0 d mj_m231 400 ls M (mj_lda (mj_lk ls 0) st) := mj_R0 (r := (.aload_n 0, 1, 0, 0, 0)) rfl rfl
theorem s231_400 {d : Nat} {ls : mj_L} {st : List Value} {M : mj_H} : mj_Rn d mj_m231 400 ls st M = mj_Rn d mj_m231 401 ls (.int 3 :: st) M := mj_R0 (r := (.iconst 3, 1, 0, 0, 0)) rfl rfl
theorem s231_401 {d : Nat} {ls : mj_L} {st : List Value} {M : mj_H} : mj_Rn d mj_m231 401 ls st M = mq_k4 d mj_m231 403 ls (mj_hw (.newarray .int, 2, 1000, 0, 4140) st M) := mj_R4 (r := (.newarray .int, 2, 1000, 0, 4140)) rfl rfl
theorem s231_403 {d : Nat} {ls : mj_L} {st : List Value} {M : mj_H} : mj_Rn d mj_m231 403 ls st M = mq_k4 d mj_m231 406 ls (mq_pf 11 54 2 st M) := (mj_R4 (r := (.putfield 149, 3, 11, 54, 57416)) rfl rfl).trans (congrArg (mq_k4 d mj_m231 406 ls) (mq_pf_eq rfl rfl))
theorem s231_406 {d : Nat} {ls : mj_L} {st : List Value} {M : mj_H} : mj_Rn d mj_m231 406 ls st M = mq_k0 d mj_m231 407 ls M (mj_lda (mj_lk ls 0) st) := mj_R0 (r := (.aload_n 0, 1, 0, 0, 0)) rfl rfl
theorem s231_407 {d : Nat} {ls : mj_L} {st : List Value} {M : mj_H} : mj_Rn d mj_m231 407 ls st M = mj_Rn d mj_m231 410 ls (.int 640 :: st) M := mj_R0 (r := (.sipush 640, 3, 0, 0, 0)) rfl rfl
theorem s231_410 {d : Nat} {ls : mj_L} {st : List Value} {M : mj_H} : mj_Rn d mj_m231 410 ls st M = mq_k4 d mj_m231 412 ls (mj_hw (.newarray .int, 2, 1000, 0, 4140) st M) := mj_R4 (r := (.newarray .int, 2, 1000, 0, 4140)) rfl rfl
theorem s231_412 {d : Nat} {ls : mj_L} {st : List Value} {M : mj_H} : mj_Rn d mj_m231 412 ls st M = mq_k4 d mj_m231 415 ls (mq_pf 11 55 2 st M) := (mj_R4 (r := (.putfield 152, 3, 11, 55, 57418)) rfl rfl).trans (congrArg (mq_k4 d mj_m231 415 ls) (mq_pf_eq rfl rfl))
theorem s231_415 {d : Nat} {ls : mj_L} {st : List Value} {M : mj_H} : mj_Rn d mj_m231 415 ls st M = mq_k0 d mj_m231 416 ls M (mj_lda (mj_lk ls 0) st) := mj_R0 (r := (.aload_n 0, 1, 0, 0, 0)) rfl rfl
theorem s231_416 {d : Nat} {ls : mj_L} {st : List Value} {M : mj_H} : mj_Rn d mj_m231 416 ls st M = mj_Rn d mj_m231 418 ls (.int 6 :: st) M := mj_R0 (r := (.bipush 6, 2, 0, 0, 0)) rfl rfl
theorem s231_418 {d : Nat} {ls : mj_L} {st : List Value} {M : mj_H} : mj_Rn d mj_m231 418 ls st M = mq_k4 d mj_m231 420 ls (mj_hw (.newarray .int, 2, 1000, 0, 4140) st M) := mj_R4 (r := (.newarray .int, 2, 1000, 0, 4140)) rfl rfl
theorem s231_420 {d : Nat} {ls : mj_L} {st : List Value} {M : mj_H} : mj_Rn d mj_m231 420 ls st M = mq_k0 d mj_m231 421 ls M (mj_pu .dup ls st) := mj_R0 (r := (.dup, 1, 0, 0, 0)) rfl rfl
theorem s231_421 {d : Nat} {ls : mj_L} {st : List Value} {M : mj_H} : mj_Rn d mj_m231 421 ls st M = mj_Rn d mj_m231 422 ls (.int 0 :: st) M := mj_R0 (r := (.iconst 0, 1, 0, 0, 0)) rfl rfl
theorem s231_422 {d : Nat} {ls : mj_L} {st : List Value} {M : mj_H} : mj_Rn d mj_m231 422 ls st M = mj_Rn d mj_m231 424 ls (.int 112 :: st) M := mj_R0 (r := (.bipush 112, 2, 0, 0, 0)) rfl rfl
theorem s231_424 {d : Nat} {ls : mj_L} {st : List Value} {M : mj_H} : mj_Rn d mj_m231 424 ls st M = mq_k4 d mj_m231 425 ls (mj_hw (.iastore, 1, 0, 0, 0) st M) := mj_R4 (r := (.iastore, 1, 0, 0, 0)) rfl rfl
theorem s231_425 {d : Nat} {ls : mj_L} {st : List Value} {M : mj_H} : mj_Rn d mj_m231 425 ls st M = mq_k0 d mj_m231 426 ls M (mj_pu .dup ls st) := mj_R0 (r := (.dup, 1, 0, 0, 0)) rfl rfl
theorem s231_426 {d : Nat} {ls : mj_L} {st : List Value} {M : mj_H} : mj_Rn d mj_m231 426 ls st M = mj_Rn d mj_m231 427 ls (.int 1 :: st) M := mj_R0 (r := (.iconst 1, 1, 0, 0, 0)) rfl rfl
theorem s231_427 {d : Nat} {ls : mj_L} {st : List Value} {M : mj_H} : mj_Rn d mj_m231 427 ls st M = mj_Rn d mj_m231 429 ls (.int 97 :: st) M := mj_R0 (r := (.bipush 97, 2, 0, 0, 0)) rfl rfl
theorem s231_429 {d : Nat} {ls : mj_L} {st : List Value} {M : mj_H} : mj_Rn d mj_m231 429 ls st M = mq_k4 d mj_m231 430 ls (mj_hw (.iastore, 1, 0, 0, 0) st M) := mj_R4 (r := (.iastore, 1, 0, 0, 0)) rfl rfl
theorem s231_430 {d : Nat} {ls : mj_L} {st : List Value} {M : mj_H} : mj_Rn d mj_m231 430 ls st M = mq_k0 d mj_m231 431 ls M (mj_pu .dup ls st) := mj_R0 (r := (.dup, 1, 0, 0, 0)) rfl rfl
theorem s231_431 {d : Nat} {ls : mj_L} {st : List Value} {M : mj_H} : mj_Rn d mj_m231 431 ls st M = mj_Rn d mj_m231 432 ls (.int 2 :: st) M := mj_R0 (r := (.iconst 2, 1, 0, 0, 0)) rfl rfl
theorem s231_432 {d : Nat} {ls : mj_L} {st : List Value} {M : mj_H} : mj_Rn d mj_m231 432 ls st M = mj_Rn d mj_m231 434 ls (.int 99 :: st) M := mj_R0 (r := (.bipush 99, 2, 0, 0, 0)) rfl rfl
theorem s231_434 {d : Nat} {ls : mj_L} {st : List Value} {M : mj_H} : mj_Rn d mj_m231 434 ls st M = mq_k4 d mj_m231 435 ls (mj_hw (.iastore, 1, 0, 0, 0) st M) := mj_R4 (r := (.iastore, 1, 0, 0, 0)) rfl rfl
theorem s231_435 {d : Nat} {ls : mj_L} {st : List Value} {M : mj_H} : mj_Rn d mj_m231 435 ls st M = mq_k0 d mj_m231 436 ls M (mj_pu .dup ls st) := mj_R0 (r := (.dup, 1, 0, 0, 0)) rfl rfl
theorem s231_436 {d : Nat} {ls : mj_L} {st : List Value} {M : mj_H} : mj_Rn d mj_m231 436 ls st M = mj_Rn d mj_m231 437 ls (.int 3 :: st) M := mj_R0 (r := (.iconst 3, 1, 0, 0, 0)) rfl rfl
theorem s231_437 {d : Nat} {ls : mj_L} {st : List Value} {M : mj_H} : mj_Rn d mj_m231 437 ls st M = mj_Rn d mj_m231 439 ls (.int 107 :: st) M := mj_R0 (r := (.bipush 107, 2, 0, 0, 0)) rfl rfl
theorem s231_439 {d : Nat} {ls : mj_L} {st : List Value} {M : mj_H} : mj_Rn d mj_m231 439 ls st M = mq_k4 d mj_m231 440 ls (mj_hw (.iastore, 1, 0, 0, 0) st M) := mj_R4 (r := (.iastore, 1, 0, 0, 0)) rfl rfl
theorem s231_440 {d : Nat} {ls : mj_L} {st : List Value} {M : mj_H} : mj_Rn d mj_m231 440 ls st M = mq_k0 d mj_m231 441 ls M (mj_pu .dup ls st) := mj_R0 (r := (.dup, 1, 0, 0, 0)) rfl rfl
theorem s231_441 {d : Nat} {ls : mj_L} {st : List Value} {M : mj_H} : mj_Rn d mj_m231 441 ls st M = mj_Rn d mj_m231 442 ls (.int 4 :: st) M := mj_R0 (r := (.iconst 4, 1, 0, 0, 0)) rfl rfl
theorem s231_442 {d : Nat} {ls : mj_L} {st : List Value} {M : mj_H} : mj_Rn d mj_m231 442 ls st M = mj_Rn d mj_m231 444 ls (.int 101 :: st) M := mj_R0 (r := (.bipush 101, 2, 0, 0, 0)) rfl rfl
theorem s231_444 {d : Nat} {ls : mj_L} {st : List Value} {M : mj_H} : mj_Rn d mj_m231 444 ls st M = mq_k4 d mj_m231 445 ls (mj_hw (.iastore, 1, 0, 0, 0) st M) := mj_R4 (r := (.iastore, 1, 0, 0, 0)) rfl rfl
theorem s231_445 {d : Nat} {ls : mj_L} {st : List Value} {M : mj_H} : mj_Rn d mj_m231 445 ls st M = mq_k0 d mj_m231 446 ls M (mj_pu .dup ls st) := mj_R0 (r := (.dup, 1, 0, 0, 0)) rfl rfl
theorem s231_446 {d : Nat} {ls : mj_L} {st : List Value} {M : mj_H} : mj_Rn d mj_m231 446 ls st M = mj_Rn d mj_m231 447 ls (.int 5 :: st) M := mj_R0 (r := (.iconst 5, 1, 0, 0, 0)) rfl rfl
theorem s231_447 {d : Nat} {ls : mj_L} {st : List Value} {M : mj_H} : mj_Rn d mj_m231 447 ls st M = mj_Rn d mj_m231 449 ls (.int 100 :: st) M := mj_R0 (r := (.bipush 100, 2, 0, 0, 0)) rfl rfl
theorem s231_449 {d : Nat} {ls : mj_L} {st : List Value} {M : mj_H} : mj_Rn d mj_m231 449 ls st M = mq_k4 d mj_m231 450 ls (mj_hw (.iastore, 1, 0, 0, 0) st M) := mj_R4 (r := (.iastore, 1, 0, 0, 0)) rfl rfl
theorem s231_450 {d : Nat} {ls : mj_L} {st : List Value} {M : mj_H} : mj_Rn d mj_m231 450 ls st M = mq_k4 d mj_m231 453 ls (mq_pf 11 57 2 st M) := (mj_R4 (r := (.putfield 155, 3, 11, 57, 57422)) rfl rfl).trans (congrArg (mq_k4 d mj_m231 453 ls) (mq_pf_eq rfl rfl))
theorem s231_453 {d : Nat} {ls : mj_L} {st : List Value} {M : mj_H} : mj_Rn d mj_m231 453 ls st M = mq_k0 d mj_m231 454 ls M (mj_lda (mj_lk ls 0) st) := mj_R0 (r := (.aload_n 0, 1, 0, 0, 0)) rfl rfl
theorem s231_454 {d : Nat} {ls : mj_L} {st : List Value} {M : mj_H} : mj_Rn d mj_m231 454 ls st M = mj_Rn d mj_m231 456 ls (.int 32 :: st) M := mj_R0 (r := (.bipush 32, 2, 0, 0, 0)) rfl rfl
theorem s231_456 {d : Nat} {ls : mj_L} {st : List Value} {M : mj_H} : mj_Rn d mj_m231 456 ls st M = mq_k4 d mj_m231 458 ls (mj_hw (.newarray .int, 2, 1000, 0, 4140) st M) := mj_R4 (r := (.newarray .int, 2, 1000, 0, 4140)) rfl rfl
theorem s231_458 {d : Nat} {ls : mj_L} {st : List Value} {M : mj_H} : mj_Rn d mj_m231 458 ls st M = mq_k4 d mj_m231 461 ls (mq_pf 11 58 2 st M) := (mj_R4 (r := (.putfield 158, 3, 11, 58, 57424)) rfl rfl).trans (congrArg (mq_k4 d mj_m231 461 ls) (mq_pf_eq rfl rfl))
theorem s231_461 {d : Nat} {ls : mj_L} {st : List Value} {M : mj_H} : mj_Rn d mj_m231 461 ls st M = mq_k0 d mj_m231 462 ls M (mj_lda (mj_lk ls 0) st) := mj_R0 (r := (.aload_n 0, 1, 0, 0, 0)) rfl rfl
theorem s231_462 {d : Nat} {ls : mj_L} {st : List Value} {M : mj_H} : mj_Rn d mj_m231 462 ls st M = mj_Rn d mj_m231 464 ls (.int 8 :: st) M := mj_R0 (r := (.bipush 8, 2, 0, 0, 0)) rfl rfl
theorem s231_464 {d : Nat} {ls : mj_L} {st : List Value} {M : mj_H} : mj_Rn d mj_m231 464 ls st M = mq_k4 d mj_m231 466 ls (mj_hw (.newarray .int, 2, 1000, 0, 4140) st M) := mj_R4 (r := (.newarray .int, 2, 1000, 0, 4140)) rfl rfl
theorem s231_466 {d : Nat} {ls : mj_L} {st : List Value} {M : mj_H} : mj_Rn d mj_m231 466 ls st M = mq_k0 d mj_m231 467 ls M (mj_pu .dup ls st) := mj_R0 (r := (.dup, 1, 0, 0, 0)) rfl rfl
theorem s231_467 {d : Nat} {ls : mj_L} {st : List Value} {M : mj_H} : mj_Rn d mj_m231 467 ls st M = mj_Rn d mj_m231 468 ls (.int 0 :: st) M := mj_R0 (r := (.iconst 0, 1, 0, 0, 0)) rfl rfl
theorem s231_468 {d : Nat} {ls : mj_L} {st : List Value} {M : mj_H} : mj_Rn d mj_m231 468 ls st M = mj_Rn d mj_m231 470 ls (.int 70 :: st) M := mj_R0 (r := (.bipush 70, 2, 0, 0, 0)) rfl rfl
theorem s231_470 {d : Nat} {ls : mj_L} {st : List Value} {M : mj_H} : mj_Rn d mj_m231 470 ls st M = mq_k4 d mj_m231 471 ls (mj_hw (.iastore, 1, 0, 0, 0) st M) := mj_R4 (r := (.iastore, 1, 0, 0, 0)) rfl rfl
theorem s231_471 {d : Nat} {ls : mj_L} {st : List Value} {M : mj_H} : mj_Rn d mj_m231 471 ls st M = mq_k0 d mj_m231 472 ls M (mj_pu .dup ls st) := mj_R0 (r := (.dup, 1, 0, 0, 0)) rfl rfl
theorem s231_472 {d : Nat} {ls : mj_L} {st : List Value} {M : mj_H} : mj_Rn d mj_m231 472 ls st M = mj_Rn d mj_m231 473 ls (.int 1 :: st) M := mj_R0 (r := (.iconst 1, 1, 0, 0, 0)) rfl rfl
theorem s231_473 {d : Nat} {ls : mj_L} {st : List Value} {M : mj_H} : mj_Rn d mj_m231 473 ls st M = mj_Rn d mj_m231 475 ls (.int 73 :: st) M := mj_R0 (r := (.bipush 73, 2, 0, 0, 0)) rfl rfl
theorem s231_475 {d : Nat} {ls : mj_L} {st : List Value} {M : mj_H} : mj_Rn d mj_m231 475 ls st M = mq_k4 d mj_m231 476 ls (mj_hw (.iastore, 1, 0, 0, 0) st M) := mj_R4 (r := (.iastore, 1, 0, 0, 0)) rfl rfl
theorem s231_476 {d : Nat} {ls : mj_L} {st : List Value} {M : mj_H} : mj_Rn d mj_m231 476 ls st M = mq_k0 d mj_m231 477 ls M (mj_pu .dup ls st) := mj_R0 (r := (.dup, 1, 0, 0, 0)) rfl rfl
theorem s231_477 {d : Nat} {ls : mj_L} {st : List Value} {M : mj_H} : mj_Rn d mj_m231 477 ls st M = mj_Rn d mj_m231 478 ls (.int 2 :: st) M := mj_R0 (r := (.iconst 2, 1, 0, 0, 0)) rfl rfl
theorem s231_478 {d : Nat} {ls : mj_L} {st : List Value} {M : mj_H} : mj_Rn d mj_m231 478 ls st M = mj_Rn d mj_m231 480 ls (.int 68 :: st) M := mj_R0 (r := (.bipush 68, 2, 0, 0, 0)) rfl rfl
theorem s231_480 {d : Nat} {ls : mj_L} {st : List Value} {M : mj_H} : mj_Rn d mj_m231 480 ls st M = mq_k4 d mj_m231 481 ls (mj_hw (.iastore, 1, 0, 0, 0) st M) := mj_R4 (r := (.iastore, 1, 0, 0, 0)) rfl rfl
theorem s231_481 {d : Nat} {ls : mj_L} {st : List Value} {M : mj_H} : mj_Rn d mj_m231 481 ls st M = mq_k0 d mj_m231 482 ls M (mj_pu .dup ls st) := mj_R0 (r := (.dup, 1, 0, 0, 0)) rfl rfl
theorem s231_482 {d : Nat} {ls : mj_L} {st : List Value} {M : mj_H} : mj_Rn d mj_m231 482 ls st M = mj_Rn d mj_m231 483 ls (.int 3 :: st) M := mj_R0 (r := (.iconst 3, 1, 0, 0, 0)) rfl rfl
theorem s231_483 {d : Nat} {ls : mj_L} {st : List Value} {M : mj_H} : mj_Rn d mj_m231 483 ls st M = mj_Rn d mj_m231 485 ls (.int 79 :: st) M := mj_R0 (r := (.bipush 79, 2, 0, 0, 0)) rfl rfl
theorem s231_485 {d : Nat} {ls : mj_L} {st : List Value} {M : mj_H} : mj_Rn d mj_m231 485 ls st M = mq_k4 d mj_m231 486 ls (mj_hw (.iastore, 1, 0, 0, 0) st M) := mj_R4 (r := (.iastore, 1, 0, 0, 0)) rfl rfl
theorem s231_486 {d : Nat} {ls : mj_L} {st : List Value} {M : mj_H} : mj_Rn d mj_m231 486 ls st M = mq_k0 d mj_m231 487 ls M (mj_pu .dup ls st) := mj_R0 (r := (.dup, 1, 0, 0, 0)) rfl rfl
theorem s231_487 {d : Nat} {ls : mj_L} {st : List Value} {M : mj_H} : mj_Rn d mj_m231 487 ls st M = mj_Rn d mj_m231 488 ls (.int 4 :: st) M := mj_R0 (r := (.iconst 4, 1, 0, 0, 0)) rfl rfl
theorem s231_488 {d : Nat} {ls : mj_L} {st : List Value} {M : mj_H} : mj_Rn d mj_m231 488 ls st M = mj_Rn d mj_m231 490 ls (.int 95 :: st) M := mj_R0 (r := (.bipush 95, 2, 0, 0, 0)) rfl rfl
theorem s231_490 {d : Nat} {ls : mj_L} {st : List Value} {M : mj_H} : mj_Rn d mj_m231 490 ls st M = mq_k4 d mj_m231 491 ls (mj_hw (.iastore, 1, 0, 0, 0) st M) := mj_R4 (r := (.iastore, 1, 0, 0, 0)) rfl rfl
theorem s231_491 {d : Nat} {ls : mj_L} {st : List Value} {M : mj_H} : mj_Rn d mj_m231 491 ls st M = mq_k0 d mj_m231 492 ls M (mj_pu .dup ls st) := mj_R0 (r := (.dup, 1, 0, 0, 0)) rfl rfl
theorem s231_492 {d : Nat} {ls : mj_L} {st : List Value} {M : mj_H} : mj_Rn d mj_m231 492 ls st M = mj_Rn d mj_m231 493 ls (.int 5 :: st) M := mj_R0 (r := (.iconst 5, 1, 0, 0, 0)) rfl rfl
theorem s231_493 {d : Nat} {ls : mj_L} {st : List Value} {M : mj_H} : mj_Rn d mj_m231 493 ls st M = mj_Rn d mj_m231 495 ls (.int 50 :: st) M := mj_R0 (r := (.bipush 50, 2, 0, 0, 0)) rfl rfl
theorem s231_495 {d : Nat} {ls : mj_L} {st : List Value} {M : mj_H} : mj_Rn d mj_m231 495 ls st M = mq_k4 d mj_m231 496 ls (mj_hw (.iastore, 1, 0, 0, 0) st M) := mj_R4 (r := (.iastore, 1, 0, 0, 0)) rfl rfl
theorem s231_496 {d : Nat} {ls : mj_L} {st : List Value} {M : mj_H} : mj_Rn d mj_m231 496 ls st M = mq_k0 d mj_m231 497 ls M (mj_pu .dup ls st) := mj_R0 (r := (.dup, 1, 0, 0, 0)) rfl rfl
theorem s231_497 {d : Nat} {ls : mj_L} {st : List Value} {M : mj_H} : mj_Rn d mj_m231 497 ls st M = mj_Rn d mj_m231 499 ls (.int 6 :: st) M := mj_R0 (r := (.bipush 6, 2, 0, 0, 0)) rfl rfl
theorem s231_499 {d : Nat} {ls : mj_L} {st : List Value} {M : mj_H} : mj_Rn d mj_m231 499 ls st M = mj_Rn d mj_m231 501 ls (.int 95 :: st) M := mj_R0 (r := (.bipush 95, 2, 0, 0, 0)) rfl rfl
theorem s231_501 {d : Nat} {ls : mj_L} {st : List Value} {M : mj_H} : mj_Rn d mj_m231 501 ls st M = mq_k4 d mj_m231 502 ls (mj_hw (.iastore, 1, 0, 0, 0) st M) := mj_R4 (r := (.iastore, 1, 0, 0, 0)) rfl rfl
theorem s231_502 {d : Nat} {ls : mj_L} {st : List Value} {M : mj_H} : mj_Rn d mj_m231 502 ls st M = mq_k0 d mj_m231 503 ls M (mj_pu .dup ls st) := mj_R0 (r := (.dup, 1, 0, 0, 0)) rfl rfl
theorem s231_503 {d : Nat} {ls : mj_L} {st : List Value} {M : mj_H} : mj_Rn d mj_m231 503 ls st M = mj_Rn d mj_m231 505 ls (.int 7 :: st) M := mj_R0 (r := (.bipush 7, 2, 0, 0, 0)) rfl rfl
theorem s231_505 {d : Nat} {ls : mj_L} {st : List Value} {M : mj_H} : mj_Rn d mj_m231 505 ls st M = mj_Rn d mj_m231 507 ls (.int 48 :: st) M := mj_R0 (r := (.bipush 48, 2, 0, 0, 0)) rfl rfl
theorem s231_507 {d : Nat} {ls : mj_L} {st : List Value} {M : mj_H} : mj_Rn d mj_m231 507 ls st M = mq_k4 d mj_m231 508 ls (mj_hw (.iastore, 1, 0, 0, 0) st M) := mj_R4 (r := (.iastore, 1, 0, 0, 0)) rfl rfl
theorem s231_508 {d : Nat} {ls : mj_L} {st : List Value} {M : mj_H} : mj_Rn d mj_m231 508 ls st M = mq_k4 d mj_m231 511 ls (mq_pf 11 59 2 st M) := (mj_R4 (r := (.putfield 161, 3, 11, 59, 57426)) rfl rfl).trans (congrArg (mq_k4 d mj_m231 511 ls) (mq_pf_eq rfl rfl))
theorem s231_511 {d : Nat} {ls : mj_L} {st : List Value} {M : mj_H} : mj_Rn d mj_m231 511 ls st M = mq_k0 d mj_m231 512 ls M (mj_lda (mj_lk ls 0) st) := mj_R0 (r := (.aload_n 0, 1, 0, 0, 0)) rfl rfl
theorem s231_512 {d : Nat} {ls : mj_L} {st : List Value} {M : mj_H} : mj_Rn d mj_m231 512 ls st M = mj_Rn d mj_m231 514 ls (.int 9 :: st) M := mj_R0 (r := (.bipush 9, 2, 0, 0, 0)) rfl rfl
theorem s231_514 {d : Nat} {ls : mj_L} {st : List Value} {M : mj_H} : mj_Rn d mj_m231 514 ls st M = mq_k4 d mj_m231 516 ls (mj_hw (.newarray .int, 2, 1000, 0, 4140) st M) := mj_R4 (r := (.newarray .int, 2, 1000, 0, 4140)) rfl rfl
theorem s231_516 {d : Nat} {ls : mj_L} {st : List Value} {M : mj_H} : mj_Rn d mj_m231 516 ls st M = mq_k0 d mj_m231 517 ls M (mj_pu .dup ls st) := mj_R0 (r := (.dup, 1, 0, 0, 0)) rfl rfl
theorem s231_517 {d : Nat} {ls : mj_L} {st : List Value} {M : mj_H} : mj_Rn d mj_m231 517 ls st M = mj_Rn d mj_m231 518 ls (.int 0 :: st) M := mj_R0 (r := (.iconst 0, 1, 0, 0, 0)) rfl rfl
theorem s231_518 {d : Nat} {ls : mj_L} {st : List Value} {M : mj_H} : mj_Rn d mj_m231 518 ls st M = mj_Rn d mj_m231 520 ls (.int 99 :: st) M := mj_R0 (r := (.bipush 99, 2, 0, 0, 0)) rfl rfl
theorem s231_520 {d : Nat} {ls : mj_L} {st : List Value} {M : mj_H} : mj_Rn d mj_m231 520 ls st M = mq_k4 d mj_m231 521 ls (mj_hw (.iastore, 1, 0, 0, 0) st M) := mj_R4 (r := (.iastore, 1, 0, 0, 0)) rfl rfl
theorem s231_521 {d : Nat} {ls : mj_L} {st : List Value} {M : mj_H} : mj_Rn d mj_m231 521 ls st M = mq_k0 d mj_m231 522 ls M (mj_pu .dup ls st) := mj_R0 (r := (.dup, 1, 0, 0, 0)) rfl rfl
theorem s231_522 {d : Nat} {ls : mj_L} {st : List Value} {M : mj_H} : mj_Rn d mj_m231 522 ls st M = mj_Rn d mj_m231 523 ls (.int 1 :: st) M := mj_R0 (r := (.iconst 1, 1, 0, 0, 0)) rfl rfl
theorem s231_523 {d : Nat} {ls : mj_L} {st : List Value} {M : mj_H} : mj_Rn d mj_m231 523 ls st M = mj_Rn d mj_m231 525 ls (.int 108 :: st) M := mj_R0 (r := (.bipush 108, 2, 0, 0, 0)) rfl rfl
theorem s231_525 {d : Nat} {ls : mj_L} {st : List Value} {M : mj_H} : mj_Rn d mj_m231 525 ls st M = mq_k4 d mj_m231 526 ls (mj_hw (.iastore, 1, 0, 0, 0) st M) := mj_R4 (r := (.iastore, 1, 0, 0, 0)) rfl rfl
theorem s231_526 {d : Nat} {ls : mj_L} {st : List Value} {M : mj_H} : mj_Rn d mj_m231 526 ls st M = mq_k0 d mj_m231 527 ls M (mj_pu .dup ls st) := mj_R0 (r := (.dup, 1, 0, 0, 0)) rfl rfl
theorem s231_527 {d : Nat} {ls : mj_L} {st : List Value} {M : mj_H} : mj_Rn d mj_m231 527 ls st M = mj_Rn d mj_m231 528 ls (.int 2 :: st) M := mj_R0 (r := (.iconst 2, 1, 0, 0, 0)) rfl rfl
theorem s231_528 {d : Nat} {ls : mj_L} {st : List Value} {M : mj_H} : mj_Rn d mj_m231 528 ls st M = mj_Rn d mj_m231 530 ls (.int 105 :: st) M := mj_R0 (r := (.bipush 105, 2, 0, 0, 0)) rfl rfl
theorem s231_530 {d : Nat} {ls : mj_L} {st : List Value} {M : mj_H} : mj_Rn d mj_m231 530 ls st M = mq_k4 d mj_m231 531 ls (mj_hw (.iastore, 1, 0, 0, 0) st M) := mj_R4 (r := (.iastore, 1, 0, 0, 0)) rfl rfl
theorem s231_531 {d : Nat} {ls : mj_L} {st : List Value} {M : mj_H} : mj_Rn d mj_m231 531 ls st M = mq_k0 d mj_m231 532 ls M (mj_pu .dup ls st) := mj_R0 (r := (.dup, 1, 0, 0, 0)) rfl rfl
theorem s231_532 {d : Nat} {ls : mj_L} {st : List Value} {M : mj_H} : mj_Rn d mj_m231 532 ls st M = mj_Rn d mj_m231 533 ls (.int 3 :: st) M := mj_R0 (r := (.iconst 3, 1, 0, 0, 0)) rfl rfl
theorem s231_533 {d : Nat} {ls : mj_L} {st : List Value} {M : mj_H} : mj_Rn d mj_m231 533 ls st M = mj_Rn d mj_m231 535 ls (.int 101 :: st) M := mj_R0 (r := (.bipush 101, 2, 0, 0, 0)) rfl rfl
theorem s231_535 {d : Nat} {ls : mj_L} {st : List Value} {M : mj_H} : mj_Rn d mj_m231 535 ls st M = mq_k4 d mj_m231 536 ls (mj_hw (.iastore, 1, 0, 0, 0) st M) := mj_R4 (r := (.iastore, 1, 0, 0, 0)) rfl rfl
theorem s231_536 {d : Nat} {ls : mj_L} {st : List Value} {M : mj_H} : mj_Rn d mj_m231 536 ls st M = mq_k0 d mj_m231 537 ls M (mj_pu .dup ls st) := mj_R0 (r := (.dup, 1, 0, 0, 0)) rfl rfl
theorem s231_537 {d : Nat} {ls : mj_L} {st : List Value} {M : mj_H} : mj_Rn d mj_m231 537 ls st M = mj_Rn d mj_m231 538 ls (.int 4 :: st) M := mj_R0 (r := (.iconst 4, 1, 0, 0, 0)) rfl rfl
theorem s231_538 {d : Nat} {ls : mj_L} {st : List Value} {M : mj_H} : mj_Rn d mj_m231 538 ls st M = mj_Rn d mj_m231 540 ls (.int 110 :: st) M := mj_R0 (r := (.bipush 110, 2, 0, 0, 0)) rfl rfl
theorem s231_540 {d : Nat} {ls : mj_L} {st : List Value} {M : mj_H} : mj_Rn d mj_m231 540 ls st M = mq_k4 d mj_m231 541 ls (mj_hw (.iastore, 1, 0, 0, 0) st M) := mj_R4 (r := (.iastore, 1, 0, 0, 0)) rfl rfl
theorem s231_541 {d : Nat} {ls : mj_L} {st : List Value} {M : mj_H} : mj_Rn d mj_m231 541 ls st M = mq_k0 d mj_m231 542 ls M (mj_pu .dup ls st) := mj_R0 (r := (.dup, 1, 0, 0, 0)) rfl rfl
theorem s231_542 {d : Nat} {ls : mj_L} {st : List Value} {M : mj_H} : mj_Rn d mj_m231 542 ls st M = mj_Rn d mj_m231 543 ls (.int 5 :: st) M := mj_R0 (r := (.iconst 5, 1, 0, 0, 0)) rfl rfl
theorem s231_543 {d : Nat} {ls : mj_L} {st : List Value} {M : mj_H} : mj_Rn d mj_m231 543 ls st M = mj_Rn d mj_m231 545 ls (.int 116 :: st) M := mj_R0 (r := (.bipush 116, 2, 0, 0, 0)) rfl rfl
theorem s231_545 {d : Nat} {ls : mj_L} {st : List Value} {M : mj_H} : mj_Rn d mj_m231 545 ls st M = mq_k4 d mj_m231 546 ls (mj_hw (.iastore, 1, 0, 0, 0) st M) := mj_R4 (r := (.iastore, 1, 0, 0, 0)) rfl rfl
theorem s231_546 {d : Nat} {ls : mj_L} {st : List Value} {M : mj_H} : mj_Rn d mj_m231 546 ls st M = mq_k0 d mj_m231 547 ls M (mj_pu .dup ls st) := mj_R0 (r := (.dup, 1, 0, 0, 0)) rfl rfl
theorem s231_547 {d : Nat} {ls : mj_L} {st : List Value} {M : mj_H} : mj_Rn d mj_m231 547 ls st M = mj_Rn d mj_m231 549 ls (.int 6 :: st) M := mj_R0 (r := (.bipush 6, 2, 0, 0, 0)) rfl rfl
theorem s231_549 {d : Nat} {ls : mj_L} {st : List Value} {M : mj_H} : mj_Rn d mj_m231 549 ls st M = mj_Rn d mj_m231 551 ls (.int 80 :: st) M := mj_R0 (r := (.bipush 80, 2, 0, 0, 0)) rfl rfl
theorem s231_551 {d : Nat} {ls : mj_L} {st : List Value} {M : mj_H} : mj_Rn d mj_m231 551 ls st M = mq_k4 d mj_m231 552 ls (mj_hw (.iastore, 1, 0, 0, 0) st M) := mj_R4 (r := (.iastore, 1, 0, 0, 0)) rfl rfl
theorem s231_552 {d : Nat} {ls : mj_L} {st : List Value} {M : mj_H} : mj_Rn d mj_m231 552 ls st M = mq_k0 d mj_m231 553 ls M (mj_pu .dup ls st) := mj_R0 (r := (.dup, 1, 0, 0, 0)) rfl rfl
theorem s231_553 {d : Nat} {ls : mj_L} {st : List Value} {M : mj_H} : mj_Rn d mj_m231 553 ls st M = mj_Rn d mj_m231 555 ls (.int 7 :: st) M := mj_R0 (r := (.bipush 7, 2, 0, 0, 0)) rfl rfl
theorem s231_555 {d : Nat} {ls : mj_L} {st : List Value} {M : mj_H} : mj_Rn d mj_m231 555 ls st M = mj_Rn d mj_m231 557 ls (.int 105 :: st) M := mj_R0 (r := (.bipush 105, 2, 0, 0, 0)) rfl rfl
theorem s231_557 {d : Nat} {ls : mj_L} {st : List Value} {M : mj_H} : mj_Rn d mj_m231 557 ls st M = mq_k4 d mj_m231 558 ls (mj_hw (.iastore, 1, 0, 0, 0) st M) := mj_R4 (r := (.iastore, 1, 0, 0, 0)) rfl rfl
theorem s231_558 {d : Nat} {ls : mj_L} {st : List Value} {M : mj_H} : mj_Rn d mj_m231 558 ls st M = mq_k0 d mj_m231 559 ls M (mj_pu .dup ls st) := mj_R0 (r := (.dup, 1, 0, 0, 0)) rfl rfl
theorem s231_559 {d : Nat} {ls : mj_L} {st : List Value} {M : mj_H} : mj_Rn d mj_m231 559 ls st M = mj_Rn d mj_m231 561 ls (.int 8 :: st) M := mj_R0 (r := (.bipush 8, 2, 0, 0, 0)) rfl rfl
theorem s231_561 {d : Nat} {ls : mj_L} {st : List Value} {M : mj_H} : mj_Rn d mj_m231 561 ls st M = mj_Rn d mj_m231 563 ls (.int 110 :: st) M := mj_R0 (r := (.bipush 110, 2, 0, 0, 0)) rfl rfl
theorem s231_563 {d : Nat} {ls : mj_L} {st : List Value} {M : mj_H} : mj_Rn d mj_m231 563 ls st M = mq_k4 d mj_m231 564 ls (mj_hw (.iastore, 1, 0, 0, 0) st M) := mj_R4 (r := (.iastore, 1, 0, 0, 0)) rfl rfl
theorem s231_564 {d : Nat} {ls : mj_L} {st : List Value} {M : mj_H} : mj_Rn d mj_m231 564 ls st M = mq_k4 d mj_m231 567 ls (mq_pf 11 60 2 st M) := (mj_R4 (r := (.putfield 164, 3, 11, 60, 57428)) rfl rfl).trans (congrArg (mq_k4 d mj_m231 567 ls) (mq_pf_eq rfl rfl))
theorem s231_567 {d : Nat} {ls : mj_L} {st : List Value} {M : mj_H} : mj_Rn d mj_m231 567 ls st M = mq_k0 d mj_m231 568 ls M (mj_lda (mj_lk ls 0) st) := mj_R0 (r := (.aload_n 0, 1, 0, 0, 0)) rfl rfl
theorem s231_568 {d : Nat} {ls : mj_L} {st : List Value} {M : mj_H} : mj_Rn d mj_m231 568 ls st M = mj_Rn d mj_m231 569 ls (.int 4 :: st) M := mj_R0 (r := (.iconst 4, 1, 0, 0, 0)) rfl rfl
theorem s231_569 {d : Nat} {ls : mj_L} {st : List Value} {M : mj_H} : mj_Rn d mj_m231 569 ls st M = mq_k4 d mj_m231 571 ls (mj_hw (.newarray .int, 2, 1000, 0, 4140) st M) := mj_R4 (r := (.newarray .int, 2, 1000, 0, 4140)) rfl rfl
theorem s231_571 {d : Nat} {ls : mj_L} {st : List Value} {M : mj_H} : mj_Rn d mj_m231 571 ls st M = mq_k4 d mj_m231 574 ls (mq_pf 11 61 2 st M) := (mj_R4 (r := (.putfield 167, 3, 11, 61, 57430)) rfl rfl).trans (congrArg (mq_k4 d mj_m231 574 ls) (mq_pf_eq rfl rfl))
theorem s231_574 {d : Nat} {ls : mj_L} {st : List Value} {M : mj_H} : mj_Rn d mj_m231 574 ls st M = mq_k0 d mj_m231 575 ls M (mj_lda (mj_lk ls 0) st) := mj_R0 (r := (.aload_n 0, 1, 0, 0, 0)) rfl rfl
theorem s231_575 {d : Nat} {ls : mj_L} {st : List Value} {M : mj_H} : mj_Rn d mj_m231 575 ls st M = mj_Rn d mj_m231 576 ls (.int 4 :: st) M := mj_R0 (r := (.iconst 4, 1, 0, 0, 0)) rfl rfl
theorem s231_576 {d : Nat} {ls : mj_L} {st : List Value} {M : mj_H} : mj_Rn d mj_m231 576 ls st M = mq_k4 d mj_m231 578 ls (mj_hw (.newarray .int, 2, 1000, 0, 4140) st M) := mj_R4 (r := (.newarray .int, 2, 1000, 0, 4140)) rfl rfl
theorem s231_578 {d : Nat} {ls : mj_L} {st : List Value} {M : mj_H} : mj_Rn d mj_m231 578 ls st M = mq_k4 d mj_m231 581 ls (mq_pf 11 62 2 st M) := (mj_R4 (r := (.putfield 170, 3, 11, 62, 57432)) rfl rfl).trans (congrArg (mq_k4 d mj_m231 581 ls) (mq_pf_eq rfl rfl))
theorem s231_581 {d : Nat} {ls : mj_L} {st : List Value} {M : mj_H} : mj_Rn d mj_m231 581 ls st M = mq_k0 d mj_m231 582 ls M (mj_lda (mj_lk ls 0) st) := mj_R0 (r := (.aload_n 0, 1, 0, 0, 0)) rfl rfl
theorem s231_582 {d : Nat} {ls : mj_L} {st : List Value} {M : mj_H} : mj_Rn d mj_m231 582 ls st M = mj_Rn d mj_m231 583 ls (.int 4 :: st) M := mj_R0 (r := (.iconst 4, 1, 0, 0, 0)) rfl rfl
theorem s231_583 {d : Nat} {ls : mj_L} {st : List Value} {M : mj_H} : mj_Rn d mj_m231 583 ls st M = mq_k4 d mj_m231 585 ls (mj_hw (.newarray .int, 2, 1000, 0, 4140) st M) := mj_R4 (r := (.newarray .int, 2, 1000, 0, 4140)) rfl rfl
theorem s231_585 {d : Nat} {ls : mj_L} {st : List Value} {M : mj_H} : mj_Rn d mj_m231 585 ls st M = mq_k4 d mj_m231 588 ls (mq_pf 11 63 2 st M) := (mj_R4 (r := (.putfield 173, 3, 11, 63, 57434)) rfl rfl).trans (congrArg (mq_k4 d mj_m231 588 ls) (mq_pf_eq rfl rfl))
theorem s231_588 {d : Nat} {ls : mj_L} {st : List Value} {M : mj_H} : mj_Rn d mj_m231 588 ls st M = mq_k0 d mj_m231 589 ls M (mj_lda (mj_lk ls 0) st) := mj_R0 (r := (.aload_n 0, 1, 0, 0, 0)) rfl rfl
theorem s231_589 {d : Nat} {ls : mj_L} {st : List Value} {M : mj_H} : mj_Rn d mj_m231 589 ls st M = mj_Rn d mj_m231 591 ls (.int 48 :: st) M := mj_R0 (r := (.bipush 48, 2, 0, 0, 0)) rfl rfl
theorem s231_591 {d : Nat} {ls : mj_L} {st : List Value} {M : mj_H} : mj_Rn d mj_m231 591 ls st M = mq_k4 d mj_m231 593 ls (mj_hw (.newarray .int, 2, 1000, 0, 4140) st M) := mj_R4 (r := (.newarray .int, 2, 1000, 0, 4140)) rfl rfl
theorem s231_593 {d : Nat} {ls : mj_L} {st : List Value} {M : mj_H} : mj_Rn d mj_m231 593 ls st M = mq_k4 d mj_m231 596 ls (mq_pf 11 64 2 st M) := (mj_R4 (r := (.putfield 176, 3, 11, 64, 57436)) rfl rfl).trans (congrArg (mq_k4 d mj_m231 596 ls) (mq_pf_eq rfl rfl))
theorem s231_596 {d : Nat} {ls : mj_L} {st : List Value} {M : mj_H} : mj_Rn d mj_m231 596 ls st M = mq_k0 d mj_m231 597 ls M (mj_lda (mj_lk ls 0) st) := mj_R0 (r := (.aload_n 0, 1, 0, 0, 0)) rfl rfl
theorem s231_597 {d : Nat} {ls : mj_L} {st : List Value} {M : mj_H} : mj_Rn d mj_m231 597 ls st M = mj_Rn d mj_m231 598 ls (.int 4 :: st) M := mj_R0 (r := (.iconst 4, 1, 0, 0, 0)) rfl rfl
theorem s231_598 {d : Nat} {ls : mj_L} {st : List Value} {M : mj_H} : mj_Rn d mj_m231 598 ls st M = mq_k4 d mj_m231 600 ls (mj_hw (.newarray .int, 2, 1000, 0, 4140) st M) := mj_R4 (r := (.newarray .int, 2, 1000, 0, 4140)) rfl rfl
theorem s231_600 {d : Nat} {ls : mj_L} {st : List Value} {M : mj_H} : mj_Rn d mj_m231 600 ls st M = mq_k4 d mj_m231 603 ls (mq_pf 11 65 2 st M) := (mj_R4 (r := (.putfield 179, 3, 11, 65, 57438)) rfl rfl).trans (congrArg (mq_k4 d mj_m231 603 ls) (mq_pf_eq rfl rfl))
theorem s231_603 {d : Nat} {ls : mj_L} {st : List Value} {M : mj_H} : mj_Rn d mj_m231 603 ls st M = mq_k0 d mj_m231 604 ls M (mj_lda (mj_lk ls 0) st) := mj_R0 (r := (.aload_n 0, 1, 0, 0, 0)) rfl rfl
theorem s231_604 {d : Nat} {ls : mj_L} {st : List Value} {M : mj_H} : mj_Rn d mj_m231 604 ls st M = mj_Rn d mj_m231 607 ls (.int 160 :: st) M := mj_R0 (r := (.sipush 160, 3, 0, 0, 0)) rfl rfl
theorem s231_607 {d : Nat} {ls : mj_L} {st : List Value} {M : mj_H} : mj_Rn d mj_m231 607 ls st M = mq_k4 d mj_m231 609 ls (mj_hw (.newarray .int, 2, 1000, 0, 4140) st M) := mj_R4 (r := (.newarray .int, 2, 1000, 0, 4140)) rfl rfl
theorem s231_609 {d : Nat} {ls : mj_L} {st : List Value} {M : mj_H} : mj_Rn d mj_m231 609 ls st M = mq_k4 d mj_m231 612 ls (mq_pf 11 66 2 st M) := (mj_R4 (r := (.putfield 182, 3, 11, 66, 57440)) rfl rfl).trans (congrArg (mq_k4 d mj_m231 612 ls) (mq_pf_eq rfl rfl))
theorem s231_612 {d : Nat} {ls : mj_L} {st : List Value} {M : mj_H} : mj_Rn d mj_m231 612 ls st M = mq_k0 d mj_m231 613 ls M (mj_lda (mj_lk ls 0) st) := mj_R0 (r := (.aload_n 0, 1, 0, 0, 0)) rfl rfl
theorem s231_613 {d : Nat} {ls : mj_L} {st : List Value} {M : mj_H} : mj_Rn d mj_m231 613 ls st M = mj_Rn d mj_m231 614 ls (.int 4 :: st) M := mj_R0 (r := (.iconst 4, 1, 0, 0, 0)) rfl rfl
theorem s231_614 {d : Nat} {ls : mj_L} {st : List Value} {M : mj_H} : mj_Rn d mj_m231 614 ls st M = mq_k4 d mj_m231 616 ls (mj_hw (.newarray .int, 2, 1000, 0, 4140) st M) := mj_R4 (r := (.newarray .int, 2, 1000, 0, 4140)) rfl rfl
theorem s231_616 {d : Nat} {ls : mj_L} {st : List Value} {M : mj_H} : mj_Rn d mj_m231 616 ls st M = mq_k4 d mj_m231 619 ls (mq_pf 11 67 2 st M) := (mj_R4 (r := (.putfield 185, 3, 11, 67, 57442)) rfl rfl).trans (congrArg (mq_k4 d mj_m231 619 ls) (mq_pf_eq rfl rfl))
theorem s231_619 {d : Nat} {ls : mj_L} {st : List Value} {M : mj_H} : mj_Rn d mj_m231 619 ls st M = mq_k0 d mj_m231 620 ls M (mj_lda (mj_lk ls 0) st) := mj_R0 (r := (.aload_n 0, 1, 0, 0, 0)) rfl rfl
theorem s231_620 {d : Nat} {ls : mj_L} {st : List Value} {M : mj_H} : mj_Rn d mj_m231 620 ls st M = mj_Rn d mj_m231 623 ls (.int 160 :: st) M := mj_R0 (r := (.sipush 160, 3, 0, 0, 0)) rfl rfl
theorem s231_623 {d : Nat} {ls : mj_L} {st : List Value} {M : mj_H} : mj_Rn d mj_m231 623 ls st M = mq_k4 d mj_m231 625 ls (mj_hw (.newarray .int, 2, 1000, 0, 4140) st M) := mj_R4 (r := (.newarray .int, 2, 1000, 0, 4140)) rfl rfl
theorem s231_625 {d : Nat} {ls : mj_L} {st : List Value} {M : mj_H} : mj_Rn d mj_m231 625 ls st M = mq_k4 d mj_m231 628 ls (mq_pf 11 69 2 st M) := (mj_R4 (r := (.putfield 188, 3, 11, 69, 57446)) rfl rfl).trans (congrArg (mq_k4 d mj_m231 628 ls) (mq_pf_eq rfl rfl))
theorem s231_628 {d : Nat} {ls : mj_L} {st : List Value} {M : mj_H} : mj_Rn d mj_m231 628 ls st M = mq_k0 d mj_m231 629 ls M (mj_lda (mj_lk ls 0) st) := mj_R0 (r := (.aload_n 0, 1, 0, 0, 0)) rfl rfl
theorem s231_629 {d : Nat} {ls : mj_L} {st : List Value} {M : mj_H} : mj_Rn d mj_m231 629 ls st M = mj_Rn d mj_m231 630 ls (.int 4 :: st) M := mj_R0 (r := (.iconst 4, 1, 0, 0, 0)) rfl rfl
theorem s231_630 {d : Nat} {ls : mj_L} {st : List Value} {M : mj_H} : mj_Rn d mj_m231 630 ls st M = mq_k4 d mj_m231 632 ls (mj_hw (.newarray .int, 2, 1000, 0, 4140) st M) := mj_R4 (r := (.newarray .int, 2, 1000, 0, 4140)) rfl rfl
theorem s231_632 {d : Nat} {ls : mj_L} {st : List Value} {M : mj_H} : mj_Rn d mj_m231 632 ls st M = mq_k4 d mj_m231 635 ls (mq_pf 11 70 2 st M) := (mj_R4 (r := (.putfield 191, 3, 11, 70, 57448)) rfl rfl).trans (congrArg (mq_k4 d mj_m231 635 ls) (mq_pf_eq rfl rfl))
theorem s231_635 {d : Nat} {ls : mj_L} {st : List Value} {M : mj_H} : mj_Rn d mj_m231 635 ls st M = mq_k0 d mj_m231 636 ls M (mj_lda (mj_lk ls 0) st) := mj_R0 (r := (.aload_n 0, 1, 0, 0, 0)) rfl rfl
theorem s231_636 {d : Nat} {ls : mj_L} {st : List Value} {M : mj_H} : mj_Rn d mj_m231 636 ls st M = mj_Rn d mj_m231 638 ls (.int 96 :: st) M := mj_R0 (r := (.bipush 96, 2, 0, 0, 0)) rfl rfl
theorem s231_638 {d : Nat} {ls : mj_L} {st : List Value} {M : mj_H} : mj_Rn d mj_m231 638 ls st M = mq_k4 d mj_m231 640 ls (mj_hw (.newarray .int, 2, 1000, 0, 4140) st M) := mj_R4 (r := (.newarray .int, 2, 1000, 0, 4140)) rfl rfl
theorem s231_640 {d : Nat} {ls : mj_L} {st : List Value} {M : mj_H} : mj_Rn d mj_m231 640 ls st M = mq_k4 d mj_m231 643 ls (mq_pf 11 71 2 st M) := (mj_R4 (r := (.putfield 194, 3, 11, 71, 57450)) rfl rfl).trans (congrArg (mq_k4 d mj_m231 643 ls) (mq_pf_eq rfl rfl))
theorem s231_643 {d : Nat} {ls : mj_L} {st : List Value} {M : mj_H} : mj_Rn d mj_m231 643 ls st M = mq_k0 d mj_m231 644 ls M (mj_lda (mj_lk ls 0) st) := mj_R0 (r := (.aload_n 0, 1, 0, 0, 0)) rfl rfl
theorem s231_644 {d : Nat} {ls : mj_L} {st : List Value} {M : mj_H} : mj_Rn d mj_m231 644 ls st M = mj_Rn d mj_m231 645 ls (.int 4 :: st) M := mj_R0 (r := (.iconst 4, 1, 0, 0, 0)) rfl rfl
theorem s231_645 {d : Nat} {ls : mj_L} {st : List Value} {M : mj_H} : mj_Rn d mj_m231 645 ls st M = mq_k4 d mj_m231 647 ls (mj_hw (.newarray .int, 2, 1000, 0, 4140) st M) := mj_R4 (r := (.newarray .int, 2, 1000, 0, 4140)) rfl rfl
theorem s231_647 {d : Nat} {ls : mj_L} {st : List Value} {M : mj_H} : mj_Rn d mj_m231 647 ls st M = mq_k4 d mj_m231 650 ls (mq_pf 11 72 2 st M) := (mj_R4 (r := (.putfield 197, 3, 11, 72, 57452)) rfl rfl).trans (congrArg (mq_k4 d mj_m231 650 ls) (mq_pf_eq rfl rfl))
theorem s231_650 {d : Nat} {ls : mj_L} {st : List Value} {M : mj_H} : mj_Rn d mj_m231 650 ls st M = mq_k0 d mj_m231 651 ls M (mj_lda (mj_lk ls 0) st) := mj_R0 (r := (.aload_n 0, 1, 0, 0, 0)) rfl rfl
theorem s231_651 {d : Nat} {ls : mj_L} {st : List Value} {M : mj_H} : mj_Rn d mj_m231 651 ls st M = mj_Rn d mj_m231 652 ls (.int 4 :: st) M := mj_R0 (r := (.iconst 4, 1, 0, 0, 0)) rfl rfl
theorem s231_652 {d : Nat} {ls : mj_L} {st : List Value} {M : mj_H} : mj_Rn d mj_m231 652 ls st M = mq_k4 d mj_m231 654 ls (mj_hw (.newarray .int, 2, 1000, 0, 4140) st M) := mj_R4 (r := (.newarray .int, 2, 1000, 0, 4140)) rfl rfl
theorem s231_654 {d : Nat} {ls : mj_L} {st : List Value} {M : mj_H} : mj_Rn d mj_m231 654 ls st M = mq_k4 d mj_m231 657 ls (mq_pf 11 73 2 st M) := (mj_R4 (r := (.putfield 200, 3, 11, 73, 57454)) rfl rfl).trans (congrArg (mq_k4 d mj_m231 657 ls) (mq_pf_eq rfl rfl))
theorem s231_657 {d : Nat} {ls : mj_L} {st : List Value} {M : mj_H} : mj_Rn d mj_m231 657 ls st M = mq_k0 d mj_m231 658 ls M (mj_lda (mj_lk ls 0) st) := mj_R0 (r := (.aload_n 0, 1, 0, 0, 0)) rfl rfl
theorem s231_658 {d : Nat} {ls : mj_L} {st : List Value} {M : mj_H} : mj_Rn d mj_m231 658 ls st M = mj_Rn d mj_m231 660 ls (.int 16 :: st) M := mj_R0 (r := (.bipush 16, 2, 0, 0, 0)) rfl rfl
theorem s231_660 {d : Nat} {ls : mj_L} {st : List Value} {M : mj_H} : mj_Rn d mj_m231 660 ls st M = mq_k4 d mj_m231 662 ls (mj_hw (.newarray .int, 2, 1000, 0, 4140) st M) := mj_R4 (r := (.newarray .int, 2, 1000, 0, 4140)) rfl rfl
theorem s231_662 {d : Nat} {ls : mj_L} {st : List Value} {M : mj_H} : mj_Rn d mj_m231 662 ls st M = mq_k4 d mj_m231 665 ls (mq_pf 11 74 2 st M) := (mj_R4 (r := (.putfield 203, 3, 11, 74, 57456)) rfl rfl).trans (congrArg (mq_k4 d mj_m231 665 ls) (mq_pf_eq rfl rfl))
theorem s231_665 {d : Nat} {ls : mj_L} {st : List Value} {M : mj_H} : mj_Rn d mj_m231 665 ls st M = mq_k0 d mj_m231 666 ls M (mj_lda (mj_lk ls 0) st) := mj_R0 (r := (.aload_n 0, 1, 0, 0, 0)) rfl rfl
theorem s231_666 {d : Nat} {ls : mj_L} {st : List Value} {M : mj_H} : mj_Rn d mj_m231 666 ls st M = mj_Rn d mj_m231 669 ls (.int 128 :: st) M := mj_R0 (r := (.sipush 128, 3, 0, 0, 0)) rfl rfl
theorem s231_669 {d : Nat} {ls : mj_L} {st : List Value} {M : mj_H} : mj_Rn d mj_m231 669 ls st M = mq_k4 d mj_m231 671 ls (mj_hw (.newarray .int, 2, 1000, 0, 4140) st M) := mj_R4 (r := (.newarray .int, 2, 1000, 0, 4140)) rfl rfl
theorem s231_671 {d : Nat} {ls : mj_L} {st : List Value} {M : mj_H} : mj_Rn d mj_m231 671 ls st M = mq_k4 d mj_m231 674 ls (mq_pf 11 75 2 st M) := (mj_R4 (r := (.putfield 206, 3, 11, 75, 57458)) rfl rfl).trans (congrArg (mq_k4 d mj_m231 674 ls) (mq_pf_eq rfl rfl))
theorem s231_674 {d : Nat} {ls : mj_L} {st : List Value} {M : mj_H} : mj_Rn d mj_m231 674 ls st M = mq_k0 d mj_m231 675 ls M (mj_lda (mj_lk ls 0) st) := mj_R0 (r := (.aload_n 0, 1, 0, 0, 0)) rfl rfl
theorem s231_675 {d : Nat} {ls : mj_L} {st : List Value} {M : mj_H} : mj_Rn d mj_m231 675 ls st M = mj_Rn d mj_m231 677 ls (.int 16 :: st) M := mj_R0 (r := (.bipush 16, 2, 0, 0, 0)) rfl rfl
theorem s231_677 {d : Nat} {ls : mj_L} {st : List Value} {M : mj_H} : mj_Rn d mj_m231 677 ls st M = mq_k4 d mj_m231 679 ls (mj_hw (.newarray .int, 2, 1000, 0, 4140) st M) := mj_R4 (r := (.newarray .int, 2, 1000, 0, 4140)) rfl rfl
theorem s231_679 {d : Nat} {ls : mj_L} {st : List Value} {M : mj_H} : mj_Rn d mj_m231 679 ls st M = mq_k4 d mj_m231 682 ls (mq_pf 11 76 2 st M) := (mj_R4 (r := (.putfield 209, 3, 11, 76, 57460)) rfl rfl).trans (congrArg (mq_k4 d mj_m231 682 ls) (mq_pf_eq rfl rfl))
theorem s231_682 {d : Nat} {ls : mj_L} {st : List Value} {M : mj_H} : mj_Rn d mj_m231 682 ls st M = mq_k0 d mj_m231 683 ls M (mj_lda (mj_lk ls 0) st) := mj_R0 (r := (.aload_n 0, 1, 0, 0, 0)) rfl rfl
theorem s231_683 {d : Nat} {ls : mj_L} {st : List Value} {M : mj_H} : mj_Rn d mj_m231 683 ls st M = mj_Rn d mj_m231 685 ls (.int 16 :: st) M := mj_R0 (r := (.bipush 16, 2, 0, 0, 0)) rfl rfl
theorem s231_685 {d : Nat} {ls : mj_L} {st : List Value} {M : mj_H} : mj_Rn d mj_m231 685 ls st M = mq_k4 d mj_m231 687 ls (mj_hw (.newarray .boolean, 2, 1002, 0, 32781) st M) := mj_R4 (r := (.newarray .boolean, 2, 1002, 0, 32781)) rfl rfl
theorem s231_687 {d : Nat} {ls : mj_L} {st : List Value} {M : mj_H} : mj_Rn d mj_m231 687 ls st M = mq_k4 d mj_m231 690 ls (mq_pf 11 77 2 st M) := (mj_R4 (r := (.putfield 212, 3, 11, 77, 57462)) rfl rfl).trans (congrArg (mq_k4 d mj_m231 690 ls) (mq_pf_eq rfl rfl))
theorem s231_690 {d : Nat} {ls : mj_L} {st : List Value} {M : mj_H} : mj_Rn d mj_m231 690 ls st M = mq_k0 d mj_m231 691 ls M (mj_lda (mj_lk ls 0) st) := mj_R0 (r := (.aload_n 0, 1, 0, 0, 0)) rfl rfl
theorem s231_691 {d : Nat} {ls : mj_L} {st : List Value} {M : mj_H} : mj_Rn d mj_m231 691 ls st M = mj_Rn d mj_m231 693 ls (.int 16 :: st) M := mj_R0 (r := (.bipush 16, 2, 0, 0, 0)) rfl rfl
theorem s231_693 {d : Nat} {ls : mj_L} {st : List Value} {M : mj_H} : mj_Rn d mj_m231 693 ls st M = mq_k4 d mj_m231 695 ls (mj_hw (.newarray .boolean, 2, 1002, 0, 32781) st M) := mj_R4 (r := (.newarray .boolean, 2, 1002, 0, 32781)) rfl rfl
theorem s231_695 {d : Nat} {ls : mj_L} {st : List Value} {M : mj_H} : mj_Rn d mj_m231 695 ls st M = mq_k4 d mj_m231 698 ls (mq_pf 11 78 2 st M) := (mj_R4 (r := (.putfield 215, 3, 11, 78, 57464)) rfl rfl).trans (congrArg (mq_k4 d mj_m231 698 ls) (mq_pf_eq rfl rfl))
theorem s231_698 {d : Nat} {ls : mj_L} {st : List Value} {M : mj_H} : mj_Rn d mj_m231 698 ls st M = mq_k0 d mj_m231 699 ls M (mj_lda (mj_lk ls 0) st) := mj_R0 (r := (.aload_n 0, 1, 0, 0, 0)) rfl rfl
theorem s231_699 {d : Nat} {ls : mj_L} {st : List Value} {M : mj_H} : mj_Rn d mj_m231 699 ls st M = mj_Rn d mj_m231 700 ls (.int 4 :: st) M := mj_R0 (r := (.iconst 4, 1, 0, 0, 0)) rfl rfl
theorem s231_700 {d : Nat} {ls : mj_L} {st : List Value} {M : mj_H} : mj_Rn d mj_m231 700 ls st M = mq_k4 d mj_m231 702 ls (mj_hw (.newarray .int, 2, 1000, 0, 4140) st M) := mj_R4 (r := (.newarray .int, 2, 1000, 0, 4140)) rfl rfl
theorem s231_702 {d : Nat} {ls : mj_L} {st : List Value} {M : mj_H} : mj_Rn d mj_m231 702 ls st M = mq_k4 d mj_m231 705 ls (mq_pf 11 79 2 st M) := (mj_R4 (r := (.putfield 218, 3, 11, 79, 57466)) rfl rfl).trans (congrArg (mq_k4 d mj_m231 705 ls) (mq_pf_eq rfl rfl))
theorem s231_705 {d : Nat} {ls : mj_L} {st : List Value} {M : mj_H} : mj_Rn d mj_m231 705 ls st M = mq_k0 d mj_m231 706 ls M (mj_lda (mj_lk ls 0) st) := mj_R0 (r := (.aload_n 0, 1, 0, 0, 0)) rfl rfl
theorem s231_706 {d : Nat} {ls : mj_L} {st : List Value} {M : mj_H} : mj_Rn d mj_m231 706 ls st M = mj_Rn d mj_m231 708 ls (.int 32 :: st) M := mj_R0 (r := (.bipush 32, 2, 0, 0, 0)) rfl rfl
theorem s231_708 {d : Nat} {ls : mj_L} {st : List Value} {M : mj_H} : mj_Rn d mj_m231 708 ls st M = mq_k4 d mj_m231 710 ls (mj_hw (.newarray .int, 2, 1000, 0, 4140) st M) := mj_R4 (r := (.newarray .int, 2, 1000, 0, 4140)) rfl rfl
theorem s231_710 {d : Nat} {ls : mj_L} {st : List Value} {M : mj_H} : mj_Rn d mj_m231 710 ls st M = mq_k4 d mj_m231 713 ls (mq_pf 11 80 2 st M) := (mj_R4 (r := (.putfield 221, 3, 11, 80, 57468)) rfl rfl).trans (congrArg (mq_k4 d mj_m231 713 ls) (mq_pf_eq rfl rfl))
theorem s231_713 {d : Nat} {ls : mj_L} {st : List Value} {M : mj_H} : mj_Rn d mj_m231 713 ls st M = mq_k0 d mj_m231 714 ls M (mj_lda (mj_lk ls 0) st) := mj_R0 (r := (.aload_n 0, 1, 0, 0, 0)) rfl rfl
theorem s231_714 {d : Nat} {ls : mj_L} {st : List Value} {M : mj_H} : mj_Rn d mj_m231 714 ls st M = mj_Rn d mj_m231 716 ls (.int 32 :: st) M := mj_R0 (r := (.bipush 32, 2, 0, 0, 0)) rfl rfl
theorem s231_716 {d : Nat} {ls : mj_L} {st : List Value} {M : mj_H} : mj_Rn d mj_m231 716 ls st M = mq_k4 d mj_m231 718 ls (mj_hw (.newarray .int, 2, 1000, 0, 4140) st M) := mj_R4 (r := (.newarray .int, 2, 1000, 0, 4140)) rfl rfl
theorem s231_718 {d : Nat} {ls : mj_L} {st : List Value} {M : mj_H} : mj_Rn d mj_m231 718 ls st M = mq_k4 d mj_m231 721 ls (mq_pf 11 81 2 st M) := (mj_R4 (r := (.putfield 224, 3, 11, 81, 57470)) rfl rfl).trans (congrArg (mq_k4 d mj_m231 721 ls) (mq_pf_eq rfl rfl))
theorem s231_721 {d : Nat} {ls : mj_L} {st : List Value} {M : mj_H} : mj_Rn d mj_m231 721 ls st M = mq_k0 d mj_m231 722 ls M (mj_lda (mj_lk ls 0) st) := mj_R0 (r := (.aload_n 0, 1, 0, 0, 0)) rfl rfl
theorem s231_722 {d : Nat} {ls : mj_L} {st : List Value} {M : mj_H} : mj_Rn d mj_m231 722 ls st M = mj_Rn d mj_m231 724 ls (.int 32 :: st) M := mj_R0 (r := (.bipush 32, 2, 0, 0, 0)) rfl rfl
theorem s231_724 {d : Nat} {ls : mj_L} {st : List Value} {M : mj_H} : mj_Rn d mj_m231 724 ls st M = mq_k4 d mj_m231 726 ls (mj_hw (.newarray .int, 2, 1000, 0, 4140) st M) := mj_R4 (r := (.newarray .int, 2, 1000, 0, 4140)) rfl rfl
theorem s231_726 {d : Nat} {ls : mj_L} {st : List Value} {M : mj_H} : mj_Rn d mj_m231 726 ls st M = mq_k4 d mj_m231 729 ls (mq_pf 11 82 2 st M) := (mj_R4 (r := (.putfield 227, 3, 11, 82, 57472)) rfl rfl).trans (congrArg (mq_k4 d mj_m231 729 ls) (mq_pf_eq rfl rfl))
theorem s231_729 {d : Nat} {ls : mj_L} {st : List Value} {M : mj_H} : mj_Rn d mj_m231 729 ls st M = mq_k0 d mj_m231 730 ls M (mj_lda (mj_lk ls 0) st) := mj_R0 (r := (.aload_n 0, 1, 0, 0, 0)) rfl rfl
theorem s231_730 {d : Nat} {ls : mj_L} {st : List Value} {M : mj_H} : mj_Rn d mj_m231 730 ls st M = mj_Rn d mj_m231 732 ls (.int 32 :: st) M := mj_R0 (r := (.bipush 32, 2, 0, 0, 0)) rfl rfl
theorem s231_732 {d : Nat} {ls : mj_L} {st : List Value} {M : mj_H} : mj_Rn d mj_m231 732 ls st M = mq_k4 d mj_m231 734 ls (mj_hw (.newarray .int, 2, 1000, 0, 4140) st M) := mj_R4 (r := (.newarray .int, 2, 1000, 0, 4140)) rfl rfl
theorem s231_734 {d : Nat} {ls : mj_L} {st : List Value} {M : mj_H} : mj_Rn d mj_m231 734 ls st M = mq_k4 d mj_m231 737 ls (mq_pf 11 83 2 st M) := (mj_R4 (r := (.putfield 230, 3, 11, 83, 57474)) rfl rfl).trans (congrArg (mq_k4 d mj_m231 737 ls) (mq_pf_eq rfl rfl))
theorem s231_737 {d : Nat} {ls : mj_L} {st : List Value} {M : mj_H} : mj_Rn d mj_m231 737 ls st M = mq_k0 d mj_m231 738 ls M (mj_lda (mj_lk ls 0) st) := mj_R0 (r := (.aload_n 0, 1, 0, 0, 0)) rfl rfl
theorem s231_738 {d : Nat} {ls : mj_L} {st : List Value} {M : mj_H} : mj_Rn d mj_m231 738 ls st M = mj_Rn d mj_m231 741 ls (.int 256 :: st) M := mj_R0 (r := (.sipush 256, 3, 0, 0, 0)) rfl rfl
theorem s231_741 {d : Nat} {ls : mj_L} {st : List Value} {M : mj_H} : mj_Rn d mj_m231 741 ls st M = mq_k4 d mj_m231 743 ls (mj_hw (.newarray .int, 2, 1000, 0, 4140) st M) := mj_R4 (r := (.newarray .int, 2, 1000, 0, 4140)) rfl rfl
theorem s231_743 {d : Nat} {ls : mj_L} {st : List Value} {M : mj_H} : mj_Rn d mj_m231 743 ls st M = mq_k4 d mj_m231 746 ls (mq_pf 11 84 2 st M) := (mj_R4 (r := (.putfield 233, 3, 11, 84, 57476)) rfl rfl).trans (congrArg (mq_k4 d mj_m231 746 ls) (mq_pf_eq rfl rfl))
theorem s231_746 {d : Nat} {ls : mj_L} {st : List Value} {M : mj_H} : mj_Rn d mj_m231 746 ls st M = mq_k0 d mj_m231 747 ls M (mj_lda (mj_lk ls 0) st) := mj_R0 (r := (.aload_n 0, 1, 0, 0, 0)) rfl rfl
theorem s231_747 {d : Nat} {ls : mj_L} {st : List Value} {M : mj_H} : mj_Rn d mj_m231 747 ls st M = mj_Rn d mj_m231 749 ls (.int 32 :: st) M := mj_R0 (r := (.bipush 32, 2, 0, 0, 0)) rfl rfl
theorem s231_749 {d : Nat} {ls : mj_L} {st : List Value} {M : mj_H} : mj_Rn d mj_m231 749 ls st M = mq_k4 d mj_m231 751 ls (mj_hw (.newarray .int, 2, 1000, 0, 4140) st M) := mj_R4 (r := (.newarray .int, 2, 1000, 0, 4140)) rfl rfl
theorem s231_751 {d : Nat} {ls : mj_L} {st : List Value} {M : mj_H} : mj_Rn d mj_m231 751 ls st M = mq_k4 d mj_m231 754 ls (mq_pf 11 85 2 st M) := (mj_R4 (r := (.putfield 236, 3, 11, 85, 57478)) rfl rfl).trans (congrArg (mq_k4 d mj_m231 754 ls) (mq_pf_eq rfl rfl))
theorem s231_754 {d : Nat} {ls : mj_L} {st : List Value} {M : mj_H} : mj_Rn d mj_m231 754 ls st M = mq_k0 d mj_m231 755 ls M (mj_lda (mj_lk ls 0) st) := mj_R0 (r := (.aload_n 0, 1, 0, 0, 0)) rfl rfl
theorem s231_755 {d : Nat} {ls : mj_L} {st : List Value} {M : mj_H} : mj_Rn d mj_m231 755 ls st M = mj_Rn d mj_m231 756 ls (.int 4 :: st) M := mj_R0 (r := (.iconst 4, 1, 0, 0, 0)) rfl rfl
theorem s231_756 {d : Nat} {ls : mj_L} {st : List Value} {M : mj_H} : mj_Rn d mj_m231 756 ls st M = mq_k4 d mj_m231 758 ls (mj_hw (.newarray .int, 2, 1000, 0, 4140) st M) := mj_R4 (r := (.newarray .int, 2, 1000, 0, 4140)) rfl rfl
theorem s231_758 {d : Nat} {ls : mj_L} {st : List Value} {M : mj_H} : mj_Rn d mj_m231 758 ls st M = mq_k4 d mj_m231 761 ls (mq_pf 11 86 2 st M) := (mj_R4 (r := (.putfield 239, 3, 11, 86, 57480)) rfl rfl).trans (congrArg (mq_k4 d mj_m231 761 ls) (mq_pf_eq rfl rfl))
theorem s231_761 {d : Nat} {ls : mj_L} {st : List Value} {M : mj_H} : mj_Rn d mj_m231 761 ls st M = mq_k0 d mj_m231 762 ls M (mj_lda (mj_lk ls 0) st) := mj_R0 (r := (.aload_n 0, 1, 0, 0, 0)) rfl rfl
theorem s231_762 {d : Nat} {ls : mj_L} {st : List Value} {M : mj_H} : mj_Rn d mj_m231 762 ls st M = mj_Rn d mj_m231 763 ls (.int 4 :: st) M := mj_R0 (r := (.iconst 4, 1, 0, 0, 0)) rfl rfl
theorem s231_763 {d : Nat} {ls : mj_L} {st : List Value} {M : mj_H} : mj_Rn d mj_m231 763 ls st M = mq_k4 d mj_m231 765 ls (mj_hw (.newarray .int, 2, 1000, 0, 4140) st M) := mj_R4 (r := (.newarray .int, 2, 1000, 0, 4140)) rfl rfl
theorem s231_765 {d : Nat} {ls : mj_L} {st : List Value} {M : mj_H} : mj_Rn d mj_m231 765 ls st M = mq_k4 d mj_m231 768 ls (mq_pf 11 87 2 st M) := (mj_R4 (r := (.putfield 242, 3, 11, 87, 57482)) rfl rfl).trans (congrArg (mq_k4 d mj_m231 768 ls) (mq_pf_eq rfl rfl))
theorem s231_768 {d : Nat} {ls : mj_L} {st : List Value} {M : mj_H} : mj_Rn d mj_m231 768 ls st M = mq_k0 d mj_m231 769 ls M (mj_lda (mj_lk ls 0) st) := mj_R0 (r := (.aload_n 0, 1, 0, 0, 0)) rfl rfl
theorem s231_769 {d : Nat} {ls : mj_L} {st : List Value} {M : mj_H} : mj_Rn d mj_m231 769 ls st M = mj_Rn d mj_m231 771 ls (.int 8 :: st) M := mj_R0 (r := (.bipush 8, 2, 0, 0, 0)) rfl rfl
theorem s231_771 {d : Nat} {ls : mj_L} {st : List Value} {M : mj_H} : mj_Rn d mj_m231 771 ls st M = mq_k4 d mj_m231 773 ls (mj_hw (.newarray .int, 2, 1000, 0, 4140) st M) := mj_R4 (r := (.newarray .int, 2, 1000, 0, 4140)) rfl rfl
theorem s231_773 {d : Nat} {ls : mj_L} {st : List Value} {M : mj_H} : mj_Rn d mj_m231 773 ls st M = mq_k4 d mj_m231 776 ls (mq_pf 11 88 2 st M) := (mj_R4 (r := (.putfield 245, 3, 11, 88, 57484)) rfl rfl).trans (congrArg (mq_k4 d mj_m231 776 ls) (mq_pf_eq rfl rfl))
theorem s231_776 {d : Nat} {ls : mj_L} {st : List Value} {M : mj_H} : mj_Rn d mj_m231 776 ls st M = mq_k6 M (mj_re none (.return_) st) := mj_R6 (r := (.return_, 1, 0, 0, 0)) rfl rfl
theorem c231 {d : Nat} {a0 : Nat} {M : mj_H} : mj_V (d + 1) 231 [.ref a0] M = mj_Rn d mj_m231 0 [(0, .ref a0)] [] M := mj_V_go rfl (Nat.le_of_ble_eq_true rfl)
set_option maxRecDepth 512
theorem iy10_0 : mj_ix 0 10 = some 0 := rfl
theorem iy10_1 : mj_ix 1 10 = some 1 := rfl
theorem iy10_2 : mj_ix 2 10 = some 2 := rfl
theorem iy10_3 : mj_ix 3 10 = some 3 := rfl
theorem iy10_4 : mj_ix 4 10 = some 4 := rfl
theorem iy10_5 : mj_ix 5 10 = some 5 := rfl
theorem iy10_6 : mj_ix 6 10 = some 6 := rfl
theorem iy10_7 : mj_ix 7 10 = some 7 := rfl
theorem iy10_8 : mj_ix 8 10 = some 8 := rfl
theorem iy10_9 : mj_ix 9 10 = some 9 := rfl
theorem iy6_0 : mj_ix 0 6 = some 0 := rfl
theorem iy6_1 : mj_ix 1 6 = some 1 := rfl
theorem iy6_2 : mj_ix 2 6 = some 2 := rfl
theorem iy6_3 : mj_ix 3 6 = some 3 := rfl
theorem iy6_4 : mj_ix 4 6 = some 4 := rfl
theorem iy6_5 : mj_ix 5 6 = some 5 := rfl
theorem iy8_0 : mj_ix 0 8 = some 0 := rfl
theorem iy8_1 : mj_ix 1 8 = some 1 := rfl
theorem iy8_2 : mj_ix 2 8 = some 2 := rfl
theorem iy8_3 : mj_ix 3 8 = some 3 := rfl
theorem iy8_4 : mj_ix 4 8 = some 4 := rfl
theorem iy8_5 : mj_ix 5 8 = some 5 := rfl
theorem iy8_6 : mj_ix 6 8 = some 6 := rfl
theorem iy8_7 : mj_ix 7 8 = some 7 := rfl
theorem iy9_0 : mj_ix 0 9 = some 0 := rfl
theorem iy9_1 : mj_ix 1 9 = some 1 := rfl
theorem iy9_2 : mj_ix 2 9 = some 2 := rfl
theorem iy9_3 : mj_ix 3 9 = some 3 := rfl
theorem iy9_4 : mj_ix 4 9 = some 4 := rfl
theorem iy9_5 : mj_ix 5 9 = some 5 := rfl
theorem iy9_6 : mj_ix 6 9 = some 6 := rfl
theorem iy9_7 : mj_ix 7 9 = some 7 := rfl
theorem iy9_8 : mj_ix 8 9 = some 8 := rfl
def zr (t n : Nat) (v : Value) : mj_C := (t, List.replicate n v)
section
variable {d : Nat} {P as : mj_H} {fs : List Value}
theorem p_at (hP : P.length = 67) (q : mj_C) : (P ++ q :: as)[67]? = some q := by rw [List.getElem?_append_right (by omega), hP]; rfl
theorem p_set (hP : P.length = 67) (q q' : mj_C) : (P ++ q :: as).set 67 q' = P ++ q' :: as := by rw [List.set_append_right _ _ (by omega), hP]; rfl
theorem p_len (hP : P.length = 67) (q : mj_C) : (P ++ q :: as).length = 68 + as.length := by rw [List.length_append, List.length_cons, hP]; omega
theorem p_last (hP : P.length = 67) (q r : mj_C) : (P ++ q :: (as ++ [r]))[68 + as.length]? = some r := by rw [List.getElem?_append_right (by omega), hP, show 68 + as.length - 67 = as.length + 1 by omega, List.getElem?_cons_succ, List.getElem?_append_right (by omega), Nat.sub_self]; rfl
theorem p_slast (hP : P.length = 67) (q r r' : mj_C) : (P ++ q :: (as ++ [r])).set (68 + as.length) r' = P ++ q :: (as ++ [r']) := by rw [List.set_append_right _ _ (by omega), hP, show 68 + as.length - 67 = as.length + 1 by omega, List.set_cons_succ, List.set_append_right _ _ (by omega), Nat.sub_self]; rfl
theorem n231_0 (hP : P.length = 67) (hf : fs.length = 90) (ha : as.length = 0) : ∀ r, mj_Rn (d + 1) mj_m231 12 [(0, .ref 67)] [] (P ++ (11, fs.set 0 (.ref 68)) :: (as ++ [zr 1000 1700000 (.int 0)])) = some r → mj_Rn (d + 1) mj_m231 4 [(0, .ref 67)] [] (P ++ (11, fs) :: as) = some r := by
  intro r hr
  have g0 := p_at (as := as ++ [zr 1000 1700000 (.int 0)]) hP (11, fs)
  have g4 := p_set (as := as ++ [zr 1000 1700000 (.int 0)]) hP (11, fs)
  unfold zr at g0 g4 hr
  simp (disch := (first | omega | decide)) [S_b0_mod_7, S_b0_mod_6, S_b0_mod_5, S_b0_mod_3, S_b0_mod_2, S_b0_mod_1, S_b0_mod_0, S_b0_mod_4h, -List.reduceReplicate, s231_4, s231_5, s231_7, s231_9, mq_k0s, mq_k1s, mq_k2s, mq_k4s, mq_k5s, mq_k5n, mq_k5as, mq_k6s, mj_pu, mj_lo, mj_br, mj_hr, mj_hw, mq_gf, mq_len, mq_al, mq_pf, mq_ok, mj_re, mq_lkm, mq_lkn, mj_ldi, mj_ldl, mj_lda, mj_ii, mj_ll, mj_li, mj_i1, ms_1, ms_2, f1_n, f1_i, f1_r, f1_u, f1_l, f2_n, f2_i, f2_r, f2_u, f2_l, mj_tg, mj_c1, mj_c2, mj_ar, mj_aw, mq_cb, mq_oi, mj_rm, Value.category, -getElem?_pos, List.getElem?_cons_zero, decide_eq_true, decide_eq_false, nl_lt, nl_le, ln_lt, ln_le, nl_eq, ln_eq, nl_add, ln_add, nl_sub, ln_mul, nI_sub, nI_mul, nI_add, nI_lt_iff, nI_le_iff, nI_inj, nI_num, mq_ix, nI_1, nl_mul, nl_div, aty_i, aty_b, aty_l, p_len hP, ha, List.append_assoc, List.cons_append, List.nil_append, g0, g4, hf, mj_E]
  exact hr
theorem n231_1 (hP : P.length = 67) (hf : fs.length = 90) (ha : as.length = 1) : ∀ r, mj_Rn (d + 1) mj_m231 20 [(0, .ref 67)] [] (P ++ (11, fs.set 2 (.ref 69)) :: (as ++ [zr 1000 40000 (.int 0)])) = some r → mj_Rn (d + 1) mj_m231 12 [(0, .ref 67)] [] (P ++ (11, fs) :: as) = some r := by
  intro r hr
  have g0 := p_at (as := as ++ [zr 1000 40000 (.int 0)]) hP (11, fs)
  have g4 := p_set (as := as ++ [zr 1000 40000 (.int 0)]) hP (11, fs)
  unfold zr at g0 g4 hr
  simp (disch := (first | omega | decide)) [S_b0_mod_7, S_b0_mod_6, S_b0_mod_5, S_b0_mod_3, S_b0_mod_2, S_b0_mod_1, S_b0_mod_0, S_b0_mod_4h, -List.reduceReplicate, s231_12, s231_13, s231_15, s231_17, mq_k0s, mq_k1s, mq_k2s, mq_k4s, mq_k5s, mq_k5n, mq_k5as, mq_k6s, mj_pu, mj_lo, mj_br, mj_hr, mj_hw, mq_gf, mq_len, mq_al, mq_pf, mq_ok, mj_re, mq_lkm, mq_lkn, mj_ldi, mj_ldl, mj_lda, mj_ii, mj_ll, mj_li, mj_i1, ms_1, ms_2, f1_n, f1_i, f1_r, f1_u, f1_l, f2_n, f2_i, f2_r, f2_u, f2_l, mj_tg, mj_c1, mj_c2, mj_ar, mj_aw, mq_cb, mq_oi, mj_rm, Value.category, -getElem?_pos, List.getElem?_cons_zero, decide_eq_true, decide_eq_false, nl_lt, nl_le, ln_lt, ln_le, nl_eq, ln_eq, nl_add, ln_add, nl_sub, ln_mul, nI_sub, nI_mul, nI_add, nI_lt_iff, nI_le_iff, nI_inj, nI_num, mq_ix, nI_1, nl_mul, nl_div, aty_i, aty_b, aty_l, p_len hP, ha, List.append_assoc, List.cons_append, List.nil_append, g0, g4, hf, mj_E]
  exact hr
theorem n231_2 (hP : P.length = 67) (hf : fs.length = 90) (ha : as.length = 2) : ∀ r, mj_Rn (d + 1) mj_m231 28 [(0, .ref 67)] [] (P ++ (11, fs.set 3 (.ref 70)) :: (as ++ [zr 1000 40000 (.int 0)])) = some r → mj_Rn (d + 1) mj_m231 20 [(0, .ref 67)] [] (P ++ (11, fs) :: as) = some r := by
  intro r hr
  have g0 := p_at (as := as ++ [zr 1000 40000 (.int 0)]) hP (11, fs)
  have g4 := p_set (as := as ++ [zr 1000 40000 (.int 0)]) hP (11, fs)
  unfold zr at g0 g4 hr
  simp (disch := (first | omega | decide)) [S_b0_mod_7, S_b0_mod_6, S_b0_mod_5, S_b0_mod_3, S_b0_mod_2, S_b0_mod_1, S_b0_mod_0, S_b0_mod_4h, -List.reduceReplicate, s231_20, s231_21, s231_23, s231_25, mq_k0s, mq_k1s, mq_k2s, mq_k4s, mq_k5s, mq_k5n, mq_k5as, mq_k6s, mj_pu, mj_lo, mj_br, mj_hr, mj_hw, mq_gf, mq_len, mq_al, mq_pf, mq_ok, mj_re, mq_lkm, mq_lkn, mj_ldi, mj_ldl, mj_lda, mj_ii, mj_ll, mj_li, mj_i1, ms_1, ms_2, f1_n, f1_i, f1_r, f1_u, f1_l, f2_n, f2_i, f2_r, f2_u, f2_l, mj_tg, mj_c1, mj_c2, mj_ar, mj_aw, mq_cb, mq_oi, mj_rm, Value.category, -getElem?_pos, List.getElem?_cons_zero, decide_eq_true, decide_eq_false, nl_lt, nl_le, ln_lt, ln_le, nl_eq, ln_eq, nl_add, ln_add, nl_sub, ln_mul, nI_sub, nI_mul, nI_add, nI_lt_iff, nI_le_iff, nI_inj, nI_num, mq_ix, nI_1, nl_mul, nl_div, aty_i, aty_b, aty_l, p_len hP, ha, List.append_assoc, List.cons_append, List.nil_append, g0, g4, hf, mj_E]
  exact hr
theorem n231_3 (hP : P.length = 67) (hf : fs.length = 90) (ha : as.length = 3) : ∀ r, mj_Rn (d + 1) mj_m231 37 [(0, .ref 67)] [] (P ++ (11, fs.set 4 (.ref 71)) :: (as ++ [zr 1000 8192 (.int 0)])) = some r → mj_Rn (d + 1) mj_m231 28 [(0, .ref 67)] [] (P ++ (11, fs) :: as) = some r := by
  intro r hr
  have g0 := p_at (as := as ++ [zr 1000 8192 (.int 0)]) hP (11, fs)
  have g4 := p_set (as := as ++ [zr 1000 8192 (.int 0)]) hP (11, fs)
  unfold zr at g0 g4 hr
  simp (disch := (first | omega | decide)) [S_b0_mod_7, S_b0_mod_6, S_b0_mod_5, S_b0_mod_3, S_b0_mod_2, S_b0_mod_1, S_b0_mod_0, S_b0_mod_4h, -List.reduceReplicate, s231_28, s231_29, s231_32, s231_34, mq_k0s, mq_k1s, mq_k2s, mq_k4s, mq_k5s, mq_k5n, mq_k5as, mq_k6s, mj_pu, mj_lo, mj_br, mj_hr, mj_hw, mq_gf, mq_len, mq_al, mq_pf, mq_ok, mj_re, mq_lkm, mq_lkn, mj_ldi, mj_ldl, mj_lda, mj_ii, mj_ll, mj_li, mj_i1, ms_1, ms_2, f1_n, f1_i, f1_r, f1_u, f1_l, f2_n, f2_i, f2_r, f2_u, f2_l, mj_tg, mj_c1, mj_c2, mj_ar, mj_aw, mq_cb, mq_oi, mj_rm, Value.category, -getElem?_pos, List.getElem?_cons_zero, decide_eq_true, decide_eq_false, nl_lt, nl_le, ln_lt, ln_le, nl_eq, ln_eq, nl_add, ln_add, nl_sub, ln_mul, nI_sub, nI_mul, nI_add, nI_lt_iff, nI_le_iff, nI_inj, nI_num, mq_ix, nI_1, nl_mul, nl_div, aty_i, aty_b, aty_l, p_len hP, ha, List.append_assoc, List.cons_append, List.nil_append, g0, g4, hf, mj_E]
  exact hr
theorem n231_4 (hP : P.length = 67) (hf : fs.length = 90) (ha : as.length = 4) : ∀ r, mj_Rn (d + 1) mj_m231 46 [(0, .ref 67)] [] (P ++ (11, fs.set 8 (.ref 72)) :: (as ++ [zr 1000 512 (.int 0)])) = some r → mj_Rn (d + 1) mj_m231 37 [(0, .ref 67)] [] (P ++ (11, fs) :: as) = some r := by
  intro r hr
  have g0 := p_at (as := as ++ [zr 1000 512 (.int 0)]) hP (11, fs)
  have g4 := p_set (as := as ++ [zr 1000 512 (.int 0)]) hP (11, fs)
  unfold zr at g0 g4 hr
  simp (disch := (first | omega | decide)) [S_b0_mod_7, S_b0_mod_6, S_b0_mod_5, S_b0_mod_3, S_b0_mod_2, S_b0_mod_1, S_b0_mod_0, S_b0_mod_4h, -List.reduceReplicate, s231_37, s231_38, s231_41, s231_43, mq_k0s, mq_k1s, mq_k2s, mq_k4s, mq_k5s, mq_k5n, mq_k5as, mq_k6s, mj_pu, mj_lo, mj_br, mj_hr, mj_hw, mq_gf, mq_len, mq_al, mq_pf, mq_ok, mj_re, mq_lkm, mq_lkn, mj_ldi, mj_ldl, mj_lda, mj_ii, mj_ll, mj_li, mj_i1, ms_1, ms_2, f1_n, f1_i, f1_r, f1_u, f1_l, f2_n, f2_i, f2_r, f2_u, f2_l, mj_tg, mj_c1, mj_c2, mj_ar, mj_aw, mq_cb, mq_oi, mj_rm, Value.category, -getElem?_pos, List.getElem?_cons_zero, decide_eq_true, decide_eq_false, nl_lt, nl_le, ln_lt, ln_le, nl_eq, ln_eq, nl_add, ln_add, nl_sub, ln_mul, nI_sub, nI_mul, nI_add, nI_lt_iff, nI_le_iff, nI_inj, nI_num, mq_ix, nI_1, nl_mul, nl_div, aty_i, aty_b, aty_l, p_len hP, ha, List.append_assoc, List.cons_append, List.nil_append, g0, g4, hf, mj_E]
  exact hr
theorem n231_5 (hP : P.length = 67) (hf : fs.length = 90) (ha : as.length = 5) : ∀ r, mj_Rn (d + 1) mj_m231 55 [(0, .ref 67)] [] (P ++ (11, fs.set 10 (.ref 73)) :: (as ++ [zr 1000 400 (.int 0)])) = some r → mj_Rn (d + 1) mj_m231 46 [(0, .ref 67)] [] (P ++ (11, fs) :: as) = some r := by
  intro r hr
  have g0 := p_at (as := as ++ [zr 1000 400 (.int 0)]) hP (11, fs)
  have g4 := p_set (as := as ++ [zr 1000 400 (.int 0)]) hP (11, fs)
  unfold zr at g0 g4 hr
  simp (disch := (first | omega | decide)) [S_b0_mod_7, S_b0_mod_6, S_b0_mod_5, S_b0_mod_3, S_b0_mod_2, S_b0_mod_1, S_b0_mod_0, S_b0_mod_4h, -List.reduceReplicate, s231_46, s231_47, s231_50, s231_52, mq_k0s, mq_k1s, mq_k2s, mq_k4s, mq_k5s, mq_k5n, mq_k5as, mq_k6s, mj_pu, mj_lo, mj_br, mj_hr, mj_hw, mq_gf, mq_len, mq_al, mq_pf, mq_ok, mj_re, mq_lkm, mq_lkn, mj_ldi, mj_ldl, mj_lda, mj_ii, mj_ll, mj_li, mj_i1, ms_1, ms_2, f1_n, f1_i, f1_r, f1_u, f1_l, f2_n, f2_i, f2_r, f2_u, f2_l, mj_tg, mj_c1, mj_c2, mj_ar, mj_aw, mq_cb, mq_oi, mj_rm, Value.category, -getElem?_pos, List.getElem?_cons_zero, decide_eq_true, decide_eq_false, nl_lt, nl_le, ln_lt, ln_le, nl_eq, ln_eq, nl_add, ln_add, nl_sub, ln_mul, nI_sub, nI_mul, nI_add, nI_lt_iff, nI_le_iff, nI_inj, nI_num, mq_ix, nI_1, nl_mul, nl_div, aty_i, aty_b, aty_l, p_len hP, ha, List.append_assoc, List.cons_append, List.nil_append, g0, g4, hf, mj_E]
  exact hr
theorem n231_6 (hP : P.length = 67) (hf : fs.length = 90) (ha : as.length = 6) : ∀ r, mj_Rn (d + 1) mj_m231 64 [(0, .ref 67)] [] (P ++ (11, fs.set 13 (.ref 74)) :: (as ++ [zr 1000 1536 (.int 0)])) = some r → mj_Rn (d + 1) mj_m231 55 [(0, .ref 67)] [] (P ++ (11, fs) :: as) = some r := by
  intro r hr
  have g0 := p_at (as := as ++ [zr 1000 1536 (.int 0)]) hP (11, fs)
  have g4 := p_set (as := as ++ [zr 1000 1536 (.int 0)]) hP (11, fs)
  unfold zr at g0 g4 hr
  simp (disch := (first | omega | decide)) [S_b0_mod_7, S_b0_mod_6, S_b0_mod_5, S_b0_mod_3, S_b0_mod_2, S_b0_mod_1, S_b0_mod_0, S_b0_mod_4h, -List.reduceReplicate, s231_55, s231_56, s231_59, s231_61, mq_k0s, mq_k1s, mq_k2s, mq_k4s, mq_k5s, mq_k5n, mq_k5as, mq_k6s, mj_pu, mj_lo, mj_br, mj_hr, mj_hw, mq_gf, mq_len, mq_al, mq_pf, mq_ok, mj_re, mq_lkm, mq_lkn, mj_ldi, mj_ldl, mj_lda, mj_ii, mj_ll, mj_li, mj_i1, ms_1, ms_2, f1_n, f1_i, f1_r, f1_u, f1_l, f2_n, f2_i, f2_r, f2_u, f2_l, mj_tg, mj_c1, mj_c2, mj_ar, mj_aw, mq_cb, mq_oi, mj_rm, Value.category, -getElem?_pos, List.getElem?_cons_zero, decide_eq_true, decide_eq_false, nl_lt, nl_le, ln_lt, ln_le, nl_eq, ln_eq, nl_add, ln_add, nl_sub, ln_mul, nI_sub, nI_mul, nI_add, nI_lt_iff, nI_le_iff, nI_inj, nI_num, mq_ix, nI_1, nl_mul, nl_div, aty_i, aty_b, aty_l, p_len hP, ha, List.append_assoc, List.cons_append, List.nil_append, g0, g4, hf, mj_E]
  exact hr
theorem n231_7 (hP : P.length = 67) (hf : fs.length = 90) (ha : as.length = 7) : ∀ r, mj_Rn (d + 1) mj_m231 71 [(0, .ref 67)] [] (P ++ (11, fs.set 14 (.ref 75)) :: (as ++ [zr 1002 3 (.int 0)])) = some r → mj_Rn (d + 1) mj_m231 64 [(0, .ref 67)] [] (P ++ (11, fs) :: as) = some r := by
  intro r hr
  have g0 := p_at (as := as ++ [zr 1002 3 (.int 0)]) hP (11, fs)
  have g4 := p_set (as := as ++ [zr 1002 3 (.int 0)]) hP (11, fs)
  unfold zr at g0 g4 hr
  simp (disch := (first | omega | decide)) [S_b0_mod_7, S_b0_mod_6, S_b0_mod_5, S_b0_mod_3, S_b0_mod_2, S_b0_mod_1, S_b0_mod_0, S_b0_mod_4h, -List.reduceReplicate, s231_64, s231_65, s231_66, s231_68, mq_k0s, mq_k1s, mq_k2s, mq_k4s, mq_k5s, mq_k5n, mq_k5as, mq_k6s, mj_pu, mj_lo, mj_br, mj_hr, mj_hw, mq_gf, mq_len, mq_al, mq_pf, mq_ok, mj_re, mq_lkm, mq_lkn, mj_ldi, mj_ldl, mj_lda, mj_ii, mj_ll, mj_li, mj_i1, ms_1, ms_2, f1_n, f1_i, f1_r, f1_u, f1_l, f2_n, f2_i, f2_r, f2_u, f2_l, mj_tg, mj_c1, mj_c2, mj_ar, mj_aw, mq_cb, mq_oi, mj_rm, Value.category, -getElem?_pos, List.getElem?_cons_zero, decide_eq_true, decide_eq_false, nl_lt, nl_le, ln_lt, ln_le, nl_eq, ln_eq, nl_add, ln_add, nl_sub, ln_mul, nI_sub, nI_mul, nI_add, nI_lt_iff, nI_le_iff, nI_inj, nI_num, mq_ix, nI_1, nl_mul, nl_div, aty_i, aty_b, aty_l, p_len hP, ha, List.append_assoc, List.cons_append, List.nil_append, g0, g4, hf, mj_E]
  exact hr
theorem n231_8 (hP : P.length = 67) (hf : fs.length = 90) (ha : as.length = 8) : ∀ r, mj_Rn (d + 1) mj_m231 78 [(0, .ref 67)] [] (P ++ (11, fs.set 15 (.ref 76)) :: (as ++ [zr 1000 3 (.int 0)])) = some r → mj_Rn (d + 1) mj_m231 71 [(0, .ref 67)] [] (P ++ (11, fs) :: as) = some r := by
  intro r hr
  have g0 := p_at (as := as ++ [zr 1000 3 (.int 0)]) hP (11, fs)
  have g4 := p_set (as := as ++ [zr 1000 3 (.int 0)]) hP (11, fs)
  unfold zr at g0 g4 hr
  simp (disch := (first | omega | decide)) [S_b0_mod_7, S_b0_mod_6, S_b0_mod_5, S_b0_mod_3, S_b0_mod_2, S_b0_mod_1, S_b0_mod_0, S_b0_mod_4h, -List.reduceReplicate, s231_71, s231_72, s231_73, s231_75, mq_k0s, mq_k1s, mq_k2s, mq_k4s, mq_k5s, mq_k5n, mq_k5as, mq_k6s, mj_pu, mj_lo, mj_br, mj_hr, mj_hw, mq_gf, mq_len, mq_al, mq_pf, mq_ok, mj_re, mq_lkm, mq_lkn, mj_ldi, mj_ldl, mj_lda, mj_ii, mj_ll, mj_li, mj_i1, ms_1, ms_2, f1_n, f1_i, f1_r, f1_u, f1_l, f2_n, f2_i, f2_r, f2_u, f2_l, mj_tg, mj_c1, mj_c2, mj_ar, mj_aw, mq_cb, mq_oi, mj_rm, Value.category, -getElem?_pos, List.getElem?_cons_zero, decide_eq_true, decide_eq_false, nl_lt, nl_le, ln_lt, ln_le, nl_eq, ln_eq, nl_add, ln_add, nl_sub, ln_mul, nI_sub, nI_mul, nI_add, nI_lt_iff, nI_le_iff, nI_inj, nI_num, mq_ix, nI_1, nl_mul, nl_div, aty_i, aty_b, aty_l, p_len hP, ha, List.append_assoc, List.cons_append, List.nil_append, g0, g4, hf, mj_E]
  exact hr
theorem n231_9 (hP : P.length = 67) (hf : fs.length = 90) (ha : as.length = 9) : ∀ r, mj_Rn (d + 1) mj_m231 85 [(0, .ref 67)] [] (P ++ (11, fs.set 16 (.ref 77)) :: (as ++ [zr 1000 3 (.int 0)])) = some r → mj_Rn (d + 1) mj_m231 78 [(0, .ref 67)] [] (P ++ (11, fs) :: as) = some r := by
  intro r hr
  have g0 := p_at (as := as ++ [zr 1000 3 (.int 0)]) hP (11, fs)
  have g4 := p_set (as := as ++ [zr 1000 3 (.int 0)]) hP (11, fs)
  unfold zr at g0 g4 hr
  simp (disch := (first | omega | decide)) [S_b0_mod_7, S_b0_mod_6, S_b0_mod_5, S_b0_mod_3, S_b0_mod_2, S_b0_mod_1, S_b0_mod_0, S_b0_mod_4h, -List.reduceReplicate, s231_78, s231_79, s231_80, s231_82, mq_k0s, mq_k1s, mq_k2s, mq_k4s, mq_k5s, mq_k5n, mq_k5as, mq_k6s, mj_pu, mj_lo, mj_br, mj_hr, mj_hw, mq_gf, mq_len, mq_al, mq_pf, mq_ok, mj_re, mq_lkm, mq_lkn, mj_ldi, mj_ldl, mj_lda, mj_ii, mj_ll, mj_li, mj_i1, ms_1, ms_2, f1_n, f1_i, f1_r, f1_u, f1_l, f2_n, f2_i, f2_r, f2_u, f2_l, mj_tg, mj_c1, mj_c2, mj_ar, mj_aw, mq_cb, mq_oi, mj_rm, Value.category, -getElem?_pos, List.getElem?_cons_zero, decide_eq_true, decide_eq_false, nl_lt, nl_le, ln_lt, ln_le, nl_eq, ln_eq, nl_add, ln_add, nl_sub, ln_mul, nI_sub, nI_mul, nI_add, nI_lt_iff, nI_le_iff, nI_inj, nI_num, mq_ix, nI_1, nl_mul, nl_div, aty_i, aty_b, aty_l, p_len hP, ha, List.append_assoc, List.cons_append, List.nil_append, g0, g4, hf, mj_E]
  exact hr
theorem n231_10 (hP : P.length = 67) (hf : fs.length = 90) (ha : as.length = 10) : ∀ r, mj_Rn (d + 1) mj_m231 92 [(0, .ref 67)] [] (P ++ (11, fs.set 17 (.ref 78)) :: (as ++ [zr 1000 3 (.int 0)])) = some r → mj_Rn (d + 1) mj_m231 85 [(0, .ref 67)] [] (P ++ (11, fs) :: as) = some r := by
  intro r hr
  have g0 := p_at (as := as ++ [zr 1000 3 (.int 0)]) hP (11, fs)
  have g4 := p_set (as := as ++ [zr 1000 3 (.int 0)]) hP (11, fs)
  unfold zr at g0 g4 hr
  simp (disch := (first | omega | decide)) [S_b0_mod_7, S_b0_mod_6, S_b0_mod_5, S_b0_mod_3, S_b0_mod_2, S_b0_mod_1, S_b0_mod_0, S_b0_mod_4h, -List.reduceReplicate, s231_85, s231_86, s231_87, s231_89, mq_k0s, mq_k1s, mq_k2s, mq_k4s, mq_k5s, mq_k5n, mq_k5as, mq_k6s, mj_pu, mj_lo, mj_br, mj_hr, mj_hw, mq_gf, mq_len, mq_al, mq_pf, mq_ok, mj_re, mq_lkm, mq_lkn, mj_ldi, mj_ldl, mj_lda, mj_ii, mj_ll, mj_li, mj_i1, ms_1, ms_2, f1_n, f1_i, f1_r, f1_u, f1_l, f2_n, f2_i, f2_r, f2_u, f2_l, mj_tg, mj_c1, mj_c2, mj_ar, mj_aw, mq_cb, mq_oi, mj_rm, Value.category, -getElem?_pos, List.getElem?_cons_zero, decide_eq_true, decide_eq_false, nl_lt, nl_le, ln_lt, ln_le, nl_eq, ln_eq, nl_add, ln_add, nl_sub, ln_mul, nI_sub, nI_mul, nI_add, nI_lt_iff, nI_le_iff, nI_inj, nI_num, mq_ix, nI_1, nl_mul, nl_div, aty_i, aty_b, aty_l, p_len hP, ha, List.append_assoc, List.cons_append, List.nil_append, g0, g4, hf, mj_E]
  exact hr
theorem n231_11 (hP : P.length = 67) (hf : fs.length = 90) (ha : as.length = 11) : ∀ r, mj_Rn (d + 1) mj_m231 99 [(0, .ref 67)] [] (P ++ (11, fs.set 18 (.ref 79)) :: (as ++ [zr 1000 3 (.int 0)])) = some r → mj_Rn (d + 1) mj_m231 92 [(0, .ref 67)] [] (P ++ (11, fs) :: as) = some r := by
  intro r hr
  have g0 := p_at (as := as ++ [zr 1000 3 (.int 0)]) hP (11, fs)
  have g4 := p_set (as := as ++ [zr 1000 3 (.int 0)]) hP (11, fs)
  unfold zr at g0 g4 hr
  simp (disch := (first | omega | decide)) [S_b0_mod_7, S_b0_mod_6, S_b0_mod_5, S_b0_mod_3, S_b0_mod_2, S_b0_mod_1, S_b0_mod_0, S_b0_mod_4h, -List.reduceReplicate, s231_92, s231_93, s231_94, s231_96, mq_k0s, mq_k1s, mq_k2s, mq_k4s, mq_k5s, mq_k5n, mq_k5as, mq_k6s, mj_pu, mj_lo, mj_br, mj_hr, mj_hw, mq_gf, mq_len, mq_al, mq_pf, mq_ok, mj_re, mq_lkm, mq_lkn, mj_ldi, mj_ldl, mj_lda, mj_ii, mj_ll, mj_li, mj_i1, ms_1, ms_2, f1_n, f1_i, f1_r, f1_u, f1_l, f2_n, f2_i, f2_r, f2_u, f2_l, mj_tg, mj_c1, mj_c2, mj_ar, mj_aw, mq_cb, mq_oi, mj_rm, Value.category, -getElem?_pos, List.getElem?_cons_zero, decide_eq_true, decide_eq_false, nl_lt, nl_le, ln_lt, ln_le, nl_eq, ln_eq, nl_add, ln_add, nl_sub, ln_mul, nI_sub, nI_mul, nI_add, nI_lt_iff, nI_le_iff, nI_inj, nI_num, mq_ix, nI_1, nl_mul, nl_div, aty_i, aty_b, aty_l, p_len hP, ha, List.append_assoc, List.cons_append, List.nil_append, g0, g4, hf, mj_E]
  exact hr
theorem n231_12 (hP : P.length = 67) (hf : fs.length = 90) (ha : as.length = 12) : ∀ r, mj_Rn (d + 1) mj_m231 106 [(0, .ref 67)] [] (P ++ (11, fs.set 19 (.ref 80)) :: (as ++ [zr 1000 3 (.int 0)])) = some r → mj_Rn (d + 1) mj_m231 99 [(0, .ref 67)] [] (P ++ (11, fs) :: as) = some r := by
  intro r hr
  have g0 := p_at (as := as ++ [zr 1000 3 (.int 0)]) hP (11, fs)
  have g4 := p_set (as := as ++ [zr 1000 3 (.int 0)]) hP (11, fs)
  unfold zr at g0 g4 hr
  simp (disch := (first | omega | decide)) [S_b0_mod_7, S_b0_mod_6, S_b0_mod_5, S_b0_mod_3, S_b0_mod_2, S_b0_mod_1, S_b0_mod_0, S_b0_mod_4h, -List.reduceReplicate, s231_99, s231_100, s231_101, s231_103, mq_k0s, mq_k1s, mq_k2s, mq_k4s, mq_k5s, mq_k5n, mq_k5as, mq_k6s, mj_pu, mj_lo, mj_br, mj_hr, mj_hw, mq_gf, mq_len, mq_al, mq_pf, mq_ok, mj_re, mq_lkm, mq_lkn, mj_ldi, mj_ldl, mj_lda, mj_ii, mj_ll, mj_li, mj_i1, ms_1, ms_2, f1_n, f1_i, f1_r, f1_u, f1_l, f2_n, f2_i, f2_r, f2_u, f2_l, mj_tg, mj_c1, mj_c2, mj_ar, mj_aw, mq_cb, mq_oi, mj_rm, Value.category, -getElem?_pos, List.getElem?_cons_zero, decide_eq_true, decide_eq_false, nl_lt, nl_le, ln_lt, ln_le, nl_eq, ln_eq, nl_add, ln_add, nl_sub, ln_mul, nI_sub, nI_mul, nI_add, nI_lt_iff, nI_le_iff, nI_inj, nI_num, mq_ix, nI_1, nl_mul, nl_div, aty_i, aty_b, aty_l, p_len hP, ha, List.append_assoc, List.cons_append, List.nil_append, g0, g4, hf, mj_E]
  exact hr
theorem n231_13 (hP : P.length = 67) (hf : fs.length = 90) (ha : as.length = 13) : ∀ r, mj_Rn (d + 1) mj_m231 113 [(0, .ref 67)] [] (P ++ (11, fs.set 20 (.ref 81)) :: (as ++ [zr 1000 3 (.int 0)])) = some r → mj_Rn (d + 1) mj_m231 106 [(0, .ref 67)] [] (P ++ (11, fs) :: as) = some r := by
  intro r hr
  have g0 := p_at (as := as ++ [zr 1000 3 (.int 0)]) hP (11, fs)
  have g4 := p_set (as := as ++ [zr 1000 3 (.int 0)]) hP (11, fs)
  unfold zr at g0 g4 hr
  simp (disch := (first | omega | decide)) [S_b0_mod_7, S_b0_mod_6, S_b0_mod_5, S_b0_mod_3, S_b0_mod_2, S_b0_mod_1, S_b0_mod_0, S_b0_mod_4h, -List.reduceReplicate, s231_106, s231_107, s231_108, s231_110, mq_k0s, mq_k1s, mq_k2s, mq_k4s, mq_k5s, mq_k5n, mq_k5as, mq_k6s, mj_pu, mj_lo, mj_br, mj_hr, mj_hw, mq_gf, mq_len, mq_al, mq_pf, mq_ok, mj_re, mq_lkm, mq_lkn, mj_ldi, mj_ldl, mj_lda, mj_ii, mj_ll, mj_li, mj_i1, ms_1, ms_2, f1_n, f1_i, f1_r, f1_u, f1_l, f2_n, f2_i, f2_r, f2_u, f2_l, mj_tg, mj_c1, mj_c2, mj_ar, mj_aw, mq_cb, mq_oi, mj_rm, Value.category, -getElem?_pos, List.getElem?_cons_zero, decide_eq_true, decide_eq_false, nl_lt, nl_le, ln_lt, ln_le, nl_eq, ln_eq, nl_add, ln_add, nl_sub, ln_mul, nI_sub, nI_mul, nI_add, nI_lt_iff, nI_le_iff, nI_inj, nI_num, mq_ix, nI_1, nl_mul, nl_div, aty_i, aty_b, aty_l, p_len hP, ha, List.append_assoc, List.cons_append, List.nil_append, g0, g4, hf, mj_E]
  exact hr
theorem n231_14 (hP : P.length = 67) (hf : fs.length = 90) (ha : as.length = 14) : ∀ r, mj_Rn (d + 1) mj_m231 120 [(0, .ref 67)] [] (P ++ (11, fs.set 21 (.ref 82)) :: (as ++ [zr 1000 3 (.int 0)])) = some r → mj_Rn (d + 1) mj_m231 113 [(0, .ref 67)] [] (P ++ (11, fs) :: as) = some r := by
  intro r hr
  have g0 := p_at (as := as ++ [zr 1000 3 (.int 0)]) hP (11, fs)
  have g4 := p_set (as := as ++ [zr 1000 3 (.int 0)]) hP (11, fs)
  unfold zr at g0 g4 hr
  simp (disch := (first | omega | decide)) [S_b0_mod_7, S_b0_mod_6, S_b0_mod_5, S_b0_mod_3, S_b0_mod_2, S_b0_mod_1, S_b0_mod_0, S_b0_mod_4h, -List.reduceReplicate, s231_113, s231_114, s231_115, s231_117, mq_k0s, mq_k1s, mq_k2s, mq_k4s, mq_k5s, mq_k5n, mq_k5as, mq_k6s, mj_pu, mj_lo, mj_br, mj_hr, mj_hw, mq_gf, mq_len, mq_al, mq_pf, mq_ok, mj_re, mq_lkm, mq_lkn, mj_ldi, mj_ldl, mj_lda, mj_ii, mj_ll, mj_li, mj_i1, ms_1, ms_2, f1_n, f1_i, f1_r, f1_u, f1_l, f2_n, f2_i, f2_r, f2_u, f2_l, mj_tg, mj_c1, mj_c2, mj_ar, mj_aw, mq_cb, mq_oi, mj_rm, Value.category, -getElem?_pos, List.getElem?_cons_zero, decide_eq_true, decide_eq_false, nl_lt, nl_le, ln_lt, ln_le, nl_eq, ln_eq, nl_add, ln_add, nl_sub, ln_mul, nI_sub, nI_mul, nI_add, nI_lt_iff, nI_le_iff, nI_inj, nI_num, mq_ix, nI_1, nl_mul, nl_div, aty_i, aty_b, aty_l, p_len hP, ha, List.append_assoc, List.cons_append, List.nil_append, g0, g4, hf, mj_E]
  exact hr
theorem n231_15 (hP : P.length = 67) (hf : fs.length = 90) (ha : as.length = 15) : ∀ r, mj_Rn (d + 1) mj_m231 127 [(0, .ref 67)] [] (P ++ (11, fs.set 22 (.ref 83)) :: (as ++ [zr 1000 3 (.int 0)])) = some r → mj_Rn (d + 1) mj_m231 120 [(0, .ref 67)] [] (P ++ (11, fs) :: as) = some r := by
  intro r hr
  have g0 := p_at (as := as ++ [zr 1000 3 (.int 0)]) hP (11, fs)
  have g4 := p_set (as := as ++ [zr 1000 3 (.int 0)]) hP (11, fs)
  unfold zr at g0 g4 hr
  simp (disch := (first | omega | decide)) [S_b0_mod_7, S_b0_mod_6, S_b0_mod_5, S_b0_mod_3, S_b0_mod_2, S_b0_mod_1, S_b0_mod_0, S_b0_mod_4h, -List.reduceReplicate, s231_120, s231_121, s231_122, s231_124, mq_k0s, mq_k1s, mq_k2s, mq_k4s, mq_k5s, mq_k5n, mq_k5as, mq_k6s, mj_pu, mj_lo, mj_br, mj_hr, mj_hw, mq_gf, mq_len, mq_al, mq_pf, mq_ok, mj_re, mq_lkm, mq_lkn, mj_ldi, mj_ldl, mj_lda, mj_ii, mj_ll, mj_li, mj_i1, ms_1, ms_2, f1_n, f1_i, f1_r, f1_u, f1_l, f2_n, f2_i, f2_r, f2_u, f2_l, mj_tg, mj_c1, mj_c2, mj_ar, mj_aw, mq_cb, mq_oi, mj_rm, Value.category, -getElem?_pos, List.getElem?_cons_zero, decide_eq_true, decide_eq_false, nl_lt, nl_le, ln_lt, ln_le, nl_eq, ln_eq, nl_add, ln_add, nl_sub, ln_mul, nI_sub, nI_mul, nI_add, nI_lt_iff, nI_le_iff, nI_inj, nI_num, mq_ix, nI_1, nl_mul, nl_div, aty_i, aty_b, aty_l, p_len hP, ha, List.append_assoc, List.cons_append, List.nil_append, g0, g4, hf, mj_E]
  exact hr
theorem n231_16 (hP : P.length = 67) (hf : fs.length = 90) (ha : as.length = 16) : ∀ r, mj_Rn (d + 1) mj_m231 134 [(0, .ref 67)] [] (P ++ (11, fs.set 23 (.ref 84)) :: (as ++ [zr 1000 3 (.int 0)])) = some r → mj_Rn (d + 1) mj_m231 127 [(0, .ref 67)] [] (P ++ (11, fs) :: as) = some r := by
  intro r hr
  have g0 := p_at (as := as ++ [zr 1000 3 (.int 0)]) hP (11, fs)
  have g4 := p_set (as := as ++ [zr 1000 3 (.int 0)]) hP (11, fs)
  unfold zr at g0 g4 hr
  simp (disch := (first | omega | decide)) [S_b0_mod_7, S_b0_mod_6, S_b0_mod_5, S_b0_mod_3, S_b0_mod_2, S_b0_mod_1, S_b0_mod_0, S_b0_mod_4h, -List.reduceReplicate, s231_127, s231_128, s231_129, s231_131, mq_k0s, mq_k1s, mq_k2s, mq_k4s, mq_k5s, mq_k5n, mq_k5as, mq_k6s, mj_pu, mj_lo, mj_br, mj_hr, mj_hw, mq_gf, mq_len, mq_al, mq_pf, mq_ok, mj_re, mq_lkm, mq_lkn, mj_ldi, mj_ldl, mj_lda, mj_ii, mj_ll, mj_li, mj_i1, ms_1, ms_2, f1_n, f1_i, f1_r, f1_u, f1_l, f2_n, f2_i, f2_r, f2_u, f2_l, mj_tg, mj_c1, mj_c2, mj_ar, mj_aw, mq_cb, mq_oi, mj_rm, Value.category, -getElem?_pos, List.getElem?_cons_zero, decide_eq_true, decide_eq_false, nl_lt, nl_le, ln_lt, ln_le, nl_eq, ln_eq, nl_add, ln_add, nl_sub, ln_mul, nI_sub, nI_mul, nI_add, nI_lt_iff, nI_le_iff, nI_inj, nI_num, mq_ix, nI_1, nl_mul, nl_div, aty_i, aty_b, aty_l, p_len hP, ha, List.append_assoc, List.cons_append, List.nil_append, g0, g4, hf, mj_E]
  exact hr
theorem n231_17 (hP : P.length = 67) (hf : fs.length = 90) (ha : as.length = 17) : ∀ r, mj_Rn (d + 1) mj_m231 141 [(0, .ref 67)] [] (P ++ (11, fs.set 24 (.ref 85)) :: (as ++ [zr 1000 3 (.int 0)])) = some r → mj_Rn (d + 1) mj_m231 134 [(0, .ref 67)] [] (P ++ (11, fs) :: as) = some r := by
  intro r hr
  have g0 := p_at (as := as ++ [zr 1000 3 (.int 0)]) hP (11, fs)
  have g4 := p_set (as := as ++ [zr 1000 3 (.int 0)]) hP (11, fs)
  unfold zr at g0 g4 hr
  simp (disch := (first | omega | decide)) [S_b0_mod_7, S_b0_mod_6, S_b0_mod_5, S_b0_mod_3, S_b0_mod_2, S_b0_mod_1, S_b0_mod_0, S_b0_mod_4h, -List.reduceReplicate, s231_134, s231_135, s231_136, s231_138, mq_k0s, mq_k1s, mq_k2s, mq_k4s, mq_k5s, mq_k5n, mq_k5as, mq_k6s, mj_pu, mj_lo, mj_br, mj_hr, mj_hw, mq_gf, mq_len, mq_al, mq_pf, mq_ok, mj_re, mq_lkm, mq_lkn, mj_ldi, mj_ldl, mj_lda, mj_ii, mj_ll, mj_li, mj_i1, ms_1, ms_2, f1_n, f1_i, f1_r, f1_u, f1_l, f2_n, f2_i, f2_r, f2_u, f2_l, mj_tg, mj_c1, mj_c2, mj_ar, mj_aw, mq_cb, mq_oi, mj_rm, Value.category, -getElem?_pos, List.getElem?_cons_zero, decide_eq_true, decide_eq_false, nl_lt, nl_le, ln_lt, ln_le, nl_eq, ln_eq, nl_add, ln_add, nl_sub, ln_mul, nI_sub, nI_mul, nI_add, nI_lt_iff, nI_le_iff, nI_inj, nI_num, mq_ix, nI_1, nl_mul, nl_div, aty_i, aty_b, aty_l, p_len hP, ha, List.append_assoc, List.cons_append, List.nil_append, g0, g4, hf, mj_E]
  exact hr
theorem n231_18 (hP : P.length = 67) (hf : fs.length = 90) (ha : as.length = 18) : ∀ r, mj_Rn (d + 1) mj_m231 148 [(0, .ref 67)] [] (P ++ (11, fs.set 25 (.ref 86)) :: (as ++ [zr 1000 3 (.int 0)])) = some r → mj_Rn (d + 1) mj_m231 141 [(0, .ref 67)] [] (P ++ (11, fs) :: as) = some r := by
  intro r hr
  have g0 := p_at (as := as ++ [zr 1000 3 (.int 0)]) hP (11, fs)
  have g4 := p_set (as := as ++ [zr 1000 3 (.int 0)]) hP (11, fs)
  unfold zr at g0 g4 hr
  simp (disch := (first | omega | decide)) [S_b0_mod_7, S_b0_mod_6, S_b0_mod_5, S_b0_mod_3, S_b0_mod_2, S_b0_mod_1, S_b0_mod_0, S_b0_mod_4h, -List.reduceReplicate, s231_141, s231_142, s231_143, s231_145, mq_k0s, mq_k1s, mq_k2s, mq_k4s, mq_k5s, mq_k5n, mq_k5as, mq_k6s, mj_pu, mj_lo, mj_br, mj_hr, mj_hw, mq_gf, mq_len, mq_al, mq_pf, mq_ok, mj_re, mq_lkm, mq_lkn, mj_ldi, mj_ldl, mj_lda, mj_ii, mj_ll, mj_li, mj_i1, ms_1, ms_2, f1_n, f1_i, f1_r, f1_u, f1_l, f2_n, f2_i, f2_r, f2_u, f2_l, mj_tg, mj_c1, mj_c2, mj_ar, mj_aw, mq_cb, mq_oi, mj_rm, Value.category, -getElem?_pos, List.getElem?_cons_zero, decide_eq_true, decide_eq_false, nl_lt, nl_le, ln_lt, ln_le, nl_eq, ln_eq, nl_add, ln_add, nl_sub, ln_mul, nI_sub, nI_mul, nI_add, nI_lt_iff, nI_le_iff, nI_inj, nI_num, mq_ix, nI_1, nl_mul, nl_div, aty_i, aty_b, aty_l, p_len hP, ha, List.append_assoc, List.cons_append, List.nil_append, g0, g4, hf, mj_E]
  exact hr
theorem n231_19 (hP : P.length = 67) (hf : fs.length = 90) (ha : as.length = 19) : ∀ r, mj_Rn (d + 1) mj_m231 155 [(0, .ref 67)] [] (P ++ (11, fs.set 26 (.ref 87)) :: (as ++ [zr 1000 3 (.int 0)])) = some r → mj_Rn (d + 1) mj_m231 148 [(0, .ref 67)] [] (P ++ (11, fs) :: as) = some r := by
  intro r hr
  have g0 := p_at (as := as ++ [zr 1000 3 (.int 0)]) hP (11, fs)
  have g4 := p_set (as := as ++ [zr 1000 3 (.int 0)]) hP (11, fs)
  unfold zr at g0 g4 hr
  simp (disch := (first | omega | decide)) [S_b0_mod_7, S_b0_mod_6, S_b0_mod_5, S_b0_mod_3, S_b0_mod_2, S_b0_mod_1, S_b0_mod_0, S_b0_mod_4h, -List.reduceReplicate, s231_148, s231_149, s231_150, s231_152, mq_k0s, mq_k1s, mq_k2s, mq_k4s, mq_k5s, mq_k5n, mq_k5as, mq_k6s, mj_pu, mj_lo, mj_br, mj_hr, mj_hw, mq_gf, mq_len, mq_al, mq_pf, mq_ok, mj_re, mq_lkm, mq_lkn, mj_ldi, mj_ldl, mj_lda, mj_ii, mj_ll, mj_li, mj_i1, ms_1, ms_2, f1_n, f1_i, f1_r, f1_u, f1_l, f2_n, f2_i, f2_r, f2_u, f2_l, mj_tg, mj_c1, mj_c2, mj_ar, mj_aw, mq_cb, mq_oi, mj_rm, Value.category, -getElem?_pos, List.getElem?_cons_zero, decide_eq_true, decide_eq_false, nl_lt, nl_le, ln_lt, ln_le, nl_eq, ln_eq, nl_add, ln_add, nl_sub, ln_mul, nI_sub, nI_mul, nI_add, nI_lt_iff, nI_le_iff, nI_inj, nI_num, mq_ix, nI_1, nl_mul, nl_div, aty_i, aty_b, aty_l, p_len hP, ha, List.append_assoc, List.cons_append, List.nil_append, g0, g4, hf, mj_E]
  exact hr
theorem n231_20 (hP : P.length = 67) (hf : fs.length = 90) (ha : as.length = 20) : ∀ r, mj_Rn (d + 1) mj_m231 162 [(0, .ref 67)] [] (P ++ (11, fs.set 27 (.ref 88)) :: (as ++ [zr 1000 3 (.int 0)])) = some r → mj_Rn (d + 1) mj_m231 155 [(0, .ref 67)] [] (P ++ (11, fs) :: as) = some r := by
  intro r hr
  have g0 := p_at (as := as ++ [zr 1000 3 (.int 0)]) hP (11, fs)
  have g4 := p_set (as := as ++ [zr 1000 3 (.int 0)]) hP (11, fs)
  unfold zr at g0 g4 hr
  simp (disch := (first | omega | decide)) [S_b0_mod_7, S_b0_mod_6, S_b0_mod_5, S_b0_mod_3, S_b0_mod_2, S_b0_mod_1, S_b0_mod_0, S_b0_mod_4h, -List.reduceReplicate, s231_155, s231_156, s231_157, s231_159, mq_k0s, mq_k1s, mq_k2s, mq_k4s, mq_k5s, mq_k5n, mq_k5as, mq_k6s, mj_pu, mj_lo, mj_br, mj_hr, mj_hw, mq_gf, mq_len, mq_al, mq_pf, mq_ok, mj_re, mq_lkm, mq_lkn, mj_ldi, mj_ldl, mj_lda, mj_ii, mj_ll, mj_li, mj_i1, ms_1, ms_2, f1_n, f1_i, f1_r, f1_u, f1_l, f2_n, f2_i, f2_r, f2_u, f2_l, mj_tg, mj_c1, mj_c2, mj_ar, mj_aw, mq_cb, mq_oi, mj_rm, Value.category, -getElem?_pos, List.getElem?_cons_zero, decide_eq_true, decide_eq_false, nl_lt, nl_le, ln_lt, ln_le, nl_eq, ln_eq, nl_add, ln_add, nl_sub, ln_mul, nI_sub, nI_mul, nI_add, nI_lt_iff, nI_le_iff, nI_inj, nI_num, mq_ix, nI_1, nl_mul, nl_div, aty_i, aty_b, aty_l, p_len hP, ha, List.append_assoc, List.cons_append, List.nil_append, g0, g4, hf, mj_E]
  exact hr
theorem n231_21 (hP : P.length = 67) (hf : fs.length = 90) (ha : as.length = 21) : ∀ r, mj_Rn (d + 1) mj_m231 170 [(0, .ref 67)] [] (P ++ (11, fs.set 28 (.ref 89)) :: (as ++ [zr 1000 36 (.int 0)])) = some r → mj_Rn (d + 1) mj_m231 162 [(0, .ref 67)] [] (P ++ (11, fs) :: as) = some r := by
  intro r hr
  have g0 := p_at (as := as ++ [zr 1000 36 (.int 0)]) hP (11, fs)
  have g4 := p_set (as := as ++ [zr 1000 36 (.int 0)]) hP (11, fs)
  unfold zr at g0 g4 hr
  simp (disch := (first | omega | decide)) [S_b0_mod_7, S_b0_mod_6, S_b0_mod_5, S_b0_mod_3, S_b0_mod_2, S_b0_mod_1, S_b0_mod_0, S_b0_mod_4h, -List.reduceReplicate, s231_162, s231_163, s231_165, s231_167, mq_k0s, mq_k1s, mq_k2s, mq_k4s, mq_k5s, mq_k5n, mq_k5as, mq_k6s, mj_pu, mj_lo, mj_br, mj_hr, mj_hw, mq_gf, mq_len, mq_al, mq_pf, mq_ok, mj_re, mq_lkm, mq_lkn, mj_ldi, mj_ldl, mj_lda, mj_ii, mj_ll, mj_li, mj_i1, ms_1, ms_2, f1_n, f1_i, f1_r, f1_u, f1_l, f2_n, f2_i, f2_r, f2_u, f2_l, mj_tg, mj_c1, mj_c2, mj_ar, mj_aw, mq_cb, mq_oi, mj_rm, Value.category, -getElem?_pos, List.getElem?_cons_zero, decide_eq_true, decide_eq_false, nl_lt, nl_le, ln_lt, ln_le, nl_eq, ln_eq, nl_add, ln_add, nl_sub, ln_mul, nI_sub, nI_mul, nI_add, nI_lt_iff, nI_le_iff, nI_inj, nI_num, mq_ix, nI_1, nl_mul, nl_div, aty_i, aty_b, aty_l, p_len hP, ha, List.append_assoc, List.cons_append, List.nil_append, g0, g4, hf, mj_E]
  exact hr
theorem n231_22 (hP : P.length = 67) (hf : fs.length = 90) (ha : as.length = 22) : ∀ r, mj_Rn (d + 1) mj_m231 178 [(0, .ref 67)] [] (P ++ (11, fs.set 29 (.ref 90)) :: (as ++ [zr 1000 36 (.int 0)])) = some r → mj_Rn (d + 1) mj_m231 170 [(0, .ref 67)] [] (P ++ (11, fs) :: as) = some r := by
  intro r hr
  have g0 := p_at (as := as ++ [zr 1000 36 (.int 0)]) hP (11, fs)
  have g4 := p_set (as := as ++ [zr 1000 36 (.int 0)]) hP (11, fs)
  unfold zr at g0 g4 hr
  simp (disch := (first | omega | decide)) [S_b0_mod_7, S_b0_mod_6, S_b0_mod_5, S_b0_mod_3, S_b0_mod_2, S_b0_mod_1, S_b0_mod_0, S_b0_mod_4h, -List.reduceReplicate, s231_170, s231_171, s231_173, s231_175, mq_k0s, mq_k1s, mq_k2s, mq_k4s, mq_k5s, mq_k5n, mq_k5as, mq_k6s, mj_pu, mj_lo, mj_br, mj_hr, mj_hw, mq_gf, mq_len, mq_al, mq_pf, mq_ok, mj_re, mq_lkm, mq_lkn, mj_ldi, mj_ldl, mj_lda, mj_ii, mj_ll, mj_li, mj_i1, ms_1, ms_2, f1_n, f1_i, f1_r, f1_u, f1_l, f2_n, f2_i, f2_r, f2_u, f2_l, mj_tg, mj_c1, mj_c2, mj_ar, mj_aw, mq_cb, mq_oi, mj_rm, Value.category, -getElem?_pos, List.getElem?_cons_zero, decide_eq_true, decide_eq_false, nl_lt, nl_le, ln_lt, ln_le, nl_eq, ln_eq, nl_add, ln_add, nl_sub, ln_mul, nI_sub, nI_mul, nI_add, nI_lt_iff, nI_le_iff, nI_inj, nI_num, mq_ix, nI_1, nl_mul, nl_div, aty_i, aty_b, aty_l, p_len hP, ha, List.append_assoc, List.cons_append, List.nil_append, g0, g4, hf, mj_E]
  exact hr
theorem n231_23 (hP : P.length = 67) (hf : fs.length = 90) (ha : as.length = 23) : ∀ r, mj_Rn (d + 1) mj_m231 186 [(0, .ref 67)] [] (P ++ (11, fs.set 30 (.ref 91)) :: (as ++ [zr 1000 36 (.int 0)])) = some r → mj_Rn (d + 1) mj_m231 178 [(0, .ref 67)] [] (P ++ (11, fs) :: as) = some r := by
  intro r hr
  have g0 := p_at (as := as ++ [zr 1000 36 (.int 0)]) hP (11, fs)
  have g4 := p_set (as := as ++ [zr 1000 36 (.int 0)]) hP (11, fs)
  unfold zr at g0 g4 hr
  simp (disch := (first | omega | decide)) [S_b0_mod_7, S_b0_mod_6, S_b0_mod_5, S_b0_mod_3, S_b0_mod_2, S_b0_mod_1, S_b0_mod_0, S_b0_mod_4h, -List.reduceReplicate, s231_178, s231_179, s231_181, s231_183, mq_k0s, mq_k1s, mq_k2s, mq_k4s, mq_k5s, mq_k5n, mq_k5as, mq_k6s, mj_pu, mj_lo, mj_br, mj_hr, mj_hw, mq_gf, mq_len, mq_al, mq_pf, mq_ok, mj_re, mq_lkm, mq_lkn, mj_ldi, mj_ldl, mj_lda, mj_ii, mj_ll, mj_li, mj_i1, ms_1, ms_2, f1_n, f1_i, f1_r, f1_u, f1_l, f2_n, f2_i, f2_r, f2_u, f2_l, mj_tg, mj_c1, mj_c2, mj_ar, mj_aw, mq_cb, mq_oi, mj_rm, Value.category, -getElem?_pos, List.getElem?_cons_zero, decide_eq_true, decide_eq_false, nl_lt, nl_le, ln_lt, ln_le, nl_eq, ln_eq, nl_add, ln_add, nl_sub, ln_mul, nI_sub, nI_mul, nI_add, nI_lt_iff, nI_le_iff, nI_inj, nI_num, mq_ix, nI_1, nl_mul, nl_div, aty_i, aty_b, aty_l, p_len hP, ha, List.append_assoc, List.cons_append, List.nil_append, g0, g4, hf, mj_E]
  exact hr
theorem n231_24 (hP : P.length = 67) (hf : fs.length = 90) (ha : as.length = 24) : ∀ r, mj_Rn (d + 1) mj_m231 194 [(0, .ref 67)] [] (P ++ (11, fs.set 31 (.ref 92)) :: (as ++ [zr 1000 36 (.int 0)])) = some r → mj_Rn (d + 1) mj_m231 186 [(0, .ref 67)] [] (P ++ (11, fs) :: as) = some r := by
  intro r hr
  have g0 := p_at (as := as ++ [zr 1000 36 (.int 0)]) hP (11, fs)
  have g4 := p_set (as := as ++ [zr 1000 36 (.int 0)]) hP (11, fs)
  unfold zr at g0 g4 hr
  simp (disch := (first | omega | decide)) [S_b0_mod_7, S_b0_mod_6, S_b0_mod_5, S_b0_mod_3, S_b0_mod_2, S_b0_mod_1, S_b0_mod_0, S_b0_mod_4h, -List.reduceReplicate, s231_186, s231_187, s231_189, s231_191, mq_k0s, mq_k1s, mq_k2s, mq_k4s, mq_k5s, mq_k5n, mq_k5as, mq_k6s, mj_pu, mj_lo, mj_br, mj_hr, mj_hw, mq_gf, mq_len, mq_al, mq_pf, mq_ok, mj_re, mq_lkm, mq_lkn, mj_ldi, mj_ldl, mj_lda, mj_ii, mj_ll, mj_li, mj_i1, ms_1, ms_2, f1_n, f1_i, f1_r, f1_u, f1_l, f2_n, f2_i, f2_r, f2_u, f2_l, mj_tg, mj_c1, mj_c2, mj_ar, mj_aw, mq_cb, mq_oi, mj_rm, Value.category, -getElem?_pos, List.getElem?_cons_zero, decide_eq_true, decide_eq_false, nl_lt, nl_le, ln_lt, ln_le, nl_eq, ln_eq, nl_add, ln_add, nl_sub, ln_mul, nI_sub, nI_mul, nI_add, nI_lt_iff, nI_le_iff, nI_inj, nI_num, mq_ix, nI_1, nl_mul, nl_div, aty_i, aty_b, aty_l, p_len hP, ha, List.append_assoc, List.cons_append, List.nil_append, g0, g4, hf, mj_E]
  exact hr
theorem n231_25 (hP : P.length = 67) (hf : fs.length = 90) (ha : as.length = 25) : ∀ r, mj_Rn (d + 1) mj_m231 202 [(0, .ref 67)] [] (P ++ (11, fs.set 32 (.ref 93)) :: (as ++ [zr 1000 36 (.int 0)])) = some r → mj_Rn (d + 1) mj_m231 194 [(0, .ref 67)] [] (P ++ (11, fs) :: as) = some r := by
  intro r hr
  have g0 := p_at (as := as ++ [zr 1000 36 (.int 0)]) hP (11, fs)
  have g4 := p_set (as := as ++ [zr 1000 36 (.int 0)]) hP (11, fs)
  unfold zr at g0 g4 hr
  simp (disch := (first | omega | decide)) [S_b0_mod_7, S_b0_mod_6, S_b0_mod_5, S_b0_mod_3, S_b0_mod_2, S_b0_mod_1, S_b0_mod_0, S_b0_mod_4h, -List.reduceReplicate, s231_194, s231_195, s231_197, s231_199, mq_k0s, mq_k1s, mq_k2s, mq_k4s, mq_k5s, mq_k5n, mq_k5as, mq_k6s, mj_pu, mj_lo, mj_br, mj_hr, mj_hw, mq_gf, mq_len, mq_al, mq_pf, mq_ok, mj_re, mq_lkm, mq_lkn, mj_ldi, mj_ldl, mj_lda, mj_ii, mj_ll, mj_li, mj_i1, ms_1, ms_2, f1_n, f1_i, f1_r, f1_u, f1_l, f2_n, f2_i, f2_r, f2_u, f2_l, mj_tg, mj_c1, mj_c2, mj_ar, mj_aw, mq_cb, mq_oi, mj_rm, Value.category, -getElem?_pos, List.getElem?_cons_zero, decide_eq_true, decide_eq_false, nl_lt, nl_le, ln_lt, ln_le, nl_eq, ln_eq, nl_add, ln_add, nl_sub, ln_mul, nI_sub, nI_mul, nI_add, nI_lt_iff, nI_le_iff, nI_inj, nI_num, mq_ix, nI_1, nl_mul, nl_div, aty_i, aty_b, aty_l, p_len hP, ha, List.append_assoc, List.cons_append, List.nil_append, g0, g4, hf, mj_E]
  exact hr
theorem n231_26 (hP : P.length = 67) (hf : fs.length = 90) (ha : as.length = 26) : ∀ r, mj_Rn (d + 1) mj_m231 211 [(0, .ref 67)] [] (P ++ (11, fs.set 33 (.ref 94)) :: (as ++ [zr 1000 288 (.int 0)])) = some r → mj_Rn (d + 1) mj_m231 202 [(0, .ref 67)] [] (P ++ (11, fs) :: as) = some r := by
  intro r hr
  have g0 := p_at (as := as ++ [zr 1000 288 (.int 0)]) hP (11, fs)
  have g4 := p_set (as := as ++ [zr 1000 288 (.int 0)]) hP (11, fs)
  unfold zr at g0 g4 hr
  simp (disch := (first | omega | decide)) [S_b0_mod_7, S_b0_mod_6, S_b0_mod_5, S_b0_mod_3, S_b0_mod_2, S_b0_mod_1, S_b0_mod_0, S_b0_mod_4h, -List.reduceReplicate, s231_202, s231_203, s231_206, s231_208, mq_k0s, mq_k1s, mq_k2s, mq_k4s, mq_k5s, mq_k5n, mq_k5as, mq_k6s, mj_pu, mj_lo, mj_br, mj_hr, mj_hw, mq_gf, mq_len, mq_al, mq_pf, mq_ok, mj_re, mq_lkm, mq_lkn, mj_ldi, mj_ldl, mj_lda, mj_ii, mj_ll, mj_li, mj_i1, ms_1, ms_2, f1_n, f1_i, f1_r, f1_u, f1_l, f2_n, f2_i, f2_r, f2_u, f2_l, mj_tg, mj_c1, mj_c2, mj_ar, mj_aw, mq_cb, mq_oi, mj_rm, Value.category, -getElem?_pos, List.getElem?_cons_zero, decide_eq_true, decide_eq_false, nl_lt, nl_le, ln_lt, ln_le, nl_eq, ln_eq, nl_add, ln_add, nl_sub, ln_mul, nI_sub, nI_mul, nI_add, nI_lt_iff, nI_le_iff, nI_inj, nI_num, mq_ix, nI_1, nl_mul, nl_div, aty_i, aty_b, aty_l, p_len hP, ha, List.append_assoc, List.cons_append, List.nil_append, g0, g4, hf, mj_E]
  exact hr
theorem n231_27 (hP : P.length = 67) (hf : fs.length = 90) (ha : as.length = 27) : ∀ r, mj_Rn (d + 1) mj_m231 218 [(0, .ref 67)] [] (P ++ (11, fs.set 34 (.ref 95)) :: (as ++ [zr 1000 3 (.int 0)])) = some r → mj_Rn (d + 1) mj_m231 211 [(0, .ref 67)] [] (P ++ (11, fs) :: as) = some r := by
  intro r hr
  have g0 := p_at (as := as ++ [zr 1000 3 (.int 0)]) hP (11, fs)
  have g4 := p_set (as := as ++ [zr 1000 3 (.int 0)]) hP (11, fs)
  unfold zr at g0 g4 hr
  simp (disch := (first | omega | decide)) [S_b0_mod_7, S_b0_mod_6, S_b0_mod_5, S_b0_mod_3, S_b0_mod_2, S_b0_mod_1, S_b0_mod_0, S_b0_mod_4h, -List.reduceReplicate, s231_211, s231_212, s231_213, s231_215, mq_k0s, mq_k1s, mq_k2s, mq_k4s, mq_k5s, mq_k5n, mq_k5as, mq_k6s, mj_pu, mj_lo, mj_br, mj_hr, mj_hw, mq_gf, mq_len, mq_al, mq_pf, mq_ok, mj_re, mq_lkm, mq_lkn, mj_ldi, mj_ldl, mj_lda, mj_ii, mj_ll, mj_li, mj_i1, ms_1, ms_2, f1_n, f1_i, f1_r, f1_u, f1_l, f2_n, f2_i, f2_r, f2_u, f2_l, mj_tg, mj_c1, mj_c2, mj_ar, mj_aw, mq_cb, mq_oi, mj_rm, Value.category, -getElem?_pos, List.getElem?_cons_zero, decide_eq_true, decide_eq_false, nl_lt, nl_le, ln_lt, ln_le, nl_eq, ln_eq, nl_add, ln_add, nl_sub, ln_mul, nI_sub, nI_mul, nI_add, nI_lt_iff, nI_le_iff, nI_inj, nI_num, mq_ix, nI_1, nl_mul, nl_div, aty_i, aty_b, aty_l, p_len hP, ha, List.append_assoc, List.cons_append, List.nil_append, g0, g4, hf, mj_E]
  exact hr
theorem n231_28 (hP : P.length = 67) (hf : fs.length = 90) (ha : as.length = 28) : ∀ r, mj_Rn (d + 1) mj_m231 225 [(0, .ref 67)] [] (P ++ (11, fs.set 35 (.ref 96)) :: (as ++ [zr 1000 3 (.int 0)])) = some r → mj_Rn (d + 1) mj_m231 218 [(0, .ref 67)] [] (P ++ (11, fs) :: as) = some r := by
  intro r hr
  have g0 := p_at (as := as ++ [zr 1000 3 (.int 0)]) hP (11, fs)
  have g4 := p_set (as := as ++ [zr 1000 3 (.int 0)]) hP (11, fs)
  unfold zr at g0 g4 hr
  simp (disch := (first | omega | decide)) [S_b0_mod_7, S_b0_mod_6, S_b0_mod_5, S_b0_mod_3, S_b0_mod_2, S_b0_mod_1, S_b0_mod_0, S_b0_mod_4h, -List.reduceReplicate, s231_218, s231_219, s231_220, s231_222, mq_k0s, mq_k1s, mq_k2s, mq_k4s, mq_k5s, mq_k5n, mq_k5as, mq_k6s, mj_pu, mj_lo, mj_br, mj_hr, mj_hw, mq_gf, mq_len, mq_al, mq_pf, mq_ok, mj_re, mq_lkm, mq_lkn, mj_ldi, mj_ldl, mj_lda, mj_ii, mj_ll, mj_li, mj_i1, ms_1, ms_2, f1_n, f1_i, f1_r, f1_u, f1_l, f2_n, f2_i, f2_r, f2_u, f2_l, mj_tg, mj_c1, mj_c2, mj_ar, mj_aw, mq_cb, mq_oi, mj_rm, Value.category, -getElem?_pos, List.getElem?_cons_zero, decide_eq_true, decide_eq_false, nl_lt, nl_le, ln_lt, ln_le, nl_eq, ln_eq, nl_add, ln_add, nl_sub, ln_mul, nI_sub, nI_mul, nI_add, nI_lt_iff, nI_le_iff, nI_inj, nI_num, mq_ix, nI_1, nl_mul, nl_div, aty_i, aty_b, aty_l, p_len hP, ha, List.append_assoc, List.cons_append, List.nil_append, g0, g4, hf, mj_E]
  exact hr
theorem n231_29 (hP : P.length = 67) (hf : fs.length = 90) (ha : as.length = 29) : ∀ r, mj_Rn (d + 1) mj_m231 232 [(0, .ref 67)] [] (P ++ (11, fs.set 36 (.ref 97)) :: (as ++ [zr 1000 3 (.int 0)])) = some r → mj_Rn (d + 1) mj_m231 225 [(0, .ref 67)] [] (P ++ (11, fs) :: as) = some r := by
  intro r hr
  have g0 := p_at (as := as ++ [zr 1000 3 (.int 0)]) hP (11, fs)
  have g4 := p_set (as := as ++ [zr 1000 3 (.int 0)]) hP (11, fs)
  unfold zr at g0 g4 hr
  simp (disch := (first | omega | decide)) [S_b0_mod_7, S_b0_mod_6, S_b0_mod_5, S_b0_mod_3, S_b0_mod_2, S_b0_mod_1, S_b0_mod_0, S_b0_mod_4h, -List.reduceReplicate, s231_225, s231_226, s231_227, s231_229, mq_k0s, mq_k1s, mq_k2s, mq_k4s, mq_k5s, mq_k5n, mq_k5as, mq_k6s, mj_pu, mj_lo, mj_br, mj_hr, mj_hw, mq_gf, mq_len, mq_al, mq_pf, mq_ok, mj_re, mq_lkm, mq_lkn, mj_ldi, mj_ldl, mj_lda, mj_ii, mj_ll, mj_li, mj_i1, ms_1, ms_2, f1_n, f1_i, f1_r, f1_u, f1_l, f2_n, f2_i, f2_r, f2_u, f2_l, mj_tg, mj_c1, mj_c2, mj_ar, mj_aw, mq_cb, mq_oi, mj_rm, Value.category, -getElem?_pos, List.getElem?_cons_zero, decide_eq_true, decide_eq_false, nl_lt, nl_le, ln_lt, ln_le, nl_eq, ln_eq, nl_add, ln_add, nl_sub, ln_mul, nI_sub, nI_mul, nI_add, nI_lt_iff, nI_le_iff, nI_inj, nI_num, mq_ix, nI_1, nl_mul, nl_div, aty_i, aty_b, aty_l, p_len hP, ha, List.append_assoc, List.cons_append, List.nil_append, g0, g4, hf, mj_E]
  exact hr
theorem n231_30 (hP : P.length = 67) (hf : fs.length = 90) (ha : as.length = 30) : ∀ r, mj_Rn (d + 1) mj_m231 239 [(0, .ref 67)] [] (P ++ (11, fs.set 37 (.ref 98)) :: (as ++ [zr 1002 3 (.int 0)])) = some r → mj_Rn (d + 1) mj_m231 232 [(0, .ref 67)] [] (P ++ (11, fs) :: as) = some r := by
  intro r hr
  have g0 := p_at (as := as ++ [zr 1002 3 (.int 0)]) hP (11, fs)
  have g4 := p_set (as := as ++ [zr 1002 3 (.int 0)]) hP (11, fs)
  unfold zr at g0 g4 hr
  simp (disch := (first | omega | decide)) [S_b0_mod_7, S_b0_mod_6, S_b0_mod_5, S_b0_mod_3, S_b0_mod_2, S_b0_mod_1, S_b0_mod_0, S_b0_mod_4h, -List.reduceReplicate, s231_232, s231_233, s231_234, s231_236, mq_k0s, mq_k1s, mq_k2s, mq_k4s, mq_k5s, mq_k5n, mq_k5as, mq_k6s, mj_pu, mj_lo, mj_br, mj_hr, mj_hw, mq_gf, mq_len, mq_al, mq_pf, mq_ok, mj_re, mq_lkm, mq_lkn, mj_ldi, mj_ldl, mj_lda, mj_ii, mj_ll, mj_li, mj_i1, ms_1, ms_2, f1_n, f1_i, f1_r, f1_u, f1_l, f2_n, f2_i, f2_r, f2_u, f2_l, mj_tg, mj_c1, mj_c2, mj_ar, mj_aw, mq_cb, mq_oi, mj_rm, Value.category, -getElem?_pos, List.getElem?_cons_zero, decide_eq_true, decide_eq_false, nl_lt, nl_le, ln_lt, ln_le, nl_eq, ln_eq, nl_add, ln_add, nl_sub, ln_mul, nI_sub, nI_mul, nI_add, nI_lt_iff, nI_le_iff, nI_inj, nI_num, mq_ix, nI_1, nl_mul, nl_div, aty_i, aty_b, aty_l, p_len hP, ha, List.append_assoc, List.cons_append, List.nil_append, g0, g4, hf, mj_E]
  exact hr
theorem n231_31 (hP : P.length = 67) (hf : fs.length = 90) (ha : as.length = 31) : ∀ r, mj_Rn (d + 1) mj_m231 246 [(0, .ref 67)] [] (P ++ (11, fs.set 38 (.ref 99)) :: (as ++ [zr 1000 3 (.int 0)])) = some r → mj_Rn (d + 1) mj_m231 239 [(0, .ref 67)] [] (P ++ (11, fs) :: as) = some r := by
  intro r hr
  have g0 := p_at (as := as ++ [zr 1000 3 (.int 0)]) hP (11, fs)
  have g4 := p_set (as := as ++ [zr 1000 3 (.int 0)]) hP (11, fs)
  unfold zr at g0 g4 hr
  simp (disch := (first | omega | decide)) [S_b0_mod_7, S_b0_mod_6, S_b0_mod_5, S_b0_mod_3, S_b0_mod_2, S_b0_mod_1, S_b0_mod_0, S_b0_mod_4h, -List.reduceReplicate, s231_239, s231_240, s231_241, s231_243, mq_k0s, mq_k1s, mq_k2s, mq_k4s, mq_k5s, mq_k5n, mq_k5as, mq_k6s, mj_pu, mj_lo, mj_br, mj_hr, mj_hw, mq_gf, mq_len, mq_al, mq_pf, mq_ok, mj_re, mq_lkm, mq_lkn, mj_ldi, mj_ldl, mj_lda, mj_ii, mj_ll, mj_li, mj_i1, ms_1, ms_2, f1_n, f1_i, f1_r, f1_u, f1_l, f2_n, f2_i, f2_r, f2_u, f2_l, mj_tg, mj_c1, mj_c2, mj_ar, mj_aw, mq_cb, mq_oi, mj_rm, Value.category, -getElem?_pos, List.getElem?_cons_zero, decide_eq_true, decide_eq_false, nl_lt, nl_le, ln_lt, ln_le, nl_eq, ln_eq, nl_add, ln_add, nl_sub, ln_mul, nI_sub, nI_mul, nI_add, nI_lt_iff, nI_le_iff, nI_inj, nI_num, mq_ix, nI_1, nl_mul, nl_div, aty_i, aty_b, aty_l, p_len hP, ha, List.append_assoc, List.cons_append, List.nil_append, g0, g4, hf, mj_E]
  exact hr
theorem n231_32 (hP : P.length = 67) (hf : fs.length = 90) (ha : as.length = 32) : ∀ r, mj_Rn (d + 1) mj_m231 253 [(0, .ref 67)] [] (P ++ (11, fs.set 39 (.ref 100)) :: (as ++ [zr 1000 3 (.int 0)])) = some r → mj_Rn (d + 1) mj_m231 246 [(0, .ref 67)] [] (P ++ (11, fs) :: as) = some r := by
  intro r hr
  have g0 := p_at (as := as ++ [zr 1000 3 (.int 0)]) hP (11, fs)
  have g4 := p_set (as := as ++ [zr 1000 3 (.int 0)]) hP (11, fs)
  unfold zr at g0 g4 hr
  simp (disch := (first | omega | decide)) [S_b0_mod_7, S_b0_mod_6, S_b0_mod_5, S_b0_mod_3, S_b0_mod_2, S_b0_mod_1, S_b0_mod_0, S_b0_mod_4h, -List.reduceReplicate, s231_246, s231_247, s231_248, s231_250, mq_k0s, mq_k1s, mq_k2s, mq_k4s, mq_k5s, mq_k5n, mq_k5as, mq_k6s, mj_pu, mj_lo, mj_br, mj_hr, mj_hw, mq_gf, mq_len, mq_al, mq_pf, mq_ok, mj_re, mq_lkm, mq_lkn, mj_ldi, mj_ldl, mj_lda, mj_ii, mj_ll, mj_li, mj_i1, ms_1, ms_2, f1_n, f1_i, f1_r, f1_u, f1_l, f2_n, f2_i, f2_r, f2_u, f2_l, mj_tg, mj_c1, mj_c2, mj_ar, mj_aw, mq_cb, mq_oi, mj_rm, Value.category, -getElem?_pos, List.getElem?_cons_zero, decide_eq_true, decide_eq_false, nl_lt, nl_le, ln_lt, ln_le, nl_eq, ln_eq, nl_add, ln_add, nl_sub, ln_mul, nI_sub, nI_mul, nI_add, nI_lt_iff, nI_le_iff, nI_inj, nI_num, mq_ix, nI_1, nl_mul, nl_div, aty_i, aty_b, aty_l, p_len hP, ha, List.append_assoc, List.cons_append, List.nil_append, g0, g4, hf, mj_E]
  exact hr
theorem n231_33 (hP : P.length = 67) (hf : fs.length = 90) (ha : as.length = 33) : ∀ r, mj_Rn (d + 1) mj_m231 261 [(0, .ref 67)] [] (P ++ (11, fs.set 40 (.ref 101)) :: (as ++ [zr 1000 36 (.int 0)])) = some r → mj_Rn (d + 1) mj_m231 253 [(0, .ref 67)] [] (P ++ (11, fs) :: as) = some r := by
  intro r hr
  have g0 := p_at (as := as ++ [zr 1000 36 (.int 0)]) hP (11, fs)
  have g4 := p_set (as := as ++ [zr 1000 36 (.int 0)]) hP (11, fs)
  unfold zr at g0 g4 hr
  simp (disch := (first | omega | decide)) [S_b0_mod_7, S_b0_mod_6, S_b0_mod_5, S_b0_mod_3, S_b0_mod_2, S_b0_mod_1, S_b0_mod_0, S_b0_mod_4h, -List.reduceReplicate, s231_253, s231_254, s231_256, s231_258, mq_k0s, mq_k1s, mq_k2s, mq_k4s, mq_k5s, mq_k5n, mq_k5as, mq_k6s, mj_pu, mj_lo, mj_br, mj_hr, mj_hw, mq_gf, mq_len, mq_al, mq_pf, mq_ok, mj_re, mq_lkm, mq_lkn, mj_ldi, mj_ldl, mj_lda, mj_ii, mj_ll, mj_li, mj_i1, ms_1, ms_2, f1_n, f1_i, f1_r, f1_u, f1_l, f2_n, f2_i, f2_r, f2_u, f2_l, mj_tg, mj_c1, mj_c2, mj_ar, mj_aw, mq_cb, mq_oi, mj_rm, Value.category, -getElem?_pos, List.getElem?_cons_zero, decide_eq_true, decide_eq_false, nl_lt, nl_le, ln_lt, ln_le, nl_eq, ln_eq, nl_add, ln_add, nl_sub, ln_mul, nI_sub, nI_mul, nI_add, nI_lt_iff, nI_le_iff, nI_inj, nI_num, mq_ix, nI_1, nl_mul, nl_div, aty_i, aty_b, aty_l, p_len hP, ha, List.append_assoc, List.cons_append, List.nil_append, g0, g4, hf, mj_E]
  exact hr
theorem n231_34 (hP : P.length = 67) (hf : fs.length = 90) (ha : as.length = 34) : ∀ r, mj_Rn (d + 1) mj_m231 268 [(0, .ref 67)] [] (P ++ (11, fs.set 41 (.ref 102)) :: (as ++ [zr 1000 3 (.int 0)])) = some r → mj_Rn (d + 1) mj_m231 261 [(0, .ref 67)] [] (P ++ (11, fs) :: as) = some r := by
  intro r hr
  have g0 := p_at (as := as ++ [zr 1000 3 (.int 0)]) hP (11, fs)
  have g4 := p_set (as := as ++ [zr 1000 3 (.int 0)]) hP (11, fs)
  unfold zr at g0 g4 hr
  simp (disch := (first | omega | decide)) [S_b0_mod_7, S_b0_mod_6, S_b0_mod_5, S_b0_mod_3, S_b0_mod_2, S_b0_mod_1, S_b0_mod_0, S_b0_mod_4h, -List.reduceReplicate, s231_261, s231_262, s231_263, s231_265, mq_k0s, mq_k1s, mq_k2s, mq_k4s, mq_k5s, mq_k5n, mq_k5as, mq_k6s, mj_pu, mj_lo, mj_br, mj_hr, mj_hw, mq_gf, mq_len, mq_al, mq_pf, mq_ok, mj_re, mq_lkm, mq_lkn, mj_ldi, mj_ldl, mj_lda, mj_ii, mj_ll, mj_li, mj_i1, ms_1, ms_2, f1_n, f1_i, f1_r, f1_u, f1_l, f2_n, f2_i, f2_r, f2_u, f2_l, mj_tg, mj_c1, mj_c2, mj_ar, mj_aw, mq_cb, mq_oi, mj_rm, Value.category, -getElem?_pos, List.getElem?_cons_zero, decide_eq_true, decide_eq_false, nl_lt, nl_le, ln_lt, ln_le, nl_eq, ln_eq, nl_add, ln_add, nl_sub, ln_mul, nI_sub, nI_mul, nI_add, nI_lt_iff, nI_le_iff, nI_inj, nI_num, mq_ix, nI_1, nl_mul, nl_div, aty_i, aty_b, aty_l, p_len hP, ha, List.append_assoc, List.cons_append, List.nil_append, g0, g4, hf, mj_E]
  exact hr
theorem n231_35 (hP : P.length = 67) (hf : fs.length = 90) (ha : as.length = 35) : ∀ r, mj_Rn (d + 1) mj_m231 275 [(0, .ref 67)] [] (P ++ (11, fs.set 42 (.ref 103)) :: (as ++ [zr 1000 3 (.int 0)])) = some r → mj_Rn (d + 1) mj_m231 268 [(0, .ref 67)] [] (P ++ (11, fs) :: as) = some r := by
  intro r hr
  have g0 := p_at (as := as ++ [zr 1000 3 (.int 0)]) hP (11, fs)
  have g4 := p_set (as := as ++ [zr 1000 3 (.int 0)]) hP (11, fs)
  unfold zr at g0 g4 hr
  simp (disch := (first | omega | decide)) [S_b0_mod_7, S_b0_mod_6, S_b0_mod_5, S_b0_mod_3, S_b0_mod_2, S_b0_mod_1, S_b0_mod_0, S_b0_mod_4h, -List.reduceReplicate, s231_268, s231_269, s231_270, s231_272, mq_k0s, mq_k1s, mq_k2s, mq_k4s, mq_k5s, mq_k5n, mq_k5as, mq_k6s, mj_pu, mj_lo, mj_br, mj_hr, mj_hw, mq_gf, mq_len, mq_al, mq_pf, mq_ok, mj_re, mq_lkm, mq_lkn, mj_ldi, mj_ldl, mj_lda, mj_ii, mj_ll, mj_li, mj_i1, ms_1, ms_2, f1_n, f1_i, f1_r, f1_u, f1_l, f2_n, f2_i, f2_r, f2_u, f2_l, mj_tg, mj_c1, mj_c2, mj_ar, mj_aw, mq_cb, mq_oi, mj_rm, Value.category, -getElem?_pos, List.getElem?_cons_zero, decide_eq_true, decide_eq_false, nl_lt, nl_le, ln_lt, ln_le, nl_eq, ln_eq, nl_add, ln_add, nl_sub, ln_mul, nI_sub, nI_mul, nI_add, nI_lt_iff, nI_le_iff, nI_inj, nI_num, mq_ix, nI_1, nl_mul, nl_div, aty_i, aty_b, aty_l, p_len hP, ha, List.append_assoc, List.cons_append, List.nil_append, g0, g4, hf, mj_E]
  exact hr
theorem n231_36 (hP : P.length = 67) (hf : fs.length = 90) (ha : as.length = 36) : ∀ r, mj_Rn (d + 1) mj_m231 283 [(0, .ref 67)] [] (P ++ (11, fs.set 43 (.ref 104)) :: (as ++ [zr 1000 32 (.int 0)])) = some r → mj_Rn (d + 1) mj_m231 275 [(0, .ref 67)] [] (P ++ (11, fs) :: as) = some r := by
  intro r hr
  have g0 := p_at (as := as ++ [zr 1000 32 (.int 0)]) hP (11, fs)
  have g4 := p_set (as := as ++ [zr 1000 32 (.int 0)]) hP (11, fs)
  unfold zr at g0 g4 hr
  simp (disch := (first | omega | decide)) [S_b0_mod_7, S_b0_mod_6, S_b0_mod_5, S_b0_mod_3, S_b0_mod_2, S_b0_mod_1, S_b0_mod_0, S_b0_mod_4h, -List.reduceReplicate, s231_275, s231_276, s231_278, s231_280, mq_k0s, mq_k1s, mq_k2s, mq_k4s, mq_k5s, mq_k5n, mq_k5as, mq_k6s, mj_pu, mj_lo, mj_br, mj_hr, mj_hw, mq_gf, mq_len, mq_al, mq_pf, mq_ok, mj_re, mq_lkm, mq_lkn, mj_ldi, mj_ldl, mj_lda, mj_ii, mj_ll, mj_li, mj_i1, ms_1, ms_2, f1_n, f1_i, f1_r, f1_u, f1_l, f2_n, f2_i, f2_r, f2_u, f2_l, mj_tg, mj_c1, mj_c2, mj_ar, mj_aw, mq_cb, mq_oi, mj_rm, Value.category, -getElem?_pos, List.getElem?_cons_zero, decide_eq_true, decide_eq_false, nl_lt, nl_le, ln_lt, ln_le, nl_eq, ln_eq, nl_add, ln_add, nl_sub, ln_mul, nI_sub, nI_mul, nI_add, nI_lt_iff, nI_le_iff, nI_inj, nI_num, mq_ix, nI_1, nl_mul, nl_div, aty_i, aty_b, aty_l, p_len hP, ha, List.append_assoc, List.cons_append, List.nil_append, g0, g4, hf, mj_E]
  exact hr
theorem n231_37 (hP : P.length = 67) (hf : fs.length = 90) (ha : as.length = 37) : ∀ r, mj_Rn (d + 1) mj_m231 291 [(0, .ref 67)] [] (P ++ (11, fs.set 44 (.ref 105)) :: (as ++ [zr 1000 32 (.int 0)])) = some r → mj_Rn (d + 1) mj_m231 283 [(0, .ref 67)] [] (P ++ (11, fs) :: as) = some r := by
  intro r hr
  have g0 := p_at (as := as ++ [zr 1000 32 (.int 0)]) hP (11, fs)
  have g4 := p_set (as := as ++ [zr 1000 32 (.int 0)]) hP (11, fs)
  unfold zr at g0 g4 hr
  simp (disch := (first | omega | decide)) [S_b0_mod_7, S_b0_mod_6, S_b0_mod_5, S_b0_mod_3, S_b0_mod_2, S_b0_mod_1, S_b0_mod_0, S_b0_mod_4h, -List.reduceReplicate, s231_283, s231_284, s231_286, s231_288, mq_k0s, mq_k1s, mq_k2s, mq_k4s, mq_k5s, mq_k5n, mq_k5as, mq_k6s, mj_pu, mj_lo, mj_br, mj_hr, mj_hw, mq_gf, mq_len, mq_al, mq_pf, mq_ok, mj_re, mq_lkm, mq_lkn, mj_ldi, mj_ldl, mj_lda, mj_ii, mj_ll, mj_li, mj_i1, ms_1, ms_2, f1_n, f1_i, f1_r, f1_u, f1_l, f2_n, f2_i, f2_r, f2_u, f2_l, mj_tg, mj_c1, mj_c2, mj_ar, mj_aw, mq_cb, mq_oi, mj_rm, Value.category, -getElem?_pos, List.getElem?_cons_zero, decide_eq_true, decide_eq_false, nl_lt, nl_le, ln_lt, ln_le, nl_eq, ln_eq, nl_add, ln_add, nl_sub, ln_mul, nI_sub, nI_mul, nI_add, nI_lt_iff, nI_le_iff, nI_inj, nI_num, mq_ix, nI_1, nl_mul, nl_div, aty_i, aty_b, aty_l, p_len hP, ha, List.append_assoc, List.cons_append, List.nil_append, g0, g4, hf, mj_E]
  exact hr
theorem n231_38 (hP : P.length = 67) (hf : fs.length = 90) (ha : as.length = 38) : ∀ r, mj_Rn (d + 1) mj_m231 300 [(0, .ref 67)] [] (P ++ (11, fs.set 46 (.ref 106)) :: (as ++ [zr 1000 640 (.int 0)])) = some r → mj_Rn (d + 1) mj_m231 291 [(0, .ref 67)] [] (P ++ (11, fs) :: as) = some r := by
  intro r hr
  have g0 := p_at (as := as ++ [zr 1000 640 (.int 0)]) hP (11, fs)
  have g4 := p_set (as := as ++ [zr 1000 640 (.int 0)]) hP (11, fs)
  unfold zr at g0 g4 hr
  simp (disch := (first | omega | decide)) [S_b0_mod_7, S_b0_mod_6, S_b0_mod_5, S_b0_mod_3, S_b0_mod_2, S_b0_mod_1, S_b0_mod_0, S_b0_mod_4h, -List.reduceReplicate, s231_291, s231_292, s231_295, s231_297, mq_k0s, mq_k1s, mq_k2s, mq_k4s, mq_k5s, mq_k5n, mq_k5as, mq_k6s, mj_pu, mj_lo, mj_br, mj_hr, mj_hw, mq_gf, mq_len, mq_al, mq_pf, mq_ok, mj_re, mq_lkm, mq_lkn, mj_ldi, mj_ldl, mj_lda, mj_ii, mj_ll, mj_li, mj_i1, ms_1, ms_2, f1_n, f1_i, f1_r, f1_u, f1_l, f2_n, f2_i, f2_r, f2_u, f2_l, mj_tg, mj_c1, mj_c2, mj_ar, mj_aw, mq_cb, mq_oi, mj_rm, Value.category, -getElem?_pos, List.getElem?_cons_zero, decide_eq_true, decide_eq_false, nl_lt, nl_le, ln_lt, ln_le, nl_eq, ln_eq, nl_add, ln_add, nl_sub, ln_mul, nI_sub, nI_mul, nI_add, nI_lt_iff, nI_le_iff, nI_inj, nI_num, mq_ix, nI_1, nl_mul, nl_div, aty_i, aty_b, aty_l, p_len hP, ha, List.append_assoc, List.cons_append, List.nil_append, g0, g4, hf, mj_E]
  exact hr
theorem n231_39 (hP : P.length = 67) (hf : fs.length = 90) (ha : as.length = 39) : ∀ r, mj_Rn (d + 1) mj_m231 307 [(0, .ref 67)] [] (P ++ (11, fs.set 48 (.ref 107)) :: (as ++ [zr 1002 5 (.int 0)])) = some r → mj_Rn (d + 1) mj_m231 300 [(0, .ref 67)] [] (P ++ (11, fs) :: as) = some r := by
  intro r hr
  have g0 := p_at (as := as ++ [zr 1002 5 (.int 0)]) hP (11, fs)
  have g4 := p_set (as := as ++ [zr 1002 5 (.int 0)]) hP (11, fs)
  unfold zr at g0 g4 hr
  simp (disch := (first | omega | decide)) [S_b0_mod_7, S_b0_mod_6, S_b0_mod_5, S_b0_mod_3, S_b0_mod_2, S_b0_mod_1, S_b0_mod_0, S_b0_mod_4h, -List.reduceReplicate, s231_300, s231_301, s231_302, s231_304, mq_k0s, mq_k1s, mq_k2s, mq_k4s, mq_k5s, mq_k5n, mq_k5as, mq_k6s, mj_pu, mj_lo, mj_br, mj_hr, mj_hw, mq_gf, mq_len, mq_al, mq_pf, mq_ok, mj_re, mq_lkm, mq_lkn, mj_ldi, mj_ldl, mj_lda, mj_ii, mj_ll, mj_li, mj_i1, ms_1, ms_2, f1_n, f1_i, f1_r, f1_u, f1_l, f2_n, f2_i, f2_r, f2_u, f2_l, mj_tg, mj_c1, mj_c2, mj_ar, mj_aw, mq_cb, mq_oi, mj_rm, Value.category, -getElem?_pos, List.getElem?_cons_zero, decide_eq_true, decide_eq_false, nl_lt, nl_le, ln_lt, ln_le, nl_eq, ln_eq, nl_add, ln_add, nl_sub, ln_mul, nI_sub, nI_mul, nI_add, nI_lt_iff, nI_le_iff, nI_inj, nI_num, mq_ix, nI_1, nl_mul, nl_div, aty_i, aty_b, aty_l, p_len hP, ha, List.append_assoc, List.cons_append, List.nil_append, g0, g4, hf, mj_E]
  exact hr
theorem n231_40 (hP : P.length = 67) (hf : fs.length = 90) (ha : as.length = 40) : ∀ r, mj_Rn (d + 1) mj_m231 314 [(0, .ref 67)] [] (P ++ (11, fs.set 49 (.ref 108)) :: (as ++ [zr 1003 5 (.long 0)])) = some r → mj_Rn (d + 1) mj_m231 307 [(0, .ref 67)] [] (P ++ (11, fs) :: as) = some r := by
  intro r hr
  have g0 := p_at (as := as ++ [zr 1003 5 (.long 0)]) hP (11, fs)
  have g4 := p_set (as := as ++ [zr 1003 5 (.long 0)]) hP (11, fs)
  unfold zr at g0 g4 hr
  simp (disch := (first | omega | decide)) [S_b0_mod_7, S_b0_mod_6, S_b0_mod_5, S_b0_mod_3, S_b0_mod_2, S_b0_mod_1, S_b0_mod_0, S_b0_mod_4h, -List.reduceReplicate, s231_307, s231_308, s231_309, s231_311, mq_k0s, mq_k1s, mq_k2s, mq_k4s, mq_k5s, mq_k5n, mq_k5as, mq_k6s, mj_pu, mj_lo, mj_br, mj_hr, mj_hw, mq_gf, mq_len, mq_al, mq_pf, mq_ok, mj_re, mq_lkm, mq_lkn, mj_ldi, mj_ldl, mj_lda, mj_ii, mj_ll, mj_li, mj_i1, ms_1, ms_2, f1_n, f1_i, f1_r, f1_u, f1_l, f2_n, f2_i, f2_r, f2_u, f2_l, mj_tg, mj_c1, mj_c2, mj_ar, mj_aw, mq_cb, mq_oi, mj_rm, Value.category, -getElem?_pos, List.getElem?_cons_zero, decide_eq_true, decide_eq_false, nl_lt, nl_le, ln_lt, ln_le, nl_eq, ln_eq, nl_add, ln_add, nl_sub, ln_mul, nI_sub, nI_mul, nI_add, nI_lt_iff, nI_le_iff, nI_inj, nI_num, mq_ix, nI_1, nl_mul, nl_div, aty_i, aty_b, aty_l, p_len hP, ha, List.append_assoc, List.cons_append, List.nil_append, g0, g4, hf, mj_E]
  exact hr
theorem n231_41 (hP : P.length = 67) (hf : fs.length = 90) (ha : as.length = 41) : ∀ r, mj_Rn (d + 1) mj_m231 321 [(0, .ref 67)] [] (P ++ (11, fs.set 50 (.ref 109)) :: (as ++ [zr 1000 5 (.int 0)])) = some r → mj_Rn (d + 1) mj_m231 314 [(0, .ref 67)] [] (P ++ (11, fs) :: as) = some r := by
  intro r hr
  have g0 := p_at (as := as ++ [zr 1000 5 (.int 0)]) hP (11, fs)
  have g4 := p_set (as := as ++ [zr 1000 5 (.int 0)]) hP (11, fs)
  unfold zr at g0 g4 hr
  simp (disch := (first | omega | decide)) [S_b0_mod_7, S_b0_mod_6, S_b0_mod_5, S_b0_mod_3, S_b0_mod_2, S_b0_mod_1, S_b0_mod_0, S_b0_mod_4h, -List.reduceReplicate, s231_314, s231_315, s231_316, s231_318, mq_k0s, mq_k1s, mq_k2s, mq_k4s, mq_k5s, mq_k5n, mq_k5as, mq_k6s, mj_pu, mj_lo, mj_br, mj_hr, mj_hw, mq_gf, mq_len, mq_al, mq_pf, mq_ok, mj_re, mq_lkm, mq_lkn, mj_ldi, mj_ldl, mj_lda, mj_ii, mj_ll, mj_li, mj_i1, ms_1, ms_2, f1_n, f1_i, f1_r, f1_u, f1_l, f2_n, f2_i, f2_r, f2_u, f2_l, mj_tg, mj_c1, mj_c2, mj_ar, mj_aw, mq_cb, mq_oi, mj_rm, Value.category, -getElem?_pos, List.getElem?_cons_zero, decide_eq_true, decide_eq_false, nl_lt, nl_le, ln_lt, ln_le, nl_eq, ln_eq, nl_add, ln_add, nl_sub, ln_mul, nI_sub, nI_mul, nI_add, nI_lt_iff, nI_le_iff, nI_inj, nI_num, mq_ix, nI_1, nl_mul, nl_div, aty_i, aty_b, aty_l, p_len hP, ha, List.append_assoc, List.cons_append, List.nil_append, g0, g4, hf, mj_E]
  exact hr
theorem n231_42 (hP : P.length = 67) (hf : fs.length = 90) (ha : as.length = 42) : ∀ r, mj_Rn (d + 1) mj_m231 328 [(0, .ref 67)] [] (P ++ (11, fs.set 51 (.ref 110)) :: (as ++ [zr 1000 5 (.int 0)])) = some r → mj_Rn (d + 1) mj_m231 321 [(0, .ref 67)] [] (P ++ (11, fs) :: as) = some r := by
  intro r hr
  have g0 := p_at (as := as ++ [zr 1000 5 (.int 0)]) hP (11, fs)
  have g4 := p_set (as := as ++ [zr 1000 5 (.int 0)]) hP (11, fs)
  unfold zr at g0 g4 hr
  simp (disch := (first | omega | decide)) [S_b0_mod_7, S_b0_mod_6, S_b0_mod_5, S_b0_mod_3, S_b0_mod_2, S_b0_mod_1, S_b0_mod_0, S_b0_mod_4h, -List.reduceReplicate, s231_321, s231_322, s231_323, s231_325, mq_k0s, mq_k1s, mq_k2s, mq_k4s, mq_k5s, mq_k5n, mq_k5as, mq_k6s, mj_pu, mj_lo, mj_br, mj_hr, mj_hw, mq_gf, mq_len, mq_al, mq_pf, mq_ok, mj_re, mq_lkm, mq_lkn, mj_ldi, mj_ldl, mj_lda, mj_ii, mj_ll, mj_li, mj_i1, ms_1, ms_2, f1_n, f1_i, f1_r, f1_u, f1_l, f2_n, f2_i, f2_r, f2_u, f2_l, mj_tg, mj_c1, mj_c2, mj_ar, mj_aw, mq_cb, mq_oi, mj_rm, Value.category, -getElem?_pos, List.getElem?_cons_zero, decide_eq_true, decide_eq_false, nl_lt, nl_le, ln_lt, ln_le, nl_eq, ln_eq, nl_add, ln_add, nl_sub, ln_mul, nI_sub, nI_mul, nI_add, nI_lt_iff, nI_le_iff, nI_inj, nI_num, mq_ix, nI_1, nl_mul, nl_div, aty_i, aty_b, aty_l, p_len hP, ha, List.append_assoc, List.cons_append, List.nil_append, g0, g4, hf, mj_E]
  exact hr
theorem n231_43 (hP : P.length = 67) (hf : fs.length = 90) (ha : as.length = 43) : ∀ r, mj_Rn (d + 1) mj_m231 390 [(0, .ref 67)] [] (P ++ (11, fs.set 52 (.ref 111)) :: (as ++ [(1000, [(112 : Int32), (117 : Int32), (98 : Int32), (108 : Int32), (105 : Int32), (99 : Int32), (45 : Int32), (107 : Int32), (101 : Int32), (121 : Int32)].map Value.int)])) = some r → mj_Rn (d + 1) mj_m231 328 [(0, .ref 67)] [] (P ++ (11, fs) :: as) = some r := by
  intro r hr
  have g0 := p_at (as := as ++ [zr 1000 10 (.int 0)]) hP (11, fs)
  have g1 := p_last (as := as) hP (11, fs)
  have g2 := p_slast (as := as) hP (11, fs)
  have g3 := p_at (as := as ++ [(1000, [(112 : Int32), (117 : Int32), (98 : Int32), (108 : Int32), (105 : Int32), (99 : Int32), (45 : Int32), (107 : Int32), (101 : Int32), (121 : Int32)].map Value.int)]) hP (11, fs)
  have g4 := p_set (as := as ++ [(1000, [(112 : Int32), (117 : Int32), (98 : Int32), (108 : Int32), (105 : Int32), (99 : Int32), (45 : Int32), (107 : Int32), (101 : Int32), (121 : Int32)].map Value.int)]) hP (11, fs)
  rw [ha] at g1 g2
  unfold zr at g0
  simp (disch := (first | omega | decide)) [S_b0_mod_7, S_b0_mod_6, S_b0_mod_5, S_b0_mod_3, S_b0_mod_2, S_b0_mod_1, S_b0_mod_0, S_b0_mod_4h, s231_328, s231_329, s231_331, s231_333, s231_334, s231_335, s231_337, s231_338, s231_339, s231_340, s231_342, s231_343, s231_344, s231_345, s231_347, s231_348, s231_349, s231_350, s231_352, s231_353, s231_354, s231_355, s231_357, s231_358, s231_359, s231_360, s231_362, s231_363, s231_364, s231_366, s231_368, s231_369, s231_370, s231_372, s231_374, s231_375, s231_376, s231_378, s231_380, s231_381, s231_382, s231_384, s231_386, s231_387, iy10_0, iy10_1, iy10_2, iy10_3, iy10_4, iy10_5, iy10_6, iy10_7, iy10_8, iy10_9, mq_k0s, mq_k1s, mq_k2s, mq_k4s, mq_k5s, mq_k5n, mq_k5as, mq_k6s, mj_pu, mj_lo, mj_br, mj_hr, mj_hw, mq_gf, mq_len, mq_al, mq_pf, mq_ok, mj_re, mq_lkm, mq_lkn, mj_ldi, mj_ldl, mj_lda, mj_ii, mj_ll, mj_li, mj_i1, ms_1, ms_2, f1_n, f1_i, f1_r, f1_u, f1_l, f2_n, f2_i, f2_r, f2_u, f2_l, mj_tg, mj_c1, mj_c2, mj_ar, mj_aw, mq_cb, mq_oi, mj_rm, Value.category, -getElem?_pos, List.getElem?_cons_zero, decide_eq_true, decide_eq_false, nl_lt, nl_le, ln_lt, ln_le, nl_eq, ln_eq, nl_add, ln_add, nl_sub, ln_mul, nI_sub, nI_mul, nI_add, nI_lt_iff, nI_le_iff, nI_inj, nI_num, mq_ix, nI_1, nl_mul, nl_div, aty_i, p_len hP, ha, List.append_assoc, List.cons_append, List.nil_append, g0, g1, g2, hf, mj_E, List.replicate_succ, List.replicate_zero]
  simp [S_b0_mod_7, S_b0_mod_6, S_b0_mod_5, S_b0_mod_3, S_b0_mod_2, S_b0_mod_1, S_b0_mod_0, S_b0_mod_4h] at g3 g4
  simp [S_b0_mod_7, S_b0_mod_6, S_b0_mod_5, S_b0_mod_3, S_b0_mod_2, S_b0_mod_1, S_b0_mod_0, S_b0_mod_4h, g3, g4, hf, mq_k4s]
  simpa [S_b0_mod_7, S_b0_mod_6, S_b0_mod_5, S_b0_mod_3, S_b0_mod_2, S_b0_mod_1, S_b0_mod_0, S_b0_mod_4h] using hr
theorem n231_44 (hP : P.length = 67) (hf : fs.length = 90) (ha : as.length = 44) : ∀ r, mj_Rn (d + 1) mj_m231 399 [(0, .ref 67)] [] (P ++ (11, fs.set 53 (.ref 112)) :: (as ++ [zr 1000 1200 (.int 0)])) = some r → mj_Rn (d + 1) mj_m231 390 [(0, .ref 67)] [] (P ++ (11, fs) :: as) = some r := by
  intro r hr
  have g0 := p_at (as := as ++ [zr 1000 1200 (.int 0)]) hP (11, fs)
  have g4 := p_set (as := as ++ [zr 1000 1200 (.int 0)]) hP (11, fs)
  unfold zr at g0 g4 hr
  simp (disch := (first | omega | decide)) [S_b0_mod_7, S_b0_mod_6, S_b0_mod_5, S_b0_mod_3, S_b0_mod_2, S_b0_mod_1, S_b0_mod_0, S_b0_mod_4h, -List.reduceReplicate, s231_390, s231_391, s231_394, s231_396, mq_k0s, mq_k1s, mq_k2s, mq_k4s, mq_k5s, mq_k5n, mq_k5as, mq_k6s, mj_pu, mj_lo, mj_br, mj_hr, mj_hw, mq_gf, mq_len, mq_al, mq_pf, mq_ok, mj_re, mq_lkm, mq_lkn, mj_ldi, mj_ldl, mj_lda, mj_ii, mj_ll, mj_li, mj_i1, ms_1, ms_2, f1_n, f1_i, f1_r, f1_u, f1_l, f2_n, f2_i, f2_r, f2_u, f2_l, mj_tg, mj_c1, mj_c2, mj_ar, mj_aw, mq_cb, mq_oi, mj_rm, Value.category, -getElem?_pos, List.getElem?_cons_zero, decide_eq_true, decide_eq_false, nl_lt, nl_le, ln_lt, ln_le, nl_eq, ln_eq, nl_add, ln_add, nl_sub, ln_mul, nI_sub, nI_mul, nI_add, nI_lt_iff, nI_le_iff, nI_inj, nI_num, mq_ix, nI_1, nl_mul, nl_div, aty_i, aty_b, aty_l, p_len hP, ha, List.append_assoc, List.cons_append, List.nil_append, g0, g4, hf, mj_E]
  exact hr
theorem n231_45 (hP : P.length = 67) (hf : fs.length = 90) (ha : as.length = 45) : ∀ r, mj_Rn (d + 1) mj_m231 406 [(0, .ref 67)] [] (P ++ (11, fs.set 54 (.ref 113)) :: (as ++ [zr 1000 3 (.int 0)])) = some r → mj_Rn (d + 1) mj_m231 399 [(0, .ref 67)] [] (P ++ (11, fs) :: as) = some r := by
  intro r hr
  have g0 := p_at (as := as ++ [zr 1000 3 (.int 0)]) hP (11, fs)
  have g4 := p_set (as := as ++ [zr 1000 3 (.int 0)]) hP (11, fs)
  unfold zr at g0 g4 hr
  simp (disch := (first | omega | decide)) [S_b0_mod_7, S_b0_mod_6, S_b0_mod_5, S_b0_mod_3, S_b0_mod_2, S_b0_mod_1, S_b0_mod_0, S_b0_mod_4h, -List.reduceReplicate, s231_399, s231_400, s231_401, s231_403, mq_k0s, mq_k1s, mq_k2s, mq_k4s, mq_k5s, mq_k5n, mq_k5as, mq_k6s, mj_pu, mj_lo, mj_br, mj_hr, mj_hw, mq_gf, mq_len, mq_al, mq_pf, mq_ok, mj_re, mq_lkm, mq_lkn, mj_ldi, mj_ldl, mj_lda, mj_ii, mj_ll, mj_li, mj_i1, ms_1, ms_2, f1_n, f1_i, f1_r, f1_u, f1_l, f2_n, f2_i, f2_r, f2_u, f2_l, mj_tg, mj_c1, mj_c2, mj_ar, mj_aw, mq_cb, mq_oi, mj_rm, Value.category, -getElem?_pos, List.getElem?_cons_zero, decide_eq_true, decide_eq_false, nl_lt, nl_le, ln_lt, ln_le, nl_eq, ln_eq, nl_add, ln_add, nl_sub, ln_mul, nI_sub, nI_mul, nI_add, nI_lt_iff, nI_le_iff, nI_inj, nI_num, mq_ix, nI_1, nl_mul, nl_div, aty_i, aty_b, aty_l, p_len hP, ha, List.append_assoc, List.cons_append, List.nil_append, g0, g4, hf, mj_E]
  exact hr
theorem n231_46 (hP : P.length = 67) (hf : fs.length = 90) (ha : as.length = 46) : ∀ r, mj_Rn (d + 1) mj_m231 415 [(0, .ref 67)] [] (P ++ (11, fs.set 55 (.ref 114)) :: (as ++ [zr 1000 640 (.int 0)])) = some r → mj_Rn (d + 1) mj_m231 406 [(0, .ref 67)] [] (P ++ (11, fs) :: as) = some r := by
  intro r hr
  have g0 := p_at (as := as ++ [zr 1000 640 (.int 0)]) hP (11, fs)
  have g4 := p_set (as := as ++ [zr 1000 640 (.int 0)]) hP (11, fs)
  unfold zr at g0 g4 hr
  simp (disch := (first | omega | decide)) [S_b0_mod_7, S_b0_mod_6, S_b0_mod_5, S_b0_mod_3, S_b0_mod_2, S_b0_mod_1, S_b0_mod_0, S_b0_mod_4h, -List.reduceReplicate, s231_406, s231_407, s231_410, s231_412, mq_k0s, mq_k1s, mq_k2s, mq_k4s, mq_k5s, mq_k5n, mq_k5as, mq_k6s, mj_pu, mj_lo, mj_br, mj_hr, mj_hw, mq_gf, mq_len, mq_al, mq_pf, mq_ok, mj_re, mq_lkm, mq_lkn, mj_ldi, mj_ldl, mj_lda, mj_ii, mj_ll, mj_li, mj_i1, ms_1, ms_2, f1_n, f1_i, f1_r, f1_u, f1_l, f2_n, f2_i, f2_r, f2_u, f2_l, mj_tg, mj_c1, mj_c2, mj_ar, mj_aw, mq_cb, mq_oi, mj_rm, Value.category, -getElem?_pos, List.getElem?_cons_zero, decide_eq_true, decide_eq_false, nl_lt, nl_le, ln_lt, ln_le, nl_eq, ln_eq, nl_add, ln_add, nl_sub, ln_mul, nI_sub, nI_mul, nI_add, nI_lt_iff, nI_le_iff, nI_inj, nI_num, mq_ix, nI_1, nl_mul, nl_div, aty_i, aty_b, aty_l, p_len hP, ha, List.append_assoc, List.cons_append, List.nil_append, g0, g4, hf, mj_E]
  exact hr
theorem n231_47 (hP : P.length = 67) (hf : fs.length = 90) (ha : as.length = 47) : ∀ r, mj_Rn (d + 1) mj_m231 453 [(0, .ref 67)] [] (P ++ (11, fs.set 57 (.ref 115)) :: (as ++ [(1000, [(112 : Int32), (97 : Int32), (99 : Int32), (107 : Int32), (101 : Int32), (100 : Int32)].map Value.int)])) = some r → mj_Rn (d + 1) mj_m231 415 [(0, .ref 67)] [] (P ++ (11, fs) :: as) = some r := by
  intro r hr
  have g0 := p_at (as := as ++ [zr 1000 6 (.int 0)]) hP (11, fs)
  have g1 := p_last (as := as) hP (11, fs)
  have g2 := p_slast (as := as) hP (11, fs)
  have g3 := p_at (as := as ++ [(1000, [(112 : Int32), (97 : Int32), (99 : Int32), (107 : Int32), (101 : Int32), (100 : Int32)].map Value.int)]) hP (11, fs)
  have g4 := p_set (as := as ++ [(1000, [(112 : Int32), (97 : Int32), (99 : Int32), (107 : Int32), (101 : Int32), (100 : Int32)].map Value.int)]) hP (11, fs)
  rw [ha] at g1 g2
  unfold zr at g0
  simp (disch := (first | omega | decide)) [S_b0_mod_7, S_b0_mod_6, S_b0_mod_5, S_b0_mod_3, S_b0_mod_2, S_b0_mod_1, S_b0_mod_0, S_b0_mod_4h, s231_415, s231_416, s231_418, s231_420, s231_421, s231_422, s231_424, s231_425, s231_426, s231_427, s231_429, s231_430, s231_431, s231_432, s231_434, s231_435, s231_436, s231_437, s231_439, s231_440, s231_441, s231_442, s231_444, s231_445, s231_446, s231_447, s231_449, s231_450, iy6_0, iy6_1, iy6_2, iy6_3, iy6_4, iy6_5, mq_k0s, mq_k1s, mq_k2s, mq_k4s, mq_k5s, mq_k5n, mq_k5as, mq_k6s, mj_pu, mj_lo, mj_br, mj_hr, mj_hw, mq_gf, mq_len, mq_al, mq_pf, mq_ok, mj_re, mq_lkm, mq_lkn, mj_ldi, mj_ldl, mj_lda, mj_ii, mj_ll, mj_li, mj_i1, ms_1, ms_2, f1_n, f1_i, f1_r, f1_u, f1_l, f2_n, f2_i, f2_r, f2_u, f2_l, mj_tg, mj_c1, mj_c2, mj_ar, mj_aw, mq_cb, mq_oi, mj_rm, Value.category, -getElem?_pos, List.getElem?_cons_zero, decide_eq_true, decide_eq_false, nl_lt, nl_le, ln_lt, ln_le, nl_eq, ln_eq, nl_add, ln_add, nl_sub, ln_mul, nI_sub, nI_mul, nI_add, nI_lt_iff, nI_le_iff, nI_inj, nI_num, mq_ix, nI_1, nl_mul, nl_div, aty_i, p_len hP, ha, List.append_assoc, List.cons_append, List.nil_append, g0, g1, g2, hf, mj_E, List.replicate_succ, List.replicate_zero]
  simp [S_b0_mod_7, S_b0_mod_6, S_b0_mod_5, S_b0_mod_3, S_b0_mod_2, S_b0_mod_1, S_b0_mod_0, S_b0_mod_4h] at g3 g4
  simp [S_b0_mod_7, S_b0_mod_6, S_b0_mod_5, S_b0_mod_3, S_b0_mod_2, S_b0_mod_1, S_b0_mod_0, S_b0_mod_4h, g3, g4, hf, mq_k4s]
  simpa [S_b0_mod_7, S_b0_mod_6, S_b0_mod_5, S_b0_mod_3, S_b0_mod_2, S_b0_mod_1, S_b0_mod_0, S_b0_mod_4h] using hr
theorem n231_48 (hP : P.length = 67) (hf : fs.length = 90) (ha : as.length = 48) : ∀ r, mj_Rn (d + 1) mj_m231 461 [(0, .ref 67)] [] (P ++ (11, fs.set 58 (.ref 116)) :: (as ++ [zr 1000 32 (.int 0)])) = some r → mj_Rn (d + 1) mj_m231 453 [(0, .ref 67)] [] (P ++ (11, fs) :: as) = some r := by
  intro r hr
  have g0 := p_at (as := as ++ [zr 1000 32 (.int 0)]) hP (11, fs)
  have g4 := p_set (as := as ++ [zr 1000 32 (.int 0)]) hP (11, fs)
  unfold zr at g0 g4 hr
  simp (disch := (first | omega | decide)) [S_b0_mod_7, S_b0_mod_6, S_b0_mod_5, S_b0_mod_3, S_b0_mod_2, S_b0_mod_1, S_b0_mod_0, S_b0_mod_4h, -List.reduceReplicate, s231_453, s231_454, s231_456, s231_458, mq_k0s, mq_k1s, mq_k2s, mq_k4s, mq_k5s, mq_k5n, mq_k5as, mq_k6s, mj_pu, mj_lo, mj_br, mj_hr, mj_hw, mq_gf, mq_len, mq_al, mq_pf, mq_ok, mj_re, mq_lkm, mq_lkn, mj_ldi, mj_ldl, mj_lda, mj_ii, mj_ll, mj_li, mj_i1, ms_1, ms_2, f1_n, f1_i, f1_r, f1_u, f1_l, f2_n, f2_i, f2_r, f2_u, f2_l, mj_tg, mj_c1, mj_c2, mj_ar, mj_aw, mq_cb, mq_oi, mj_rm, Value.category, -getElem?_pos, List.getElem?_cons_zero, decide_eq_true, decide_eq_false, nl_lt, nl_le, ln_lt, ln_le, nl_eq, ln_eq, nl_add, ln_add, nl_sub, ln_mul, nI_sub, nI_mul, nI_add, nI_lt_iff, nI_le_iff, nI_inj, nI_num, mq_ix, nI_1, nl_mul, nl_div, aty_i, aty_b, aty_l, p_len hP, ha, List.append_assoc, List.cons_append, List.nil_append, g0, g4, hf, mj_E]
  exact hr
theorem n231_49 (hP : P.length = 67) (hf : fs.length = 90) (ha : as.length = 49) : ∀ r, mj_Rn (d + 1) mj_m231 511 [(0, .ref 67)] [] (P ++ (11, fs.set 59 (.ref 117)) :: (as ++ [(1000, [(70 : Int32), (73 : Int32), (68 : Int32), (79 : Int32), (95 : Int32), (50 : Int32), (95 : Int32), (48 : Int32)].map Value.int)])) = some r → mj_Rn (d + 1) mj_m231 461 [(0, .ref 67)] [] (P ++ (11, fs) :: as) = some r := by
  intro r hr
  have g0 := p_at (as := as ++ [zr 1000 8 (.int 0)]) hP (11, fs)
  have g1 := p_last (as := as) hP (11, fs)
  have g2 := p_slast (as := as) hP (11, fs)
  have g3 := p_at (as := as ++ [(1000, [(70 : Int32), (73 : Int32), (68 : Int32), (79 : Int32), (95 : Int32), (50 : Int32), (95 : Int32), (48 : Int32)].map Value.int)]) hP (11, fs)
  have g4 := p_set (as := as ++ [(1000, [(70 : Int32), (73 : Int32), (68 : Int32), (79 : Int32), (95 : Int32), (50 : Int32), (95 : Int32), (48 : Int32)].map Value.int)]) hP (11, fs)
  rw [ha] at g1 g2
  unfold zr at g0
  simp (disch := (first | omega | decide)) [S_b0_mod_7, S_b0_mod_6, S_b0_mod_5, S_b0_mod_3, S_b0_mod_2, S_b0_mod_1, S_b0_mod_0, S_b0_mod_4h, s231_461, s231_462, s231_464, s231_466, s231_467, s231_468, s231_470, s231_471, s231_472, s231_473, s231_475, s231_476, s231_477, s231_478, s231_480, s231_481, s231_482, s231_483, s231_485, s231_486, s231_487, s231_488, s231_490, s231_491, s231_492, s231_493, s231_495, s231_496, s231_497, s231_499, s231_501, s231_502, s231_503, s231_505, s231_507, s231_508, iy8_0, iy8_1, iy8_2, iy8_3, iy8_4, iy8_5, iy8_6, iy8_7, mq_k0s, mq_k1s, mq_k2s, mq_k4s, mq_k5s, mq_k5n, mq_k5as, mq_k6s, mj_pu, mj_lo, mj_br, mj_hr, mj_hw, mq_gf, mq_len, mq_al, mq_pf, mq_ok, mj_re, mq_lkm, mq_lkn, mj_ldi, mj_ldl, mj_lda, mj_ii, mj_ll, mj_li, mj_i1, ms_1, ms_2, f1_n, f1_i, f1_r, f1_u, f1_l, f2_n, f2_i, f2_r, f2_u, f2_l, mj_tg, mj_c1, mj_c2, mj_ar, mj_aw, mq_cb, mq_oi, mj_rm, Value.category, -getElem?_pos, List.getElem?_cons_zero, decide_eq_true, decide_eq_false, nl_lt, nl_le, ln_lt, ln_le, nl_eq, ln_eq, nl_add, ln_add, nl_sub, ln_mul, nI_sub, nI_mul, nI_add, nI_lt_iff, nI_le_iff, nI_inj, nI_num, mq_ix, nI_1, nl_mul, nl_div, aty_i, p_len hP, ha, List.append_assoc, List.cons_append, List.nil_append, g0, g1, g2, hf, mj_E, List.replicate_succ, List.replicate_zero]
  simp [S_b0_mod_7, S_b0_mod_6, S_b0_mod_5, S_b0_mod_3, S_b0_mod_2, S_b0_mod_1, S_b0_mod_0, S_b0_mod_4h] at g3 g4
  simp [S_b0_mod_7, S_b0_mod_6, S_b0_mod_5, S_b0_mod_3, S_b0_mod_2, S_b0_mod_1, S_b0_mod_0, S_b0_mod_4h, g3, g4, hf, mq_k4s]
  simpa [S_b0_mod_7, S_b0_mod_6, S_b0_mod_5, S_b0_mod_3, S_b0_mod_2, S_b0_mod_1, S_b0_mod_0, S_b0_mod_4h] using hr
theorem n231_50 (hP : P.length = 67) (hf : fs.length = 90) (ha : as.length = 50) : ∀ r, mj_Rn (d + 1) mj_m231 567 [(0, .ref 67)] [] (P ++ (11, fs.set 60 (.ref 118)) :: (as ++ [(1000, [(99 : Int32), (108 : Int32), (105 : Int32), (101 : Int32), (110 : Int32), (116 : Int32), (80 : Int32), (105 : Int32), (110 : Int32)].map Value.int)])) = some r → mj_Rn (d + 1) mj_m231 511 [(0, .ref 67)] [] (P ++ (11, fs) :: as) = some r := by
  intro r hr
  have g0 := p_at (as := as ++ [zr 1000 9 (.int 0)]) hP (11, fs)
  have g1 := p_last (as := as) hP (11, fs)
  have g2 := p_slast (as := as) hP (11, fs)
  have g3 := p_at (as := as ++ [(1000, [(99 : Int32), (108 : Int32), (105 : Int32), (101 : Int32), (110 : Int32), (116 : Int32), (80 : Int32), (105 : Int32), (110 : Int32)].map Value.int)]) hP (11, fs)
  have g4 := p_set (as := as ++ [(1000, [(99 : Int32), (108 : Int32), (105 : Int32), (101 : Int32), (110 : Int32), (116 : Int32), (80 : Int32), (105 : Int32), (110 : Int32)].map Value.int)]) hP (11, fs)
  rw [ha] at g1 g2
  unfold zr at g0
  simp (disch := (first | omega | decide)) [S_b0_mod_7, S_b0_mod_6, S_b0_mod_5, S_b0_mod_3, S_b0_mod_2, S_b0_mod_1, S_b0_mod_0, S_b0_mod_4h, s231_511, s231_512, s231_514, s231_516, s231_517, s231_518, s231_520, s231_521, s231_522, s231_523, s231_525, s231_526, s231_527, s231_528, s231_530, s231_531, s231_532, s231_533, s231_535, s231_536, s231_537, s231_538, s231_540, s231_541, s231_542, s231_543, s231_545, s231_546, s231_547, s231_549, s231_551, s231_552, s231_553, s231_555, s231_557, s231_558, s231_559, s231_561, s231_563, s231_564, iy9_0, iy9_1, iy9_2, iy9_3, iy9_4, iy9_5, iy9_6, iy9_7, iy9_8, mq_k0s, mq_k1s, mq_k2s, mq_k4s, mq_k5s, mq_k5n, mq_k5as, mq_k6s, mj_pu, mj_lo, mj_br, mj_hr, mj_hw, mq_gf, mq_len, mq_al, mq_pf, mq_ok, mj_re, mq_lkm, mq_lkn, mj_ldi, mj_ldl, mj_lda, mj_ii, mj_ll, mj_li, mj_i1, ms_1, ms_2, f1_n, f1_i, f1_r, f1_u, f1_l, f2_n, f2_i, f2_r, f2_u, f2_l, mj_tg, mj_c1, mj_c2, mj_ar, mj_aw, mq_cb, mq_oi, mj_rm, Value.category, -getElem?_pos, List.getElem?_cons_zero, decide_eq_true, decide_eq_false, nl_lt, nl_le, ln_lt, ln_le, nl_eq, ln_eq, nl_add, ln_add, nl_sub, ln_mul, nI_sub, nI_mul, nI_add, nI_lt_iff, nI_le_iff, nI_inj, nI_num, mq_ix, nI_1, nl_mul, nl_div, aty_i, p_len hP, ha, List.append_assoc, List.cons_append, List.nil_append, g0, g1, g2, hf, mj_E, List.replicate_succ, List.replicate_zero]
  simp [S_b0_mod_7, S_b0_mod_6, S_b0_mod_5, S_b0_mod_3, S_b0_mod_2, S_b0_mod_1, S_b0_mod_0, S_b0_mod_4h] at g3 g4
  simp [S_b0_mod_7, S_b0_mod_6, S_b0_mod_5, S_b0_mod_3, S_b0_mod_2, S_b0_mod_1, S_b0_mod_0, S_b0_mod_4h, g3, g4, hf, mq_k4s]
  simpa [S_b0_mod_7, S_b0_mod_6, S_b0_mod_5, S_b0_mod_3, S_b0_mod_2, S_b0_mod_1, S_b0_mod_0, S_b0_mod_4h] using hr
theorem n231_51 (hP : P.length = 67) (hf : fs.length = 90) (ha : as.length = 51) : ∀ r, mj_Rn (d + 1) mj_m231 574 [(0, .ref 67)] [] (P ++ (11, fs.set 61 (.ref 119)) :: (as ++ [zr 1000 4 (.int 0)])) = some r → mj_Rn (d + 1) mj_m231 567 [(0, .ref 67)] [] (P ++ (11, fs) :: as) = some r := by
  intro r hr
  have g0 := p_at (as := as ++ [zr 1000 4 (.int 0)]) hP (11, fs)
  have g4 := p_set (as := as ++ [zr 1000 4 (.int 0)]) hP (11, fs)
  unfold zr at g0 g4 hr
  simp (disch := (first | omega | decide)) [S_b0_mod_7, S_b0_mod_6, S_b0_mod_5, S_b0_mod_3, S_b0_mod_2, S_b0_mod_1, S_b0_mod_0, S_b0_mod_4h, -List.reduceReplicate, s231_567, s231_568, s231_569, s231_571, mq_k0s, mq_k1s, mq_k2s, mq_k4s, mq_k5s, mq_k5n, mq_k5as, mq_k6s, mj_pu, mj_lo, mj_br, mj_hr, mj_hw, mq_gf, mq_len, mq_al, mq_pf, mq_ok, mj_re, mq_lkm, mq_lkn, mj_ldi, mj_ldl, mj_lda, mj_ii, mj_ll, mj_li, mj_i1, ms_1, ms_2, f1_n, f1_i, f1_r, f1_u, f1_l, f2_n, f2_i, f2_r, f2_u, f2_l, mj_tg, mj_c1, mj_c2, mj_ar, mj_aw, mq_cb, mq_oi, mj_rm, Value.category, -getElem?_pos, List.getElem?_cons_zero, decide_eq_true, decide_eq_false, nl_lt, nl_le, ln_lt, ln_le, nl_eq, ln_eq, nl_add, ln_add, nl_sub, ln_mul, nI_sub, nI_mul, nI_add, nI_lt_iff, nI_le_iff, nI_inj, nI_num, mq_ix, nI_1, nl_mul, nl_div, aty_i, aty_b, aty_l, p_len hP, ha, List.append_assoc, List.cons_append, List.nil_append, g0, g4, hf, mj_E]
  exact hr
theorem n231_52 (hP : P.length = 67) (hf : fs.length = 90) (ha : as.length = 52) : ∀ r, mj_Rn (d + 1) mj_m231 581 [(0, .ref 67)] [] (P ++ (11, fs.set 62 (.ref 120)) :: (as ++ [zr 1000 4 (.int 0)])) = some r → mj_Rn (d + 1) mj_m231 574 [(0, .ref 67)] [] (P ++ (11, fs) :: as) = some r := by
  intro r hr
  have g0 := p_at (as := as ++ [zr 1000 4 (.int 0)]) hP (11, fs)
  have g4 := p_set (as := as ++ [zr 1000 4 (.int 0)]) hP (11, fs)
  unfold zr at g0 g4 hr
  simp (disch := (first | omega | decide)) [S_b0_mod_7, S_b0_mod_6, S_b0_mod_5, S_b0_mod_3, S_b0_mod_2, S_b0_mod_1, S_b0_mod_0, S_b0_mod_4h, -List.reduceReplicate, s231_574, s231_575, s231_576, s231_578, mq_k0s, mq_k1s, mq_k2s, mq_k4s, mq_k5s, mq_k5n, mq_k5as, mq_k6s, mj_pu, mj_lo, mj_br, mj_hr, mj_hw, mq_gf, mq_len, mq_al, mq_pf, mq_ok, mj_re, mq_lkm, mq_lkn, mj_ldi, mj_ldl, mj_lda, mj_ii, mj_ll, mj_li, mj_i1, ms_1, ms_2, f1_n, f1_i, f1_r, f1_u, f1_l, f2_n, f2_i, f2_r, f2_u, f2_l, mj_tg, mj_c1, mj_c2, mj_ar, mj_aw, mq_cb, mq_oi, mj_rm, Value.category, -getElem?_pos, List.getElem?_cons_zero, decide_eq_true, decide_eq_false, nl_lt, nl_le, ln_lt, ln_le, nl_eq, ln_eq, nl_add, ln_add, nl_sub, ln_mul, nI_sub, nI_mul, nI_add, nI_lt_iff, nI_le_iff, nI_inj, nI_num, mq_ix, nI_1, nl_mul, nl_div, aty_i, aty_b, aty_l, p_len hP, ha, List.append_assoc, List.cons_append, List.nil_append, g0, g4, hf, mj_E]
  exact hr
theorem n231_53 (hP : P.length = 67) (hf : fs.length = 90) (ha : as.length = 53) : ∀ r, mj_Rn (d + 1) mj_m231 588 [(0, .ref 67)] [] (P ++ (11, fs.set 63 (.ref 121)) :: (as ++ [zr 1000 4 (.int 0)])) = some r → mj_Rn (d + 1) mj_m231 581 [(0, .ref 67)] [] (P ++ (11, fs) :: as) = some r := by
  intro r hr
  have g0 := p_at (as := as ++ [zr 1000 4 (.int 0)]) hP (11, fs)
  have g4 := p_set (as := as ++ [zr 1000 4 (.int 0)]) hP (11, fs)
  unfold zr at g0 g4 hr
  simp (disch := (first | omega | decide)) [S_b0_mod_7, S_b0_mod_6, S_b0_mod_5, S_b0_mod_3, S_b0_mod_2, S_b0_mod_1, S_b0_mod_0, S_b0_mod_4h, -List.reduceReplicate, s231_581, s231_582, s231_583, s231_585, mq_k0s, mq_k1s, mq_k2s, mq_k4s, mq_k5s, mq_k5n, mq_k5as, mq_k6s, mj_pu, mj_lo, mj_br, mj_hr, mj_hw, mq_gf, mq_len, mq_al, mq_pf, mq_ok, mj_re, mq_lkm, mq_lkn, mj_ldi, mj_ldl, mj_lda, mj_ii, mj_ll, mj_li, mj_i1, ms_1, ms_2, f1_n, f1_i, f1_r, f1_u, f1_l, f2_n, f2_i, f2_r, f2_u, f2_l, mj_tg, mj_c1, mj_c2, mj_ar, mj_aw, mq_cb, mq_oi, mj_rm, Value.category, -getElem?_pos, List.getElem?_cons_zero, decide_eq_true, decide_eq_false, nl_lt, nl_le, ln_lt, ln_le, nl_eq, ln_eq, nl_add, ln_add, nl_sub, ln_mul, nI_sub, nI_mul, nI_add, nI_lt_iff, nI_le_iff, nI_inj, nI_num, mq_ix, nI_1, nl_mul, nl_div, aty_i, aty_b, aty_l, p_len hP, ha, List.append_assoc, List.cons_append, List.nil_append, g0, g4, hf, mj_E]
  exact hr
theorem n231_54 (hP : P.length = 67) (hf : fs.length = 90) (ha : as.length = 54) : ∀ r, mj_Rn (d + 1) mj_m231 596 [(0, .ref 67)] [] (P ++ (11, fs.set 64 (.ref 122)) :: (as ++ [zr 1000 48 (.int 0)])) = some r → mj_Rn (d + 1) mj_m231 588 [(0, .ref 67)] [] (P ++ (11, fs) :: as) = some r := by
  intro r hr
  have g0 := p_at (as := as ++ [zr 1000 48 (.int 0)]) hP (11, fs)
  have g4 := p_set (as := as ++ [zr 1000 48 (.int 0)]) hP (11, fs)
  unfold zr at g0 g4 hr
  simp (disch := (first | omega | decide)) [S_b0_mod_7, S_b0_mod_6, S_b0_mod_5, S_b0_mod_3, S_b0_mod_2, S_b0_mod_1, S_b0_mod_0, S_b0_mod_4h, -List.reduceReplicate, s231_588, s231_589, s231_591, s231_593, mq_k0s, mq_k1s, mq_k2s, mq_k4s, mq_k5s, mq_k5n, mq_k5as, mq_k6s, mj_pu, mj_lo, mj_br, mj_hr, mj_hw, mq_gf, mq_len, mq_al, mq_pf, mq_ok, mj_re, mq_lkm, mq_lkn, mj_ldi, mj_ldl, mj_lda, mj_ii, mj_ll, mj_li, mj_i1, ms_1, ms_2, f1_n, f1_i, f1_r, f1_u, f1_l, f2_n, f2_i, f2_r, f2_u, f2_l, mj_tg, mj_c1, mj_c2, mj_ar, mj_aw, mq_cb, mq_oi, mj_rm, Value.category, -getElem?_pos, List.getElem?_cons_zero, decide_eq_true, decide_eq_false, nl_lt, nl_le, ln_lt, ln_le, nl_eq, ln_eq, nl_add, ln_add, nl_sub, ln_mul, nI_sub, nI_mul, nI_add, nI_lt_iff, nI_le_iff, nI_inj, nI_num, mq_ix, nI_1, nl_mul, nl_div, aty_i, aty_b, aty_l, p_len hP, ha, List.append_assoc, List.cons_append, List.nil_append, g0, g4, hf, mj_E]
  exact hr
theorem n231_55 (hP : P.length = 67) (hf : fs.length = 90) (ha : as.length = 55) : ∀ r, mj_Rn (d + 1) mj_m231 603 [(0, .ref 67)] [] (P ++ (11, fs.set 65 (.ref 123)) :: (as ++ [zr 1000 4 (.int 0)])) = some r → mj_Rn (d + 1) mj_m231 596 [(0, .ref 67)] [] (P ++ (11, fs) :: as) = some r := by
  intro r hr
  have g0 := p_at (as := as ++ [zr 1000 4 (.int 0)]) hP (11, fs)
  have g4 := p_set (as := as ++ [zr 1000 4 (.int 0)]) hP (11, fs)
  unfold zr at g0 g4 hr
  simp (disch := (first | omega | decide)) [S_b0_mod_7, S_b0_mod_6, S_b0_mod_5, S_b0_mod_3, S_b0_mod_2, S_b0_mod_1, S_b0_mod_0, S_b0_mod_4h, -List.reduceReplicate, s231_596, s231_597, s231_598, s231_600, mq_k0s, mq_k1s, mq_k2s, mq_k4s, mq_k5s, mq_k5n, mq_k5as, mq_k6s, mj_pu, mj_lo, mj_br, mj_hr, mj_hw, mq_gf, mq_len, mq_al, mq_pf, mq_ok, mj_re, mq_lkm, mq_lkn, mj_ldi, mj_ldl, mj_lda, mj_ii, mj_ll, mj_li, mj_i1, ms_1, ms_2, f1_n, f1_i, f1_r, f1_u, f1_l, f2_n, f2_i, f2_r, f2_u, f2_l, mj_tg, mj_c1, mj_c2, mj_ar, mj_aw, mq_cb, mq_oi, mj_rm, Value.category, -getElem?_pos, List.getElem?_cons_zero, decide_eq_true, decide_eq_false, nl_lt, nl_le, ln_lt, ln_le, nl_eq, ln_eq, nl_add, ln_add, nl_sub, ln_mul, nI_sub, nI_mul, nI_add, nI_lt_iff, nI_le_iff, nI_inj, nI_num, mq_ix, nI_1, nl_mul, nl_div, aty_i, aty_b, aty_l, p_len hP, ha, List.append_assoc, List.cons_append, List.nil_append, g0, g4, hf, mj_E]
  exact hr
theorem n231_56 (hP : P.length = 67) (hf : fs.length = 90) (ha : as.length = 56) : ∀ r, mj_Rn (d + 1) mj_m231 612 [(0, .ref 67)] [] (P ++ (11, fs.set 66 (.ref 124)) :: (as ++ [zr 1000 160 (.int 0)])) = some r → mj_Rn (d + 1) mj_m231 603 [(0, .ref 67)] [] (P ++ (11, fs) :: as) = some r := by
  intro r hr
  have g0 := p_at (as := as ++ [zr 1000 160 (.int 0)]) hP (11, fs)
  have g4 := p_set (as := as ++ [zr 1000 160 (.int 0)]) hP (11, fs)
  unfold zr at g0 g4 hr
  simp (disch := (first | omega | decide)) [S_b0_mod_7, S_b0_mod_6, S_b0_mod_5, S_b0_mod_3, S_b0_mod_2, S_b0_mod_1, S_b0_mod_0, S_b0_mod_4h, -List.reduceReplicate, s231_603, s231_604, s231_607, s231_609, mq_k0s, mq_k1s, mq_k2s, mq_k4s, mq_k5s, mq_k5n, mq_k5as, mq_k6s, mj_pu, mj_lo, mj_br, mj_hr, mj_hw, mq_gf, mq_len, mq_al, mq_pf, mq_ok, mj_re, mq_lkm, mq_lkn, mj_ldi, mj_ldl, mj_lda, mj_ii, mj_ll, mj_li, mj_i1, ms_1, ms_2, f1_n, f1_i, f1_r, f1_u, f1_l, f2_n, f2_i, f2_r, f2_u, f2_l, mj_tg, mj_c1, mj_c2, mj_ar, mj_aw, mq_cb, mq_oi, mj_rm, Value.category, -getElem?_pos, List.getElem?_cons_zero, decide_eq_true, decide_eq_false, nl_lt, nl_le, ln_lt, ln_le, nl_eq, ln_eq, nl_add, ln_add, nl_sub, ln_mul, nI_sub, nI_mul, nI_add, nI_lt_iff, nI_le_iff, nI_inj, nI_num, mq_ix, nI_1, nl_mul, nl_div, aty_i, aty_b, aty_l, p_len hP, ha, List.append_assoc, List.cons_append, List.nil_append, g0, g4, hf, mj_E]
  exact hr
theorem n231_57 (hP : P.length = 67) (hf : fs.length = 90) (ha : as.length = 57) : ∀ r, mj_Rn (d + 1) mj_m231 619 [(0, .ref 67)] [] (P ++ (11, fs.set 67 (.ref 125)) :: (as ++ [zr 1000 4 (.int 0)])) = some r → mj_Rn (d + 1) mj_m231 612 [(0, .ref 67)] [] (P ++ (11, fs) :: as) = some r := by
  intro r hr
  have g0 := p_at (as := as ++ [zr 1000 4 (.int 0)]) hP (11, fs)
  have g4 := p_set (as := as ++ [zr 1000 4 (.int 0)]) hP (11, fs)
  unfold zr at g0 g4 hr
  simp (disch := (first | omega | decide)) [S_b0_mod_7, S_b0_mod_6, S_b0_mod_5, S_b0_mod_3, S_b0_mod_2, S_b0_mod_1, S_b0_mod_0, S_b0_mod_4h, -List.reduceReplicate, s231_612, s231_613, s231_614, s231_616, mq_k0s, mq_k1s, mq_k2s, mq_k4s, mq_k5s, mq_k5n, mq_k5as, mq_k6s, mj_pu, mj_lo, mj_br, mj_hr, mj_hw, mq_gf, mq_len, mq_al, mq_pf, mq_ok, mj_re, mq_lkm, mq_lkn, mj_ldi, mj_ldl, mj_lda, mj_ii, mj_ll, mj_li, mj_i1, ms_1, ms_2, f1_n, f1_i, f1_r, f1_u, f1_l, f2_n, f2_i, f2_r, f2_u, f2_l, mj_tg, mj_c1, mj_c2, mj_ar, mj_aw, mq_cb, mq_oi, mj_rm, Value.category, -getElem?_pos, List.getElem?_cons_zero, decide_eq_true, decide_eq_false, nl_lt, nl_le, ln_lt, ln_le, nl_eq, ln_eq, nl_add, ln_add, nl_sub, ln_mul, nI_sub, nI_mul, nI_add, nI_lt_iff, nI_le_iff, nI_inj, nI_num, mq_ix, nI_1, nl_mul, nl_div, aty_i, aty_b, aty_l, p_len hP, ha, List.append_assoc, List.cons_append, List.nil_append, g0, g4, hf, mj_E]
  exact hr
theorem n231_58 (hP : P.length = 67) (hf : fs.length = 90) (ha : as.length = 58) : ∀ r, mj_Rn (d + 1) mj_m231 628 [(0, .ref 67)] [] (P ++ (11, fs.set 69 (.ref 126)) :: (as ++ [zr 1000 160 (.int 0)])) = some r → mj_Rn (d + 1) mj_m231 619 [(0, .ref 67)] [] (P ++ (11, fs) :: as) = some r := by
  intro r hr
  have g0 := p_at (as := as ++ [zr 1000 160 (.int 0)]) hP (11, fs)
  have g4 := p_set (as := as ++ [zr 1000 160 (.int 0)]) hP (11, fs)
  unfold zr at g0 g4 hr
  simp (disch := (first | omega | decide)) [S_b0_mod_7, S_b0_mod_6, S_b0_mod_5, S_b0_mod_3, S_b0_mod_2, S_b0_mod_1, S_b0_mod_0, S_b0_mod_4h, -List.reduceReplicate, s231_619, s231_620, s231_623, s231_625, mq_k0s, mq_k1s, mq_k2s, mq_k4s, mq_k5s, mq_k5n, mq_k5as, mq_k6s, mj_pu, mj_lo, mj_br, mj_hr, mj_hw, mq_gf, mq_len, mq_al, mq_pf, mq_ok, mj_re, mq_lkm, mq_lkn, mj_ldi, mj_ldl, mj_lda, mj_ii, mj_ll, mj_li, mj_i1, ms_1, ms_2, f1_n, f1_i, f1_r, f1_u, f1_l, f2_n, f2_i, f2_r, f2_u, f2_l, mj_tg, mj_c1, mj_c2, mj_ar, mj_aw, mq_cb, mq_oi, mj_rm, Value.category, -getElem?_pos, List.getElem?_cons_zero, decide_eq_true, decide_eq_false, nl_lt, nl_le, ln_lt, ln_le, nl_eq, ln_eq, nl_add, ln_add, nl_sub, ln_mul, nI_sub, nI_mul, nI_add, nI_lt_iff, nI_le_iff, nI_inj, nI_num, mq_ix, nI_1, nl_mul, nl_div, aty_i, aty_b, aty_l, p_len hP, ha, List.append_assoc, List.cons_append, List.nil_append, g0, g4, hf, mj_E]
  exact hr
theorem n231_59 (hP : P.length = 67) (hf : fs.length = 90) (ha : as.length = 59) : ∀ r, mj_Rn (d + 1) mj_m231 635 [(0, .ref 67)] [] (P ++ (11, fs.set 70 (.ref 127)) :: (as ++ [zr 1000 4 (.int 0)])) = some r → mj_Rn (d + 1) mj_m231 628 [(0, .ref 67)] [] (P ++ (11, fs) :: as) = some r := by
  intro r hr
  have g0 := p_at (as := as ++ [zr 1000 4 (.int 0)]) hP (11, fs)
  have g4 := p_set (as := as ++ [zr 1000 4 (.int 0)]) hP (11, fs)
  unfold zr at g0 g4 hr
  simp (disch := (first | omega | decide)) [S_b0_mod_7, S_b0_mod_6, S_b0_mod_5, S_b0_mod_3, S_b0_mod_2, S_b0_mod_1, S_b0_mod_0, S_b0_mod_4h, -List.reduceReplicate, s231_628, s231_629, s231_630, s231_632, mq_k0s, mq_k1s, mq_k2s, mq_k4s, mq_k5s, mq_k5n, mq_k5as, mq_k6s, mj_pu, mj_lo, mj_br, mj_hr, mj_hw, mq_gf, mq_len, mq_al, mq_pf, mq_ok, mj_re, mq_lkm, mq_lkn, mj_ldi, mj_ldl, mj_lda, mj_ii, mj_ll, mj_li, mj_i1, ms_1, ms_2, f1_n, f1_i, f1_r, f1_u, f1_l, f2_n, f2_i, f2_r, f2_u, f2_l, mj_tg, mj_c1, mj_c2, mj_ar, mj_aw, mq_cb, mq_oi, mj_rm, Value.category, -getElem?_pos, List.getElem?_cons_zero, decide_eq_true, decide_eq_false, nl_lt, nl_le, ln_lt, ln_le, nl_eq, ln_eq, nl_add, ln_add, nl_sub, ln_mul, nI_sub, nI_mul, nI_add, nI_lt_iff, nI_le_iff, nI_inj, nI_num, mq_ix, nI_1, nl_mul, nl_div, aty_i, aty_b, aty_l, p_len hP, ha, List.append_assoc, List.cons_append, List.nil_append, g0, g4, hf, mj_E]
  exact hr
theorem n231_60 (hP : P.length = 67) (hf : fs.length = 90) (ha : as.length = 60) : ∀ r, mj_Rn (d + 1) mj_m231 643 [(0, .ref 67)] [] (P ++ (11, fs.set 71 (.ref 128)) :: (as ++ [zr 1000 96 (.int 0)])) = some r → mj_Rn (d + 1) mj_m231 635 [(0, .ref 67)] [] (P ++ (11, fs) :: as) = some r := by
  intro r hr
  have g0 := p_at (as := as ++ [zr 1000 96 (.int 0)]) hP (11, fs)
  have g4 := p_set (as := as ++ [zr 1000 96 (.int 0)]) hP (11, fs)
  unfold zr at g0 g4 hr
  simp (disch := (first | omega | decide)) [S_b0_mod_7, S_b0_mod_6, S_b0_mod_5, S_b0_mod_3, S_b0_mod_2, S_b0_mod_1, S_b0_mod_0, S_b0_mod_4h, -List.reduceReplicate, s231_635, s231_636, s231_638, s231_640, mq_k0s, mq_k1s, mq_k2s, mq_k4s, mq_k5s, mq_k5n, mq_k5as, mq_k6s, mj_pu, mj_lo, mj_br, mj_hr, mj_hw, mq_gf, mq_len, mq_al, mq_pf, mq_ok, mj_re, mq_lkm, mq_lkn, mj_ldi, mj_ldl, mj_lda, mj_ii, mj_ll, mj_li, mj_i1, ms_1, ms_2, f1_n, f1_i, f1_r, f1_u, f1_l, f2_n, f2_i, f2_r, f2_u, f2_l, mj_tg, mj_c1, mj_c2, mj_ar, mj_aw, mq_cb, mq_oi, mj_rm, Value.category, -getElem?_pos, List.getElem?_cons_zero, decide_eq_true, decide_eq_false, nl_lt, nl_le, ln_lt, ln_le, nl_eq, ln_eq, nl_add, ln_add, nl_sub, ln_mul, nI_sub, nI_mul, nI_add, nI_lt_iff, nI_le_iff, nI_inj, nI_num, mq_ix, nI_1, nl_mul, nl_div, aty_i, aty_b, aty_l, p_len hP, ha, List.append_assoc, List.cons_append, List.nil_append, g0, g4, hf, mj_E]
  exact hr
theorem n231_61 (hP : P.length = 67) (hf : fs.length = 90) (ha : as.length = 61) : ∀ r, mj_Rn (d + 1) mj_m231 650 [(0, .ref 67)] [] (P ++ (11, fs.set 72 (.ref 129)) :: (as ++ [zr 1000 4 (.int 0)])) = some r → mj_Rn (d + 1) mj_m231 643 [(0, .ref 67)] [] (P ++ (11, fs) :: as) = some r := by
  intro r hr
  have g0 := p_at (as := as ++ [zr 1000 4 (.int 0)]) hP (11, fs)
  have g4 := p_set (as := as ++ [zr 1000 4 (.int 0)]) hP (11, fs)
  unfold zr at g0 g4 hr
  simp (disch := (first | omega | decide)) [S_b0_mod_7, S_b0_mod_6, S_b0_mod_5, S_b0_mod_3, S_b0_mod_2, S_b0_mod_1, S_b0_mod_0, S_b0_mod_4h, -List.reduceReplicate, s231_643, s231_644, s231_645, s231_647, mq_k0s, mq_k1s, mq_k2s, mq_k4s, mq_k5s, mq_k5n, mq_k5as, mq_k6s, mj_pu, mj_lo, mj_br, mj_hr, mj_hw, mq_gf, mq_len, mq_al, mq_pf, mq_ok, mj_re, mq_lkm, mq_lkn, mj_ldi, mj_ldl, mj_lda, mj_ii, mj_ll, mj_li, mj_i1, ms_1, ms_2, f1_n, f1_i, f1_r, f1_u, f1_l, f2_n, f2_i, f2_r, f2_u, f2_l, mj_tg, mj_c1, mj_c2, mj_ar, mj_aw, mq_cb, mq_oi, mj_rm, Value.category, -getElem?_pos, List.getElem?_cons_zero, decide_eq_true, decide_eq_false, nl_lt, nl_le, ln_lt, ln_le, nl_eq, ln_eq, nl_add, ln_add, nl_sub, ln_mul, nI_sub, nI_mul, nI_add, nI_lt_iff, nI_le_iff, nI_inj, nI_num, mq_ix, nI_1, nl_mul, nl_div, aty_i, aty_b, aty_l, p_len hP, ha, List.append_assoc, List.cons_append, List.nil_append, g0, g4, hf, mj_E]
  exact hr
theorem n231_62 (hP : P.length = 67) (hf : fs.length = 90) (ha : as.length = 62) : ∀ r, mj_Rn (d + 1) mj_m231 657 [(0, .ref 67)] [] (P ++ (11, fs.set 73 (.ref 130)) :: (as ++ [zr 1000 4 (.int 0)])) = some r → mj_Rn (d + 1) mj_m231 650 [(0, .ref 67)] [] (P ++ (11, fs) :: as) = some r := by
  intro r hr
  have g0 := p_at (as := as ++ [zr 1000 4 (.int 0)]) hP (11, fs)
  have g4 := p_set (as := as ++ [zr 1000 4 (.int 0)]) hP (11, fs)
  unfold zr at g0 g4 hr
  simp (disch := (first | omega | decide)) [S_b0_mod_7, S_b0_mod_6, S_b0_mod_5, S_b0_mod_3, S_b0_mod_2, S_b0_mod_1, S_b0_mod_0, S_b0_mod_4h, -List.reduceReplicate, s231_650, s231_651, s231_652, s231_654, mq_k0s, mq_k1s, mq_k2s, mq_k4s, mq_k5s, mq_k5n, mq_k5as, mq_k6s, mj_pu, mj_lo, mj_br, mj_hr, mj_hw, mq_gf, mq_len, mq_al, mq_pf, mq_ok, mj_re, mq_lkm, mq_lkn, mj_ldi, mj_ldl, mj_lda, mj_ii, mj_ll, mj_li, mj_i1, ms_1, ms_2, f1_n, f1_i, f1_r, f1_u, f1_l, f2_n, f2_i, f2_r, f2_u, f2_l, mj_tg, mj_c1, mj_c2, mj_ar, mj_aw, mq_cb, mq_oi, mj_rm, Value.category, -getElem?_pos, List.getElem?_cons_zero, decide_eq_true, decide_eq_false, nl_lt, nl_le, ln_lt, ln_le, nl_eq, ln_eq, nl_add, ln_add, nl_sub, ln_mul, nI_sub, nI_mul, nI_add, nI_lt_iff, nI_le_iff, nI_inj, nI_num, mq_ix, nI_1, nl_mul, nl_div, aty_i, aty_b, aty_l, p_len hP, ha, List.append_assoc, List.cons_append, List.nil_append, g0, g4, hf, mj_E]
  exact hr
theorem n231_63 (hP : P.length = 67) (hf : fs.length = 90) (ha : as.length = 63) : ∀ r, mj_Rn (d + 1) mj_m231 665 [(0, .ref 67)] [] (P ++ (11, fs.set 74 (.ref 131)) :: (as ++ [zr 1000 16 (.int 0)])) = some r → mj_Rn (d + 1) mj_m231 657 [(0, .ref 67)] [] (P ++ (11, fs) :: as) = some r := by
  intro r hr
  have g0 := p_at (as := as ++ [zr 1000 16 (.int 0)]) hP (11, fs)
  have g4 := p_set (as := as ++ [zr 1000 16 (.int 0)]) hP (11, fs)
  unfold zr at g0 g4 hr
  simp (disch := (first | omega | decide)) [S_b0_mod_7, S_b0_mod_6, S_b0_mod_5, S_b0_mod_3, S_b0_mod_2, S_b0_mod_1, S_b0_mod_0, S_b0_mod_4h, -List.reduceReplicate, s231_657, s231_658, s231_660, s231_662, mq_k0s, mq_k1s, mq_k2s, mq_k4s, mq_k5s, mq_k5n, mq_k5as, mq_k6s, mj_pu, mj_lo, mj_br, mj_hr, mj_hw, mq_gf, mq_len, mq_al, mq_pf, mq_ok, mj_re, mq_lkm, mq_lkn, mj_ldi, mj_ldl, mj_lda, mj_ii, mj_ll, mj_li, mj_i1, ms_1, ms_2, f1_n, f1_i, f1_r, f1_u, f1_l, f2_n, f2_i, f2_r, f2_u, f2_l, mj_tg, mj_c1, mj_c2, mj_ar, mj_aw, mq_cb, mq_oi, mj_rm, Value.category, -getElem?_pos, List.getElem?_cons_zero, decide_eq_true, decide_eq_false, nl_lt, nl_le, ln_lt, ln_le, nl_eq, ln_eq, nl_add, ln_add, nl_sub, ln_mul, nI_sub, nI_mul, nI_add, nI_lt_iff, nI_le_iff, nI_inj, nI_num, mq_ix, nI_1, nl_mul, nl_div, aty_i, aty_b, aty_l, p_len hP, ha, List.append_assoc, List.cons_append, List.nil_append, g0, g4, hf, mj_E]
  exact hr
theorem n231_64 (hP : P.length = 67) (hf : fs.length = 90) (ha : as.length = 64) : ∀ r, mj_Rn (d + 1) mj_m231 674 [(0, .ref 67)] [] (P ++ (11, fs.set 75 (.ref 132)) :: (as ++ [zr 1000 128 (.int 0)])) = some r → mj_Rn (d + 1) mj_m231 665 [(0, .ref 67)] [] (P ++ (11, fs) :: as) = some r := by
  intro r hr
  have g0 := p_at (as := as ++ [zr 1000 128 (.int 0)]) hP (11, fs)
  have g4 := p_set (as := as ++ [zr 1000 128 (.int 0)]) hP (11, fs)
  unfold zr at g0 g4 hr
  simp (disch := (first | omega | decide)) [S_b0_mod_7, S_b0_mod_6, S_b0_mod_5, S_b0_mod_3, S_b0_mod_2, S_b0_mod_1, S_b0_mod_0, S_b0_mod_4h, -List.reduceReplicate, s231_665, s231_666, s231_669, s231_671, mq_k0s, mq_k1s, mq_k2s, mq_k4s, mq_k5s, mq_k5n, mq_k5as, mq_k6s, mj_pu, mj_lo, mj_br, mj_hr, mj_hw, mq_gf, mq_len, mq_al, mq_pf, mq_ok, mj_re, mq_lkm, mq_lkn, mj_ldi, mj_ldl, mj_lda, mj_ii, mj_ll, mj_li, mj_i1, ms_1, ms_2, f1_n, f1_i, f1_r, f1_u, f1_l, f2_n, f2_i, f2_r, f2_u, f2_l, mj_tg, mj_c1, mj_c2, mj_ar, mj_aw, mq_cb, mq_oi, mj_rm, Value.category, -getElem?_pos, List.getElem?_cons_zero, decide_eq_true, decide_eq_false, nl_lt, nl_le, ln_lt, ln_le, nl_eq, ln_eq, nl_add, ln_add, nl_sub, ln_mul, nI_sub, nI_mul, nI_add, nI_lt_iff, nI_le_iff, nI_inj, nI_num, mq_ix, nI_1, nl_mul, nl_div, aty_i, aty_b, aty_l, p_len hP, ha, List.append_assoc, List.cons_append, List.nil_append, g0, g4, hf, mj_E]
  exact hr
theorem n231_65 (hP : P.length = 67) (hf : fs.length = 90) (ha : as.length = 65) : ∀ r, mj_Rn (d + 1) mj_m231 682 [(0, .ref 67)] [] (P ++ (11, fs.set 76 (.ref 133)) :: (as ++ [zr 1000 16 (.int 0)])) = some r → mj_Rn (d + 1) mj_m231 674 [(0, .ref 67)] [] (P ++ (11, fs) :: as) = some r := by
  intro r hr
  have g0 := p_at (as := as ++ [zr 1000 16 (.int 0)]) hP (11, fs)
  have g4 := p_set (as := as ++ [zr 1000 16 (.int 0)]) hP (11, fs)
  unfold zr at g0 g4 hr
  simp (disch := (first | omega | decide)) [S_b0_mod_7, S_b0_mod_6, S_b0_mod_5, S_b0_mod_3, S_b0_mod_2, S_b0_mod_1, S_b0_mod_0, S_b0_mod_4h, -List.reduceReplicate, s231_674, s231_675, s231_677, s231_679, mq_k0s, mq_k1s, mq_k2s, mq_k4s, mq_k5s, mq_k5n, mq_k5as, mq_k6s, mj_pu, mj_lo, mj_br, mj_hr, mj_hw, mq_gf, mq_len, mq_al, mq_pf, mq_ok, mj_re, mq_lkm, mq_lkn, mj_ldi, mj_ldl, mj_lda, mj_ii, mj_ll, mj_li, mj_i1, ms_1, ms_2, f1_n, f1_i, f1_r, f1_u, f1_l, f2_n, f2_i, f2_r, f2_u, f2_l, mj_tg, mj_c1, mj_c2, mj_ar, mj_aw, mq_cb, mq_oi, mj_rm, Value.category, -getElem?_pos, List.getElem?_cons_zero, decide_eq_true, decide_eq_false, nl_lt, nl_le, ln_lt, ln_le, nl_eq, ln_eq, nl_add, ln_add, nl_sub, ln_mul, nI_sub, nI_mul, nI_add, nI_lt_iff, nI_le_iff, nI_inj, nI_num, mq_ix, nI_1, nl_mul, nl_div, aty_i, aty_b, aty_l, p_len hP, ha, List.append_assoc, List.cons_append, List.nil_append, g0, g4, hf, mj_E]
  exact hr
theorem n231_66 (hP : P.length = 67) (hf : fs.length = 90) (ha : as.length = 66) : ∀ r, mj_Rn (d + 1) mj_m231 690 [(0, .ref 67)] [] (P ++ (11, fs.set 77 (.ref 134)) :: (as ++ [zr 1002 16 (.int 0)])) = some r → mj_Rn (d + 1) mj_m231 682 [(0, .ref 67)] [] (P ++ (11, fs) :: as) = some r := by
  intro r hr
  have g0 := p_at (as := as ++ [zr 1002 16 (.int 0)]) hP (11, fs)
  have g4 := p_set (as := as ++ [zr 1002 16 (.int 0)]) hP (11, fs)
  unfold zr at g0 g4 hr
  simp (disch := (first | omega | decide)) [S_b0_mod_7, S_b0_mod_6, S_b0_mod_5, S_b0_mod_3, S_b0_mod_2, S_b0_mod_1, S_b0_mod_0, S_b0_mod_4h, -List.reduceReplicate, s231_682, s231_683, s231_685, s231_687, mq_k0s, mq_k1s, mq_k2s, mq_k4s, mq_k5s, mq_k5n, mq_k5as, mq_k6s, mj_pu, mj_lo, mj_br, mj_hr, mj_hw, mq_gf, mq_len, mq_al, mq_pf, mq_ok, mj_re, mq_lkm, mq_lkn, mj_ldi, mj_ldl, mj_lda, mj_ii, mj_ll, mj_li, mj_i1, ms_1, ms_2, f1_n, f1_i, f1_r, f1_u, f1_l, f2_n, f2_i, f2_r, f2_u, f2_l, mj_tg, mj_c1, mj_c2, mj_ar, mj_aw, mq_cb, mq_oi, mj_rm, Value.category, -getElem?_pos, List.getElem?_cons_zero, decide_eq_true, decide_eq_false, nl_lt, nl_le, ln_lt, ln_le, nl_eq, ln_eq, nl_add, ln_add, nl_sub, ln_mul, nI_sub, nI_mul, nI_add, nI_lt_iff, nI_le_iff, nI_inj, nI_num, mq_ix, nI_1, nl_mul, nl_div, aty_i, aty_b, aty_l, p_len hP, ha, List.append_assoc, List.cons_append, List.nil_append, g0, g4, hf, mj_E]
  exact hr
theorem n231_67 (hP : P.length = 67) (hf : fs.length = 90) (ha : as.length = 67) : ∀ r, mj_Rn (d + 1) mj_m231 698 [(0, .ref 67)] [] (P ++ (11, fs.set 78 (.ref 135)) :: (as ++ [zr 1002 16 (.int 0)])) = some r → mj_Rn (d + 1) mj_m231 690 [(0, .ref 67)] [] (P ++ (11, fs) :: as) = some r := by
  intro r hr
  have g0 := p_at (as := as ++ [zr 1002 16 (.int 0)]) hP (11, fs)
  have g4 := p_set (as := as ++ [zr 1002 16 (.int 0)]) hP (11, fs)
  unfold zr at g0 g4 hr
  simp (disch := (first | omega | decide)) [S_b0_mod_7, S_b0_mod_6, S_b0_mod_5, S_b0_mod_3, S_b0_mod_2, S_b0_mod_1, S_b0_mod_0, S_b0_mod_4h, -List.reduceReplicate, s231_690, s231_691, s231_693, s231_695, mq_k0s, mq_k1s, mq_k2s, mq_k4s, mq_k5s, mq_k5n, mq_k5as, mq_k6s, mj_pu, mj_lo, mj_br, mj_hr, mj_hw, mq_gf, mq_len, mq_al, mq_pf, mq_ok, mj_re, mq_lkm, mq_lkn, mj_ldi, mj_ldl, mj_lda, mj_ii, mj_ll, mj_li, mj_i1, ms_1, ms_2, f1_n, f1_i, f1_r, f1_u, f1_l, f2_n, f2_i, f2_r, f2_u, f2_l, mj_tg, mj_c1, mj_c2, mj_ar, mj_aw, mq_cb, mq_oi, mj_rm, Value.category, -getElem?_pos, List.getElem?_cons_zero, decide_eq_true, decide_eq_false, nl_lt, nl_le, ln_lt, ln_le, nl_eq, ln_eq, nl_add, ln_add, nl_sub, ln_mul, nI_sub, nI_mul, nI_add, nI_lt_iff, nI_le_iff, nI_inj, nI_num, mq_ix, nI_1, nl_mul, nl_div, aty_i, aty_b, aty_l, p_len hP, ha, List.append_assoc, List.cons_append, List.nil_append, g0, g4, hf, mj_E]
  exact hr
theorem n231_68 (hP : P.length = 67) (hf : fs.length = 90) (ha : as.length = 68) : ∀ r, mj_Rn (d + 1) mj_m231 705 [(0, .ref 67)] [] (P ++ (11, fs.set 79 (.ref 136)) :: (as ++ [zr 1000 4 (.int 0)])) = some r → mj_Rn (d + 1) mj_m231 698 [(0, .ref 67)] [] (P ++ (11, fs) :: as) = some r := by
  intro r hr
  have g0 := p_at (as := as ++ [zr 1000 4 (.int 0)]) hP (11, fs)
  have g4 := p_set (as := as ++ [zr 1000 4 (.int 0)]) hP (11, fs)
  unfold zr at g0 g4 hr
  simp (disch := (first | omega | decide)) [S_b0_mod_7, S_b0_mod_6, S_b0_mod_5, S_b0_mod_3, S_b0_mod_2, S_b0_mod_1, S_b0_mod_0, S_b0_mod_4h, -List.reduceReplicate, s231_698, s231_699, s231_700, s231_702, mq_k0s, mq_k1s, mq_k2s, mq_k4s, mq_k5s, mq_k5n, mq_k5as, mq_k6s, mj_pu, mj_lo, mj_br, mj_hr, mj_hw, mq_gf, mq_len, mq_al, mq_pf, mq_ok, mj_re, mq_lkm, mq_lkn, mj_ldi, mj_ldl, mj_lda, mj_ii, mj_ll, mj_li, mj_i1, ms_1, ms_2, f1_n, f1_i, f1_r, f1_u, f1_l, f2_n, f2_i, f2_r, f2_u, f2_l, mj_tg, mj_c1, mj_c2, mj_ar, mj_aw, mq_cb, mq_oi, mj_rm, Value.category, -getElem?_pos, List.getElem?_cons_zero, decide_eq_true, decide_eq_false, nl_lt, nl_le, ln_lt, ln_le, nl_eq, ln_eq, nl_add, ln_add, nl_sub, ln_mul, nI_sub, nI_mul, nI_add, nI_lt_iff, nI_le_iff, nI_inj, nI_num, mq_ix, nI_1, nl_mul, nl_div, aty_i, aty_b, aty_l, p_len hP, ha, List.append_assoc, List.cons_append, List.nil_append, g0, g4, hf, mj_E]
  exact hr
theorem n231_69 (hP : P.length = 67) (hf : fs.length = 90) (ha : as.length = 69) : ∀ r, mj_Rn (d + 1) mj_m231 713 [(0, .ref 67)] [] (P ++ (11, fs.set 80 (.ref 137)) :: (as ++ [zr 1000 32 (.int 0)])) = some r → mj_Rn (d + 1) mj_m231 705 [(0, .ref 67)] [] (P ++ (11, fs) :: as) = some r := by
  intro r hr
  have g0 := p_at (as := as ++ [zr 1000 32 (.int 0)]) hP (11, fs)
  have g4 := p_set (as := as ++ [zr 1000 32 (.int 0)]) hP (11, fs)
  unfold zr at g0 g4 hr
  simp (disch := (first | omega | decide)) [S_b0_mod_7, S_b0_mod_6, S_b0_mod_5, S_b0_mod_3, S_b0_mod_2, S_b0_mod_1, S_b0_mod_0, S_b0_mod_4h, -List.reduceReplicate, s231_705, s231_706, s231_708, s231_710, mq_k0s, mq_k1s, mq_k2s, mq_k4s, mq_k5s, mq_k5n, mq_k5as, mq_k6s, mj_pu, mj_lo, mj_br, mj_hr, mj_hw, mq_gf, mq_len, mq_al, mq_pf, mq_ok, mj_re, mq_lkm, mq_lkn, mj_ldi, mj_ldl, mj_lda, mj_ii, mj_ll, mj_li, mj_i1, ms_1, ms_2, f1_n, f1_i, f1_r, f1_u, f1_l, f2_n, f2_i, f2_r, f2_u, f2_l, mj_tg, mj_c1, mj_c2, mj_ar, mj_aw, mq_cb, mq_oi, mj_rm, Value.category, -getElem?_pos, List.getElem?_cons_zero, decide_eq_true, decide_eq_false, nl_lt, nl_le, ln_lt, ln_le, nl_eq, ln_eq, nl_add, ln_add, nl_sub, ln_mul, nI_sub, nI_mul, nI_add, nI_lt_iff, nI_le_iff, nI_inj, nI_num, mq_ix, nI_1, nl_mul, nl_div, aty_i, aty_b, aty_l, p_len hP, ha, List.append_assoc, List.cons_append, List.nil_append, g0, g4, hf, mj_E]
  exact hr
theorem n231_70 (hP : P.length = 67) (hf : fs.length = 90) (ha : as.length = 70) : ∀ r, mj_Rn (d + 1) mj_m231 721 [(0, .ref 67)] [] (P ++ (11, fs.set 81 (.ref 138)) :: (as ++ [zr 1000 32 (.int 0)])) = some r → mj_Rn (d + 1) mj_m231 713 [(0, .ref 67)] [] (P ++ (11, fs) :: as) = some r := by
  intro r hr
  have g0 := p_at (as := as ++ [zr 1000 32 (.int 0)]) hP (11, fs)
  have g4 := p_set (as := as ++ [zr 1000 32 (.int 0)]) hP (11, fs)
  unfold zr at g0 g4 hr
  simp (disch := (first | omega | decide)) [S_b0_mod_7, S_b0_mod_6, S_b0_mod_5, S_b0_mod_3, S_b0_mod_2, S_b0_mod_1, S_b0_mod_0, S_b0_mod_4h, -List.reduceReplicate, s231_713, s231_714, s231_716, s231_718, mq_k0s, mq_k1s, mq_k2s, mq_k4s, mq_k5s, mq_k5n, mq_k5as, mq_k6s, mj_pu, mj_lo, mj_br, mj_hr, mj_hw, mq_gf, mq_len, mq_al, mq_pf, mq_ok, mj_re, mq_lkm, mq_lkn, mj_ldi, mj_ldl, mj_lda, mj_ii, mj_ll, mj_li, mj_i1, ms_1, ms_2, f1_n, f1_i, f1_r, f1_u, f1_l, f2_n, f2_i, f2_r, f2_u, f2_l, mj_tg, mj_c1, mj_c2, mj_ar, mj_aw, mq_cb, mq_oi, mj_rm, Value.category, -getElem?_pos, List.getElem?_cons_zero, decide_eq_true, decide_eq_false, nl_lt, nl_le, ln_lt, ln_le, nl_eq, ln_eq, nl_add, ln_add, nl_sub, ln_mul, nI_sub, nI_mul, nI_add, nI_lt_iff, nI_le_iff, nI_inj, nI_num, mq_ix, nI_1, nl_mul, nl_div, aty_i, aty_b, aty_l, p_len hP, ha, List.append_assoc, List.cons_append, List.nil_append, g0, g4, hf, mj_E]
  exact hr
theorem n231_71 (hP : P.length = 67) (hf : fs.length = 90) (ha : as.length = 71) : ∀ r, mj_Rn (d + 1) mj_m231 729 [(0, .ref 67)] [] (P ++ (11, fs.set 82 (.ref 139)) :: (as ++ [zr 1000 32 (.int 0)])) = some r → mj_Rn (d + 1) mj_m231 721 [(0, .ref 67)] [] (P ++ (11, fs) :: as) = some r := by
  intro r hr
  have g0 := p_at (as := as ++ [zr 1000 32 (.int 0)]) hP (11, fs)
  have g4 := p_set (as := as ++ [zr 1000 32 (.int 0)]) hP (11, fs)
  unfold zr at g0 g4 hr
  simp (disch := (first | omega | decide)) [S_b0_mod_7, S_b0_mod_6, S_b0_mod_5, S_b0_mod_3, S_b0_mod_2, S_b0_mod_1, S_b0_mod_0, S_b0_mod_4h, -List.reduceReplicate, s231_721, s231_722, s231_724, s231_726, mq_k0s, mq_k1s, mq_k2s, mq_k4s, mq_k5s, mq_k5n, mq_k5as, mq_k6s, mj_pu, mj_lo, mj_br, mj_hr, mj_hw, mq_gf, mq_len, mq_al, mq_pf, mq_ok, mj_re, mq_lkm, mq_lkn, mj_ldi, mj_ldl, mj_lda, mj_ii, mj_ll, mj_li, mj_i1, ms_1, ms_2, f1_n, f1_i, f1_r, f1_u, f1_l, f2_n, f2_i, f2_r, f2_u, f2_l, mj_tg, mj_c1, mj_c2, mj_ar, mj_aw, mq_cb, mq_oi, mj_rm, Value.category, -getElem?_pos, List.getElem?_cons_zero, decide_eq_true, decide_eq_false, nl_lt, nl_le, ln_lt, ln_le, nl_eq, ln_eq, nl_add, ln_add, nl_sub, ln_mul, nI_sub, nI_mul, nI_add, nI_lt_iff, nI_le_iff, nI_inj, nI_num, mq_ix, nI_1, nl_mul, nl_div, aty_i, aty_b, aty_l, p_len hP, ha, List.append_assoc, List.cons_append, List.nil_append, g0, g4, hf, mj_E]
  exact hr
theorem n231_72 (hP : P.length = 67) (hf : fs.length = 90) (ha : as.length = 72) : ∀ r, mj_Rn (d + 1) mj_m231 737 [(0, .ref 67)] [] (P ++ (11, fs.set 83 (.ref 140)) :: (as ++ [zr 1000 32 (.int 0)])) = some r → mj_Rn (d + 1) mj_m231 729 [(0, .ref 67)] [] (P ++ (11, fs) :: as) = some r := by
  intro r hr
  have g0 := p_at (as := as ++ [zr 1000 32 (.int 0)]) hP (11, fs)
  have g4 := p_set (as := as ++ [zr 1000 32 (.int 0)]) hP (11, fs)
  unfold zr at g0 g4 hr
  simp (disch := (first | omega | decide)) [S_b0_mod_7, S_b0_mod_6, S_b0_mod_5, S_b0_mod_3, S_b0_mod_2, S_b0_mod_1, S_b0_mod_0, S_b0_mod_4h, -List.reduceReplicate, s231_729, s231_730, s231_732, s231_734, mq_k0s, mq_k1s, mq_k2s, mq_k4s, mq_k5s, mq_k5n, mq_k5as, mq_k6s, mj_pu, mj_lo, mj_br, mj_hr, mj_hw, mq_gf, mq_len, mq_al, mq_pf, mq_ok, mj_re, mq_lkm, mq_lkn, mj_ldi, mj_ldl, mj_lda, mj_ii, mj_ll, mj_li, mj_i1, ms_1, ms_2, f1_n, f1_i, f1_r, f1_u, f1_l, f2_n, f2_i, f2_r, f2_u, f2_l, mj_tg, mj_c1, mj_c2, mj_ar, mj_aw, mq_cb, mq_oi, mj_rm, Value.category, -getElem?_pos, List.getElem?_cons_zero, decide_eq_true, decide_eq_false, nl_lt, nl_le, ln_lt, ln_le, nl_eq, ln_eq, nl_add, ln_add, nl_sub, ln_mul, nI_sub, nI_mul, nI_add, nI_lt_iff, nI_le_iff, nI_inj, nI_num, mq_ix, nI_1, nl_mul, nl_div, aty_i, aty_b, aty_l, p_len hP, ha, List.append_assoc, List.cons_append, List.nil_append, g0, g4, hf, mj_E]
  exact hr
theorem n231_73 (hP : P.length = 67) (hf : fs.length = 90) (ha : as.length = 73) : ∀ r, mj_Rn (d + 1) mj_m231 746 [(0, .ref 67)] [] (P ++ (11, fs.set 84 (.ref 141)) :: (as ++ [zr 1000 256 (.int 0)])) = some r → mj_Rn (d + 1) mj_m231 737 [(0, .ref 67)] [] (P ++ (11, fs) :: as) = some r := by
  intro r hr
  have g0 := p_at (as := as ++ [zr 1000 256 (.int 0)]) hP (11, fs)
  have g4 := p_set (as := as ++ [zr 1000 256 (.int 0)]) hP (11, fs)
  unfold zr at g0 g4 hr
  simp (disch := (first | omega | decide)) [S_b0_mod_7, S_b0_mod_6, S_b0_mod_5, S_b0_mod_3, S_b0_mod_2, S_b0_mod_1, S_b0_mod_0, S_b0_mod_4h, -List.reduceReplicate, s231_737, s231_738, s231_741, s231_743, mq_k0s, mq_k1s, mq_k2s, mq_k4s, mq_k5s, mq_k5n, mq_k5as, mq_k6s, mj_pu, mj_lo, mj_br, mj_hr, mj_hw, mq_gf, mq_len, mq_al, mq_pf, mq_ok, mj_re, mq_lkm, mq_lkn, mj_ldi, mj_ldl, mj_lda, mj_ii, mj_ll, mj_li, mj_i1, ms_1, ms_2, f1_n, f1_i, f1_r, f1_u, f1_l, f2_n, f2_i, f2_r, f2_u, f2_l, mj_tg, mj_c1, mj_c2, mj_ar, mj_aw, mq_cb, mq_oi, mj_rm, Value.category, -getElem?_pos, List.getElem?_cons_zero, decide_eq_true, decide_eq_false, nl_lt, nl_le, ln_lt, ln_le, nl_eq, ln_eq, nl_add, ln_add, nl_sub, ln_mul, nI_sub, nI_mul, nI_add, nI_lt_iff, nI_le_iff, nI_inj, nI_num, mq_ix, nI_1, nl_mul, nl_div, aty_i, aty_b, aty_l, p_len hP, ha, List.append_assoc, List.cons_append, List.nil_append, g0, g4, hf, mj_E]
  exact hr
theorem n231_74 (hP : P.length = 67) (hf : fs.length = 90) (ha : as.length = 74) : ∀ r, mj_Rn (d + 1) mj_m231 754 [(0, .ref 67)] [] (P ++ (11, fs.set 85 (.ref 142)) :: (as ++ [zr 1000 32 (.int 0)])) = some r → mj_Rn (d + 1) mj_m231 746 [(0, .ref 67)] [] (P ++ (11, fs) :: as) = some r := by
  intro r hr
  have g0 := p_at (as := as ++ [zr 1000 32 (.int 0)]) hP (11, fs)
  have g4 := p_set (as := as ++ [zr 1000 32 (.int 0)]) hP (11, fs)
  unfold zr at g0 g4 hr
  simp (disch := (first | omega | decide)) [S_b0_mod_7, S_b0_mod_6, S_b0_mod_5, S_b0_mod_3, S_b0_mod_2, S_b0_mod_1, S_b0_mod_0, S_b0_mod_4h, -List.reduceReplicate, s231_746, s231_747, s231_749, s231_751, mq_k0s, mq_k1s, mq_k2s, mq_k4s, mq_k5s, mq_k5n, mq_k5as, mq_k6s, mj_pu, mj_lo, mj_br, mj_hr, mj_hw, mq_gf, mq_len, mq_al, mq_pf, mq_ok, mj_re, mq_lkm, mq_lkn, mj_ldi, mj_ldl, mj_lda, mj_ii, mj_ll, mj_li, mj_i1, ms_1, ms_2, f1_n, f1_i, f1_r, f1_u, f1_l, f2_n, f2_i, f2_r, f2_u, f2_l, mj_tg, mj_c1, mj_c2, mj_ar, mj_aw, mq_cb, mq_oi, mj_rm, Value.category, -getElem?_pos, List.getElem?_cons_zero, decide_eq_true, decide_eq_false, nl_lt, nl_le, ln_lt, ln_le, nl_eq, ln_eq, nl_add, ln_add, nl_sub, ln_mul, nI_sub, nI_mul, nI_add, nI_lt_iff, nI_le_iff, nI_inj, nI_num, mq_ix, nI_1, nl_mul, nl_div, aty_i, aty_b, aty_l, p_len hP, ha, List.append_assoc, List.cons_append, List.nil_append, g0, g4, hf, mj_E]
  exact hr
theorem n231_75 (hP : P.length = 67) (hf : fs.length = 90) (ha : as.length = 75) : ∀ r, mj_Rn (d + 1) mj_m231 761 [(0, .ref 67)] [] (P ++ (11, fs.set 86 (.ref 143)) :: (as ++ [zr 1000 4 (.int 0)])) = some r → mj_Rn (d + 1) mj_m231 754 [(0, .ref 67)] [] (P ++ (11, fs) :: as) = some r := by
  intro r hr
  have g0 := p_at (as := as ++ [zr 1000 4 (.int 0)]) hP (11, fs)
  have g4 := p_set (as := as ++ [zr 1000 4 (.int 0)]) hP (11, fs)
  unfold zr at g0 g4 hr
  simp (disch := (first | omega | decide)) [S_b0_mod_7, S_b0_mod_6, S_b0_mod_5, S_b0_mod_3, S_b0_mod_2, S_b0_mod_1, S_b0_mod_0, S_b0_mod_4h, -List.reduceReplicate, s231_754, s231_755, s231_756, s231_758, mq_k0s, mq_k1s, mq_k2s, mq_k4s, mq_k5s, mq_k5n, mq_k5as, mq_k6s, mj_pu, mj_lo, mj_br, mj_hr, mj_hw, mq_gf, mq_len, mq_al, mq_pf, mq_ok, mj_re, mq_lkm, mq_lkn, mj_ldi, mj_ldl, mj_lda, mj_ii, mj_ll, mj_li, mj_i1, ms_1, ms_2, f1_n, f1_i, f1_r, f1_u, f1_l, f2_n, f2_i, f2_r, f2_u, f2_l, mj_tg, mj_c1, mj_c2, mj_ar, mj_aw, mq_cb, mq_oi, mj_rm, Value.category, -getElem?_pos, List.getElem?_cons_zero, decide_eq_true, decide_eq_false, nl_lt, nl_le, ln_lt, ln_le, nl_eq, ln_eq, nl_add, ln_add, nl_sub, ln_mul, nI_sub, nI_mul, nI_add, nI_lt_iff, nI_le_iff, nI_inj, nI_num, mq_ix, nI_1, nl_mul, nl_div, aty_i, aty_b, aty_l, p_len hP, ha, List.append_assoc, List.cons_append, List.nil_append, g0, g4, hf, mj_E]
  exact hr
theorem n231_76 (hP : P.length = 67) (hf : fs.length = 90) (ha : as.length = 76) : ∀ r, mj_Rn (d + 1) mj_m231 768 [(0, .ref 67)] [] (P ++ (11, fs.set 87 (.ref 144)) :: (as ++ [zr 1000 4 (.int 0)])) = some r → mj_Rn (d + 1) mj_m231 761 [(0, .ref 67)] [] (P ++ (11, fs) :: as) = some r := by
  intro r hr
  have g0 := p_at (as := as ++ [zr 1000 4 (.int 0)]) hP (11, fs)
  have g4 := p_set (as := as ++ [zr 1000 4 (.int 0)]) hP (11, fs)
  unfold zr at g0 g4 hr
  simp (disch := (first | omega | decide)) [S_b0_mod_7, S_b0_mod_6, S_b0_mod_5, S_b0_mod_3, S_b0_mod_2, S_b0_mod_1, S_b0_mod_0, S_b0_mod_4h, -List.reduceReplicate, s231_761, s231_762, s231_763, s231_765, mq_k0s, mq_k1s, mq_k2s, mq_k4s, mq_k5s, mq_k5n, mq_k5as, mq_k6s, mj_pu, mj_lo, mj_br, mj_hr, mj_hw, mq_gf, mq_len, mq_al, mq_pf, mq_ok, mj_re, mq_lkm, mq_lkn, mj_ldi, mj_ldl, mj_lda, mj_ii, mj_ll, mj_li, mj_i1, ms_1, ms_2, f1_n, f1_i, f1_r, f1_u, f1_l, f2_n, f2_i, f2_r, f2_u, f2_l, mj_tg, mj_c1, mj_c2, mj_ar, mj_aw, mq_cb, mq_oi, mj_rm, Value.category, -getElem?_pos, List.getElem?_cons_zero, decide_eq_true, decide_eq_false, nl_lt, nl_le, ln_lt, ln_le, nl_eq, ln_eq, nl_add, ln_add, nl_sub, ln_mul, nI_sub, nI_mul, nI_add, nI_lt_iff, nI_le_iff, nI_inj, nI_num, mq_ix, nI_1, nl_mul, nl_div, aty_i, aty_b, aty_l, p_len hP, ha, List.append_assoc, List.cons_append, List.nil_append, g0, g4, hf, mj_E]
  exact hr
theorem n231_77 (hP : P.length = 67) (hf : fs.length = 90) (ha : as.length = 77) : ∀ r, mj_Rn (d + 1) mj_m231 776 [(0, .ref 67)] [] (P ++ (11, fs.set 88 (.ref 145)) :: (as ++ [zr 1000 8 (.int 0)])) = some r → mj_Rn (d + 1) mj_m231 768 [(0, .ref 67)] [] (P ++ (11, fs) :: as) = some r := by
  intro r hr
  have g0 := p_at (as := as ++ [zr 1000 8 (.int 0)]) hP (11, fs)
  have g4 := p_set (as := as ++ [zr 1000 8 (.int 0)]) hP (11, fs)
  unfold zr at g0 g4 hr
  simp (disch := (first | omega | decide)) [S_b0_mod_7, S_b0_mod_6, S_b0_mod_5, S_b0_mod_3, S_b0_mod_2, S_b0_mod_1, S_b0_mod_0, S_b0_mod_4h, -List.reduceReplicate, s231_768, s231_769, s231_771, s231_773, mq_k0s, mq_k1s, mq_k2s, mq_k4s, mq_k5s, mq_k5n, mq_k5as, mq_k6s, mj_pu, mj_lo, mj_br, mj_hr, mj_hw, mq_gf, mq_len, mq_al, mq_pf, mq_ok, mj_re, mq_lkm, mq_lkn, mj_ldi, mj_ldl, mj_lda, mj_ii, mj_ll, mj_li, mj_i1, ms_1, ms_2, f1_n, f1_i, f1_r, f1_u, f1_l, f2_n, f2_i, f2_r, f2_u, f2_l, mj_tg, mj_c1, mj_c2, mj_ar, mj_aw, mq_cb, mq_oi, mj_rm, Value.category, -getElem?_pos, List.getElem?_cons_zero, decide_eq_true, decide_eq_false, nl_lt, nl_le, ln_lt, ln_le, nl_eq, ln_eq, nl_add, ln_add, nl_sub, ln_mul, nI_sub, nI_mul, nI_add, nI_lt_iff, nI_le_iff, nI_inj, nI_num, mq_ix, nI_1, nl_mul, nl_div, aty_i, aty_b, aty_l, p_len hP, ha, List.append_assoc, List.cons_append, List.nil_append, g0, g4, hf, mj_E]
  exact hr
def x0 : Fx := (((((((0, 0), (0, 0)), ((List.replicate 400 0, List.replicate 1536 0), (List.replicate 3 0, List.replicate 3 0))), (((List.replicate 3 0, List.replicate 3 0), (List.replicate 3 0, List.replicate 3 0)), ((List.replicate 3 0, List.replicate 3 0), (List.replicate 3 0, List.replicate 3 0)))), ((((List.replicate 3 0, List.replicate 3 0), (List.replicate 3 0, List.replicate 3 0)), ((List.replicate 36 0, List.replicate 36 0), (List.replicate 36 0, List.replicate 36 0))), (((List.replicate 36 0, List.replicate 288 0), (List.replicate 3 0, List.replicate 3 0)), ((List.replicate 3 0, List.replicate 3 0), (List.replicate 3 0, List.replicate 3 0))))), (((((List.replicate 36 0, List.replicate 3 0), (List.replicate 3 0, List.replicate 640 0)), ((List.replicate 1200 0, List.replicate 3 0), (List.replicate 4 0, List.replicate 4 0))), (((List.replicate 4 0, List.replicate 48 0), (List.replicate 4 0, List.replicate 160 0)), ((List.replicate 4 0, List.replicate 160 0), (List.replicate 4 0, List.replicate 96 0)))), ((((List.replicate 4 0, List.replicate 4 0), (List.replicate 16 0, List.replicate 128 0)), ((List.replicate 16 0, List.replicate 16 0), (List.replicate 16 0, List.replicate 4 0))), (((List.replicate 32 0, List.replicate 32 0), (List.replicate 32 0, List.replicate 32 0)), ((List.replicate 256 0, List.replicate 32 0), (List.replicate 4 0, List.replicate 4 0)))))) : Fx)
def y0 : Sy := ((((((0, 0), (0, 0)), ((0, 0), 0)), (((0, List.replicate 1700000 0), List.replicate 40000 0), ((List.replicate 40000 0, List.replicate 8192 0), List.replicate 512 0))), ((((List.replicate 32 0, List.replicate 32 0), (List.replicate 5 0, List.replicate 5 0)), ((List.replicate 5 0, [112, 117, 98, 108, 105, 99, 45, 107, 101, 121]), List.replicate 640 0)), ((([112, 97, 99, 107, 101, 100], List.replicate 32 0), [70, 73, 68, 79, 95, 50, 95, 48]), (([99, 108, 105, 101, 110, 116, 80, 105, 110], List.replicate 8 0), List.replicate 5 0)))) : Sy)
def f11 : List Value := [.null, .int 0, .null, .null, .null, .int 0, .int 0, .int 0, .null, .int 0, .null, .int 0, .int 0, .null, .null, .null, .null, .null, .null, .null, .null, .null, .null, .null, .null, .null, .null, .null, .null, .null, .null, .null, .null, .null, .null, .null, .null, .null, .null, .null, .null, .null, .null, .null, .null, .int 0, .null, .int 0, .null, .null, .null, .null, .null, .null, .null, .null, .int 0, .null, .null, .null, .null, .null, .null, .null, .null, .null, .null, .null, .int 0, .null, .null, .null, .null, .null, .null, .null, .null, .null, .null, .null, .null, .null, .null, .null, .null, .null, .null, .null, .null, .int 0]
theorem ty_11 : mj_ty[11]? = some [.array .int, .int, .array .int, .array .int, .array .int, .int, .int, .int, .array .int, .int, .array .int, .int, .int, .array .int, .array .boolean, .array .int, .array .int, .array .int, .array .int, .array .int, .array .int, .array .int, .array .int, .array .int, .array .int, .array .int, .array .int, .array .int, .array .int, .array .int, .array .int, .array .int, .array .int, .array .int, .array .int, .array .int, .array .int, .array .boolean, .array .int, .array .int, .array .int, .array .int, .array .int, .array .int, .array .int, .int, .array .int, .int, .array .boolean, .array .long, .array .int, .array .int, .array .int, .array .int, .array .int, .array .int, .int, .array .int, .array .int, .array .int, .array .int, .array .int, .array .int, .array .int, .array .int, .array .int, .array .int, .array .int, .int, .array .int, .array .int, .array .int, .array .int, .array .int, .array .int, .array .int, .array .int, .array .boolean, .array .boolean, .array .int, .array .int, .array .int, .array .int, .array .int, .array .int, .array .int, .array .int, .array .int, .array .int, .int] := rfl
theorem vi_rep (n : Nat) (v : Int32) : vi (List.replicate n v) = List.replicate n (Value.int v) := List.map_replicate
theorem vl_rep (n : Nat) (v : Int64) : vl (List.replicate n v) = List.replicate n (Value.long v) := List.map_replicate
theorem cells0 : cells x0 y0 = (11, mf 0 0 0 0 0 0 0 0 0 0 0 0) :: [zr 1000 1700000 (.int 0), zr 1000 40000 (.int 0), zr 1000 40000 (.int 0), zr 1000 8192 (.int 0), zr 1000 512 (.int 0), zr 1000 400 (.int 0), zr 1000 1536 (.int 0), zr 1002 3 (.int 0), zr 1000 3 (.int 0), zr 1000 3 (.int 0), zr 1000 3 (.int 0), zr 1000 3 (.int 0), zr 1000 3 (.int 0), zr 1000 3 (.int 0), zr 1000 3 (.int 0), zr 1000 3 (.int 0), zr 1000 3 (.int 0), zr 1000 3 (.int 0), zr 1000 3 (.int 0), zr 1000 3 (.int 0), zr 1000 3 (.int 0), zr 1000 36 (.int 0), zr 1000 36 (.int 0), zr 1000 36 (.int 0), zr 1000 36 (.int 0), zr 1000 36 (.int 0), zr 1000 288 (.int 0), zr 1000 3 (.int 0), zr 1000 3 (.int 0), zr 1000 3 (.int 0), zr 1002 3 (.int 0), zr 1000 3 (.int 0), zr 1000 3 (.int 0), zr 1000 36 (.int 0), zr 1000 3 (.int 0), zr 1000 3 (.int 0), zr 1000 32 (.int 0), zr 1000 32 (.int 0), zr 1000 640 (.int 0), zr 1002 5 (.int 0), zr 1003 5 (.long 0), zr 1000 5 (.int 0), zr 1000 5 (.int 0), (1000, [(112 : Int32), (117 : Int32), (98 : Int32), (108 : Int32), (105 : Int32), (99 : Int32), (45 : Int32), (107 : Int32), (101 : Int32), (121 : Int32)].map Value.int), zr 1000 1200 (.int 0), zr 1000 3 (.int 0), zr 1000 640 (.int 0), (1000, [(112 : Int32), (97 : Int32), (99 : Int32), (107 : Int32), (101 : Int32), (100 : Int32)].map Value.int), zr 1000 32 (.int 0), (1000, [(70 : Int32), (73 : Int32), (68 : Int32), (79 : Int32), (95 : Int32), (50 : Int32), (95 : Int32), (48 : Int32)].map Value.int), (1000, [(99 : Int32), (108 : Int32), (105 : Int32), (101 : Int32), (110 : Int32), (116 : Int32), (80 : Int32), (105 : Int32), (110 : Int32)].map Value.int), zr 1000 4 (.int 0), zr 1000 4 (.int 0), zr 1000 4 (.int 0), zr 1000 48 (.int 0), zr 1000 4 (.int 0), zr 1000 160 (.int 0), zr 1000 4 (.int 0), zr 1000 160 (.int 0), zr 1000 4 (.int 0), zr 1000 96 (.int 0), zr 1000 4 (.int 0), zr 1000 4 (.int 0), zr 1000 16 (.int 0), zr 1000 128 (.int 0), zr 1000 16 (.int 0), zr 1002 16 (.int 0), zr 1002 16 (.int 0), zr 1000 4 (.int 0), zr 1000 32 (.int 0), zr 1000 32 (.int 0), zr 1000 32 (.int 0), zr 1000 32 (.int 0), zr 1000 256 (.int 0), zr 1000 32 (.int 0), zr 1000 4 (.int 0), zr 1000 4 (.int 0), zr 1000 8 (.int 0)] := by
  unfold cells x0 y0
  simp only [zr, vi_rep, vl_rep]
  rfl
set_option maxRecDepth 20000 in
theorem f11_mf : ((((((((((((((((((((((((((((((((((((((((((((((((((((((((((((((((((((((((((((((f11.set 0 (.ref 68)).set 2 (.ref 69)).set 3 (.ref 70)).set 4 (.ref 71)).set 8 (.ref 72)).set 10 (.ref 73)).set 13 (.ref 74)).set 14 (.ref 75)).set 15 (.ref 76)).set 16 (.ref 77)).set 17 (.ref 78)).set 18 (.ref 79)).set 19 (.ref 80)).set 20 (.ref 81)).set 21 (.ref 82)).set 22 (.ref 83)).set 23 (.ref 84)).set 24 (.ref 85)).set 25 (.ref 86)).set 26 (.ref 87)).set 27 (.ref 88)).set 28 (.ref 89)).set 29 (.ref 90)).set 30 (.ref 91)).set 31 (.ref 92)).set 32 (.ref 93)).set 33 (.ref 94)).set 34 (.ref 95)).set 35 (.ref 96)).set 36 (.ref 97)).set 37 (.ref 98)).set 38 (.ref 99)).set 39 (.ref 100)).set 40 (.ref 101)).set 41 (.ref 102)).set 42 (.ref 103)).set 43 (.ref 104)).set 44 (.ref 105)).set 46 (.ref 106)).set 48 (.ref 107)).set 49 (.ref 108)).set 50 (.ref 109)).set 51 (.ref 110)).set 52 (.ref 111)).set 53 (.ref 112)).set 54 (.ref 113)).set 55 (.ref 114)).set 57 (.ref 115)).set 58 (.ref 116)).set 59 (.ref 117)).set 60 (.ref 118)).set 61 (.ref 119)).set 62 (.ref 120)).set 63 (.ref 121)).set 64 (.ref 122)).set 65 (.ref 123)).set 66 (.ref 124)).set 67 (.ref 125)).set 69 (.ref 126)).set 70 (.ref 127)).set 71 (.ref 128)).set 72 (.ref 129)).set 73 (.ref 130)).set 74 (.ref 131)).set 75 (.ref 132)).set 76 (.ref 133)).set 77 (.ref 134)).set 78 (.ref 135)).set 79 (.ref 136)).set 80 (.ref 137)).set 81 (.ref 138)).set 82 (.ref 139)).set 83 (.ref 140)).set 84 (.ref 141)).set 85 (.ref 142)).set 86 (.ref 143)).set 87 (.ref 144)).set 88 (.ref 145)) = mf 0 0 0 0 0 0 0 0 0 0 0 0 := rfl
theorem q_new (hP : P.length = 67) : mj_V (d + 2) 231 [.ref 67] (P ++ [(11, f11)]) = some (none, mm (⟨(P, []), hP⟩ : Bs) x0 y0) := by
  have e : mm (⟨(P, []), hP⟩ : Bs) x0 y0 = P ++ (11, mf 0 0 0 0 0 0 0 0 0 0 0 0) :: [zr 1000 1700000 (.int 0), zr 1000 40000 (.int 0), zr 1000 40000 (.int 0), zr 1000 8192 (.int 0), zr 1000 512 (.int 0), zr 1000 400 (.int 0), zr 1000 1536 (.int 0), zr 1002 3 (.int 0), zr 1000 3 (.int 0), zr 1000 3 (.int 0), zr 1000 3 (.int 0), zr 1000 3 (.int 0), zr 1000 3 (.int 0), zr 1000 3 (.int 0), zr 1000 3 (.int 0), zr 1000 3 (.int 0), zr 1000 3 (.int 0), zr 1000 3 (.int 0), zr 1000 3 (.int 0), zr 1000 3 (.int 0), zr 1000 3 (.int 0), zr 1000 36 (.int 0), zr 1000 36 (.int 0), zr 1000 36 (.int 0), zr 1000 36 (.int 0), zr 1000 36 (.int 0), zr 1000 288 (.int 0), zr 1000 3 (.int 0), zr 1000 3 (.int 0), zr 1000 3 (.int 0), zr 1002 3 (.int 0), zr 1000 3 (.int 0), zr 1000 3 (.int 0), zr 1000 36 (.int 0), zr 1000 3 (.int 0), zr 1000 3 (.int 0), zr 1000 32 (.int 0), zr 1000 32 (.int 0), zr 1000 640 (.int 0), zr 1002 5 (.int 0), zr 1003 5 (.long 0), zr 1000 5 (.int 0), zr 1000 5 (.int 0), (1000, [(112 : Int32), (117 : Int32), (98 : Int32), (108 : Int32), (105 : Int32), (99 : Int32), (45 : Int32), (107 : Int32), (101 : Int32), (121 : Int32)].map Value.int), zr 1000 1200 (.int 0), zr 1000 3 (.int 0), zr 1000 640 (.int 0), (1000, [(112 : Int32), (97 : Int32), (99 : Int32), (107 : Int32), (101 : Int32), (100 : Int32)].map Value.int), zr 1000 32 (.int 0), (1000, [(70 : Int32), (73 : Int32), (68 : Int32), (79 : Int32), (95 : Int32), (50 : Int32), (95 : Int32), (48 : Int32)].map Value.int), (1000, [(99 : Int32), (108 : Int32), (105 : Int32), (101 : Int32), (110 : Int32), (116 : Int32), (80 : Int32), (105 : Int32), (110 : Int32)].map Value.int), zr 1000 4 (.int 0), zr 1000 4 (.int 0), zr 1000 4 (.int 0), zr 1000 48 (.int 0), zr 1000 4 (.int 0), zr 1000 160 (.int 0), zr 1000 4 (.int 0), zr 1000 160 (.int 0), zr 1000 4 (.int 0), zr 1000 96 (.int 0), zr 1000 4 (.int 0), zr 1000 4 (.int 0), zr 1000 16 (.int 0), zr 1000 128 (.int 0), zr 1000 16 (.int 0), zr 1002 16 (.int 0), zr 1002 16 (.int 0), zr 1000 4 (.int 0), zr 1000 32 (.int 0), zr 1000 32 (.int 0), zr 1000 32 (.int 0), zr 1000 32 (.int 0), zr 1000 256 (.int 0), zr 1000 32 (.int 0), zr 1000 4 (.int 0), zr 1000 4 (.int 0), zr 1000 8 (.int 0)] := by
    unfold mm
    rw [cells0, List.append_nil]
  rw [e, ← f11_mf]
  have to4 : ∀ r, mj_Rn (d + 1) mj_m231 4 [(0, .ref 67)] [] (P ++ (11, f11) :: []) = some r → mj_V (d + 2) 231 [.ref 67] (P ++ [(11, f11)]) = some r := by
    intro r hr
    simp (disch := (first | omega | decide)) [S_b0_mod_7, S_b0_mod_6, S_b0_mod_5, S_b0_mod_3, S_b0_mod_2, S_b0_mod_1, S_b0_mod_0, S_b0_mod_4h, -List.reduceReplicate, c231, s231_0, s231_1, mq_k0s, mq_k1s, mq_k2s, mq_k4s, mq_k5s, mq_k5n, mq_k5as, mq_k6s, mj_pu, mj_lo, mj_br, mj_hr, mj_hw, mq_gf, mq_len, mq_al, mq_pf, mq_ok, mj_re, mq_lkm, mq_lkn, mj_ldi, mj_ldl, mj_lda, mj_ii, mj_ll, mj_li, mj_i1, ms_1, ms_2, f1_n, f1_i, f1_r, f1_u, f1_l, f2_n, f2_i, f2_r, f2_u, f2_l, mj_tg, mj_c1, mj_c2, mj_ar, mj_aw, mq_cb, mq_oi, mj_rm, Value.category, -getElem?_pos, List.getElem?_cons_zero, decide_eq_true, decide_eq_false, nl_lt, nl_le, ln_lt, ln_le, nl_eq, ln_eq, nl_add, ln_add, nl_sub, ln_mul, nI_sub, nI_mul, nI_add, nI_lt_iff, nI_le_iff, nI_inj, nI_num, mq_ix, nI_1, nl_mul, nl_div]
    exact hr
  refine to4 _ ?_
  refine n231_0 hP (by (try simp only [List.length_set]); rfl) (by rfl) _ ?_
  refine n231_1 hP (by (try simp only [List.length_set]); rfl) (by rfl) _ ?_
  refine n231_2 hP (by (try simp only [List.length_set]); rfl) (by rfl) _ ?_
  refine n231_3 hP (by (try simp only [List.length_set]); rfl) (by rfl) _ ?_
  refine n231_4 hP (by (try simp only [List.length_set]); rfl) (by rfl) _ ?_
  refine n231_5 hP (by (try simp only [List.length_set]); rfl) (by rfl) _ ?_
  refine n231_6 hP (by (try simp only [List.length_set]); rfl) (by rfl) _ ?_
  refine n231_7 hP (by (try simp only [List.length_set]); rfl) (by rfl) _ ?_
  refine n231_8 hP (by (try simp only [List.length_set]); rfl) (by rfl) _ ?_
  refine n231_9 hP (by (try simp only [List.length_set]); rfl) (by rfl) _ ?_
  refine n231_10 hP (by (try simp only [List.length_set]); rfl) (by rfl) _ ?_
  refine n231_11 hP (by (try simp only [List.length_set]); rfl) (by rfl) _ ?_
  refine n231_12 hP (by (try simp only [List.length_set]); rfl) (by rfl) _ ?_
  refine n231_13 hP (by (try simp only [List.length_set]); rfl) (by rfl) _ ?_
  refine n231_14 hP (by (try simp only [List.length_set]); rfl) (by rfl) _ ?_
  refine n231_15 hP (by (try simp only [List.length_set]); rfl) (by rfl) _ ?_
  refine n231_16 hP (by (try simp only [List.length_set]); rfl) (by rfl) _ ?_
  refine n231_17 hP (by (try simp only [List.length_set]); rfl) (by rfl) _ ?_
  refine n231_18 hP (by (try simp only [List.length_set]); rfl) (by rfl) _ ?_
  refine n231_19 hP (by (try simp only [List.length_set]); rfl) (by rfl) _ ?_
  refine n231_20 hP (by (try simp only [List.length_set]); rfl) (by rfl) _ ?_
  refine n231_21 hP (by (try simp only [List.length_set]); rfl) (by rfl) _ ?_
  refine n231_22 hP (by (try simp only [List.length_set]); rfl) (by rfl) _ ?_
  refine n231_23 hP (by (try simp only [List.length_set]); rfl) (by rfl) _ ?_
  refine n231_24 hP (by (try simp only [List.length_set]); rfl) (by rfl) _ ?_
  refine n231_25 hP (by (try simp only [List.length_set]); rfl) (by rfl) _ ?_
  refine n231_26 hP (by (try simp only [List.length_set]); rfl) (by rfl) _ ?_
  refine n231_27 hP (by (try simp only [List.length_set]); rfl) (by rfl) _ ?_
  refine n231_28 hP (by (try simp only [List.length_set]); rfl) (by rfl) _ ?_
  refine n231_29 hP (by (try simp only [List.length_set]); rfl) (by rfl) _ ?_
  refine n231_30 hP (by (try simp only [List.length_set]); rfl) (by rfl) _ ?_
  refine n231_31 hP (by (try simp only [List.length_set]); rfl) (by rfl) _ ?_
  refine n231_32 hP (by (try simp only [List.length_set]); rfl) (by rfl) _ ?_
  refine n231_33 hP (by (try simp only [List.length_set]); rfl) (by rfl) _ ?_
  refine n231_34 hP (by (try simp only [List.length_set]); rfl) (by rfl) _ ?_
  refine n231_35 hP (by (try simp only [List.length_set]); rfl) (by rfl) _ ?_
  refine n231_36 hP (by (try simp only [List.length_set]); rfl) (by rfl) _ ?_
  refine n231_37 hP (by (try simp only [List.length_set]); rfl) (by rfl) _ ?_
  refine n231_38 hP (by (try simp only [List.length_set]); rfl) (by rfl) _ ?_
  refine n231_39 hP (by (try simp only [List.length_set]); rfl) (by rfl) _ ?_
  refine n231_40 hP (by (try simp only [List.length_set]); rfl) (by rfl) _ ?_
  refine n231_41 hP (by (try simp only [List.length_set]); rfl) (by rfl) _ ?_
  refine n231_42 hP (by (try simp only [List.length_set]); rfl) (by rfl) _ ?_
  refine n231_43 hP (by (try simp only [List.length_set]); rfl) (by rfl) _ ?_
  refine n231_44 hP (by (try simp only [List.length_set]); rfl) (by rfl) _ ?_
  refine n231_45 hP (by (try simp only [List.length_set]); rfl) (by rfl) _ ?_
  refine n231_46 hP (by (try simp only [List.length_set]); rfl) (by rfl) _ ?_
  refine n231_47 hP (by (try simp only [List.length_set]); rfl) (by rfl) _ ?_
  refine n231_48 hP (by (try simp only [List.length_set]); rfl) (by rfl) _ ?_
  refine n231_49 hP (by (try simp only [List.length_set]); rfl) (by rfl) _ ?_
  refine n231_50 hP (by (try simp only [List.length_set]); rfl) (by rfl) _ ?_
  refine n231_51 hP (by (try simp only [List.length_set]); rfl) (by rfl) _ ?_
  refine n231_52 hP (by (try simp only [List.length_set]); rfl) (by rfl) _ ?_
  refine n231_53 hP (by (try simp only [List.length_set]); rfl) (by rfl) _ ?_
  refine n231_54 hP (by (try simp only [List.length_set]); rfl) (by rfl) _ ?_
  refine n231_55 hP (by (try simp only [List.length_set]); rfl) (by rfl) _ ?_
  refine n231_56 hP (by (try simp only [List.length_set]); rfl) (by rfl) _ ?_
  refine n231_57 hP (by (try simp only [List.length_set]); rfl) (by rfl) _ ?_
  refine n231_58 hP (by (try simp only [List.length_set]); rfl) (by rfl) _ ?_
  refine n231_59 hP (by (try simp only [List.length_set]); rfl) (by rfl) _ ?_
  refine n231_60 hP (by (try simp only [List.length_set]); rfl) (by rfl) _ ?_
  refine n231_61 hP (by (try simp only [List.length_set]); rfl) (by rfl) _ ?_
  refine n231_62 hP (by (try simp only [List.length_set]); rfl) (by rfl) _ ?_
  refine n231_63 hP (by (try simp only [List.length_set]); rfl) (by rfl) _ ?_
  refine n231_64 hP (by (try simp only [List.length_set]); rfl) (by rfl) _ ?_
  refine n231_65 hP (by (try simp only [List.length_set]); rfl) (by rfl) _ ?_
  refine n231_66 hP (by (try simp only [List.length_set]); rfl) (by rfl) _ ?_
  refine n231_67 hP (by (try simp only [List.length_set]); rfl) (by rfl) _ ?_
  refine n231_68 hP (by (try simp only [List.length_set]); rfl) (by rfl) _ ?_
  refine n231_69 hP (by (try simp only [List.length_set]); rfl) (by rfl) _ ?_
  refine n231_70 hP (by (try simp only [List.length_set]); rfl) (by rfl) _ ?_
  refine n231_71 hP (by (try simp only [List.length_set]); rfl) (by rfl) _ ?_
  refine n231_72 hP (by (try simp only [List.length_set]); rfl) (by rfl) _ ?_
  refine n231_73 hP (by (try simp only [List.length_set]); rfl) (by rfl) _ ?_
  refine n231_74 hP (by (try simp only [List.length_set]); rfl) (by rfl) _ ?_
  refine n231_75 hP (by (try simp only [List.length_set]); rfl) (by rfl) _ ?_
  refine n231_76 hP (by (try simp only [List.length_set]); rfl) (by rfl) _ ?_
  refine n231_77 hP (by (try simp only [List.length_set]); rfl) (by rfl) _ ?_
  simp only [List.nil_append, List.cons_append]
  generalize (P ++ _ :: _ : mj_H) = E
  simp (disch := (first | omega | decide)) [S_b0_mod_7, S_b0_mod_6, S_b0_mod_5, S_b0_mod_3, S_b0_mod_2, S_b0_mod_1, S_b0_mod_0, S_b0_mod_4h, s231_776, mq_k0s, mq_k1s, mq_k2s, mq_k4s, mq_k5s, mq_k5n, mq_k5as, mq_k6s, mj_pu, mj_lo, mj_br, mj_hr, mj_hw, mq_gf, mq_len, mq_al, mq_pf, mq_ok, mj_re, mq_lkm, mq_lkn, mj_ldi, mj_ldl, mj_lda, mj_ii, mj_ll, mj_li, mj_i1, ms_1, ms_2, f1_n, f1_i, f1_r, f1_u, f1_l, f2_n, f2_i, f2_r, f2_u, f2_l, mj_tg, mj_c1, mj_c2, mj_ar, mj_aw, mq_cb, mq_oi, mj_rm, Value.category, -getElem?_pos, List.getElem?_cons_zero, decide_eq_true, decide_eq_false, nl_lt, nl_le, ln_lt, ln_le, nl_eq, ln_eq, nl_add, ln_add, nl_sub, ln_mul, nI_sub, nI_mul, nI_add, nI_lt_iff, nI_le_iff, nI_inj, nI_num, mq_ix, nI_1, nl_mul, nl_div]
end
end
/- f2.newhouse -/
section
set_option maxRecDepth 512
/-! Class: the house's constructor. -/
/- 4 PasskeyHouse$Terms.<init>()V -/
theorem s4_0 {d : Nat} {ls : mj_L} {st : List Value} {M : mj_H} : mj_Rn d mj_m4 0 ls st M = mq_k0 d mj_m4 1 ls M (mj_lda (mj_lk ls 0) st) := mj_R0 (r := (.aload_n 0, 1, 0, 0, 0)) rfl rfl
theorem s4_1 {d : Nat} {ls : mj_L} {st : List Value} {M : mj_H} : mj_Rn (d + 1) mj_m4 1 ls st M = mq_k0 (d + 1) mj_m4 4 ls M (mq_oi st) := mj_R5oe (r := (.invokespecial 3, 3, 6, 0, 4146)) rfl rfl rfl
theorem s4_4 {d : Nat} {ls : mj_L} {st : List Value} {M : mj_H} : mj_Rn d mj_m4 4 ls st M = mq_k0 d mj_m4 5 ls M (mj_lda (mj_lk ls 0) st) := mj_R0 (r := (.aload_n 0, 1, 0, 0, 0)) rfl rfl
theorem s4_5 {d : Nat} {ls : mj_L} {st : List Value} {M : mj_H} : mj_Rn d mj_m4 5 ls st M = mj_Rn d mj_m4 8 ls (.int 2048 :: st) M := mj_R0 (r := (.sipush 2048, 3, 0, 0, 0)) rfl rfl
theorem s4_8 {d : Nat} {ls : mj_L} {st : List Value} {M : mj_H} : mj_Rn d mj_m4 8 ls st M = mq_k4 d mj_m4 10 ls (mj_hw (.newarray .int, 2, 1000, 0, 4140) st M) := mj_R4 (r := (.newarray .int, 2, 1000, 0, 4140)) rfl rfl
theorem s4_10 {d : Nat} {ls : mj_L} {st : List Value} {M : mj_H} : mj_Rn d mj_m4 10 ls st M = mq_k4 d mj_m4 13 ls (mq_pf 9 0 2 st M) := (mj_R4 (r := (.putfield 9, 3, 9, 0, 8294)) rfl rfl).trans (congrArg (mq_k4 d mj_m4 13 ls) (mq_pf_eq rfl rfl))
theorem s4_13 {d : Nat} {ls : mj_L} {st : List Value} {M : mj_H} : mj_Rn d mj_m4 13 ls st M = mq_k0 d mj_m4 14 ls M (mj_lda (mj_lk ls 0) st) := mj_R0 (r := (.aload_n 0, 1, 0, 0, 0)) rfl rfl
theorem s4_14 {d : Nat} {ls : mj_L} {st : List Value} {M : mj_H} : mj_Rn d mj_m4 14 ls st M = mj_Rn d mj_m4 17 ls (.int 256 :: st) M := mj_R0 (r := (.sipush 256, 3, 0, 0, 0)) rfl rfl
theorem s4_17 {d : Nat} {ls : mj_L} {st : List Value} {M : mj_H} : mj_Rn d mj_m4 17 ls st M = mq_k4 d mj_m4 19 ls (mj_hw (.newarray .int, 2, 1000, 0, 4140) st M) := mj_R4 (r := (.newarray .int, 2, 1000, 0, 4140)) rfl rfl
theorem s4_19 {d : Nat} {ls : mj_L} {st : List Value} {M : mj_H} : mj_Rn d mj_m4 19 ls st M = mq_k4 d mj_m4 22 ls (mq_pf 9 1 2 st M) := (mj_R4 (r := (.putfield 15, 3, 9, 1, 8296)) rfl rfl).trans (congrArg (mq_k4 d mj_m4 22 ls) (mq_pf_eq rfl rfl))
theorem s4_22 {d : Nat} {ls : mj_L} {st : List Value} {M : mj_H} : mj_Rn d mj_m4 22 ls st M = mq_k0 d mj_m4 23 ls M (mj_lda (mj_lk ls 0) st) := mj_R0 (r := (.aload_n 0, 1, 0, 0, 0)) rfl rfl
theorem s4_23 {d : Nat} {ls : mj_L} {st : List Value} {M : mj_H} : mj_Rn d mj_m4 23 ls st M = mj_Rn d mj_m4 26 ls (.int 256 :: st) M := mj_R0 (r := (.sipush 256, 3, 0, 0, 0)) rfl rfl
theorem s4_26 {d : Nat} {ls : mj_L} {st : List Value} {M : mj_H} : mj_Rn d mj_m4 26 ls st M = mq_k4 d mj_m4 28 ls (mj_hw (.newarray .int, 2, 1000, 0, 4140) st M) := mj_R4 (r := (.newarray .int, 2, 1000, 0, 4140)) rfl rfl
theorem s4_28 {d : Nat} {ls : mj_L} {st : List Value} {M : mj_H} : mj_Rn d mj_m4 28 ls st M = mq_k4 d mj_m4 31 ls (mq_pf 9 2 2 st M) := (mj_R4 (r := (.putfield 18, 3, 9, 2, 8298)) rfl rfl).trans (congrArg (mq_k4 d mj_m4 31 ls) (mq_pf_eq rfl rfl))
theorem s4_31 {d : Nat} {ls : mj_L} {st : List Value} {M : mj_H} : mj_Rn d mj_m4 31 ls st M = mq_k0 d mj_m4 32 ls M (mj_lda (mj_lk ls 0) st) := mj_R0 (r := (.aload_n 0, 1, 0, 0, 0)) rfl rfl
theorem s4_32 {d : Nat} {ls : mj_L} {st : List Value} {M : mj_H} : mj_Rn d mj_m4 32 ls st M = mj_Rn d mj_m4 35 ls (.int 1024 :: st) M := mj_R0 (r := (.sipush 1024, 3, 0, 0, 0)) rfl rfl
theorem s4_35 {d : Nat} {ls : mj_L} {st : List Value} {M : mj_H} : mj_Rn d mj_m4 35 ls st M = mq_k4 d mj_m4 37 ls (mj_hw (.newarray .int, 2, 1000, 0, 4140) st M) := mj_R4 (r := (.newarray .int, 2, 1000, 0, 4140)) rfl rfl
theorem s4_37 {d : Nat} {ls : mj_L} {st : List Value} {M : mj_H} : mj_Rn d mj_m4 37 ls st M = mq_k4 d mj_m4 40 ls (mq_pf 9 3 2 st M) := (mj_R4 (r := (.putfield 21, 3, 9, 3, 8300)) rfl rfl).trans (congrArg (mq_k4 d mj_m4 40 ls) (mq_pf_eq rfl rfl))
theorem s4_40 {d : Nat} {ls : mj_L} {st : List Value} {M : mj_H} : mj_Rn d mj_m4 40 ls st M = mq_k0 d mj_m4 41 ls M (mj_lda (mj_lk ls 0) st) := mj_R0 (r := (.aload_n 0, 1, 0, 0, 0)) rfl rfl
theorem s4_41 {d : Nat} {ls : mj_L} {st : List Value} {M : mj_H} : mj_Rn d mj_m4 41 ls st M = mj_Rn d mj_m4 44 ls (.int 410 :: st) M := mj_R0 (r := (.sipush 410, 3, 0, 0, 0)) rfl rfl
theorem s4_44 {d : Nat} {ls : mj_L} {st : List Value} {M : mj_H} : mj_Rn d mj_m4 44 ls st M = mq_k4 d mj_m4 46 ls (mj_hw (.newarray .int, 2, 1000, 0, 4140) st M) := mj_R4 (r := (.newarray .int, 2, 1000, 0, 4140)) rfl rfl
theorem s4_46 {d : Nat} {ls : mj_L} {st : List Value} {M : mj_H} : mj_Rn d mj_m4 46 ls st M = mq_k4 d mj_m4 49 ls (mq_pf 9 4 2 st M) := (mj_R4 (r := (.putfield 24, 3, 9, 4, 8302)) rfl rfl).trans (congrArg (mq_k4 d mj_m4 49 ls) (mq_pf_eq rfl rfl))
theorem s4_49 {d : Nat} {ls : mj_L} {st : List Value} {M : mj_H} : mj_Rn d mj_m4 49 ls st M = mq_k0 d mj_m4 50 ls M (mj_lda (mj_lk ls 0) st) := mj_R0 (r := (.aload_n 0, 1, 0, 0, 0)) rfl rfl
theorem s4_50 {d : Nat} {ls : mj_L} {st : List Value} {M : mj_H} : mj_Rn d mj_m4 50 ls st M = mj_Rn d mj_m4 51 ls (.int 0 :: st) M := mj_R0 (r := (.iconst 0, 1, 0, 0, 0)) rfl rfl
theorem s4_51 {d : Nat} {ls : mj_L} {st : List Value} {M : mj_H} : mj_Rn d mj_m4 51 ls st M = mq_k4 d mj_m4 54 ls (mq_pf 9 5 0 st M) := (mj_R4 (r := (.putfield 27, 3, 9, 5, 8304)) rfl rfl).trans (congrArg (mq_k4 d mj_m4 54 ls) (mq_pf_eq rfl rfl))
theorem s4_54 {d : Nat} {ls : mj_L} {st : List Value} {M : mj_H} : mj_Rn d mj_m4 54 ls st M = mq_k0 d mj_m4 55 ls M (mj_lda (mj_lk ls 0) st) := mj_R0 (r := (.aload_n 0, 1, 0, 0, 0)) rfl rfl
theorem s4_55 {d : Nat} {ls : mj_L} {st : List Value} {M : mj_H} : mj_Rn d mj_m4 55 ls st M = mj_Rn d mj_m4 56 ls (.int 0 :: st) M := mj_R0 (r := (.iconst 0, 1, 0, 0, 0)) rfl rfl
theorem s4_56 {d : Nat} {ls : mj_L} {st : List Value} {M : mj_H} : mj_Rn d mj_m4 56 ls st M = mq_k4 d mj_m4 59 ls (mq_pf 9 6 0 st M) := (mj_R4 (r := (.putfield 31, 3, 9, 6, 8306)) rfl rfl).trans (congrArg (mq_k4 d mj_m4 59 ls) (mq_pf_eq rfl rfl))
theorem s4_59 {d : Nat} {ls : mj_L} {st : List Value} {M : mj_H} : mj_Rn d mj_m4 59 ls st M = mq_k0 d mj_m4 60 ls M (mj_lda (mj_lk ls 0) st) := mj_R0 (r := (.aload_n 0, 1, 0, 0, 0)) rfl rfl
theorem s4_60 {d : Nat} {ls : mj_L} {st : List Value} {M : mj_H} : mj_Rn d mj_m4 60 ls st M = mj_Rn d mj_m4 61 ls (.int 0 :: st) M := mj_R0 (r := (.iconst 0, 1, 0, 0, 0)) rfl rfl
theorem s4_61 {d : Nat} {ls : mj_L} {st : List Value} {M : mj_H} : mj_Rn d mj_m4 61 ls st M = mq_k4 d mj_m4 64 ls (mq_pf 9 7 0 st M) := (mj_R4 (r := (.putfield 34, 3, 9, 7, 8308)) rfl rfl).trans (congrArg (mq_k4 d mj_m4 64 ls) (mq_pf_eq rfl rfl))
theorem s4_64 {d : Nat} {ls : mj_L} {st : List Value} {M : mj_H} : mj_Rn d mj_m4 64 ls st M = mq_k0 d mj_m4 65 ls M (mj_lda (mj_lk ls 0) st) := mj_R0 (r := (.aload_n 0, 1, 0, 0, 0)) rfl rfl
theorem s4_65 {d : Nat} {ls : mj_L} {st : List Value} {M : mj_H} : mj_Rn d mj_m4 65 ls st M = mj_Rn d mj_m4 66 ls (.int 0 :: st) M := mj_R0 (r := (.iconst 0, 1, 0, 0, 0)) rfl rfl
theorem s4_66 {d : Nat} {ls : mj_L} {st : List Value} {M : mj_H} : mj_Rn d mj_m4 66 ls st M = mq_k4 d mj_m4 69 ls (mq_pf 9 8 0 st M) := (mj_R4 (r := (.putfield 37, 3, 9, 8, 8310)) rfl rfl).trans (congrArg (mq_k4 d mj_m4 69 ls) (mq_pf_eq rfl rfl))
theorem s4_69 {d : Nat} {ls : mj_L} {st : List Value} {M : mj_H} : mj_Rn d mj_m4 69 ls st M = mq_k6 M (mj_re none (.return_) st) := mj_R6 (r := (.return_, 1, 0, 0, 0)) rfl rfl
/- 5 PasskeyHouse$Items.<init>()V -/
theorem s5_0 {d : Nat} {ls : mj_L} {st : List Value} {M : mj_H} : mj_Rn d mj_m5 0 ls st M = mq_k0 d mj_m5 1 ls M (mj_lda (mj_lk ls 0) st) := mj_R0 (r := (.aload_n 0, 1, 0, 0, 0)) rfl rfl
theorem s5_1 {d : Nat} {ls : mj_L} {st : List Value} {M : mj_H} : mj_Rn (d + 1) mj_m5 1 ls st M = mq_k0 (d + 1) mj_m5 4 ls M (mq_oi st) := mj_R5oe (r := (.invokespecial 3, 3, 6, 0, 4180)) rfl rfl rfl
theorem s5_4 {d : Nat} {ls : mj_L} {st : List Value} {M : mj_H} : mj_Rn d mj_m5 4 ls st M = mq_k0 d mj_m5 5 ls M (mj_lda (mj_lk ls 0) st) := mj_R0 (r := (.aload_n 0, 1, 0, 0, 0)) rfl rfl
theorem s5_5 {d : Nat} {ls : mj_L} {st : List Value} {M : mj_H} : mj_Rn d mj_m5 5 ls st M = mj_Rn d mj_m5 8 ls (.int 400 :: st) M := mj_R0 (r := (.sipush 400, 3, 0, 0, 0)) rfl rfl
theorem s5_8 {d : Nat} {ls : mj_L} {st : List Value} {M : mj_H} : mj_Rn d mj_m5 8 ls st M = mq_k4 d mj_m5 10 ls (mj_hw (.newarray .int, 2, 1000, 0, 4140) st M) := mj_R4 (r := (.newarray .int, 2, 1000, 0, 4140)) rfl rfl
theorem s5_10 {d : Nat} {ls : mj_L} {st : List Value} {M : mj_H} : mj_Rn d mj_m5 10 ls st M = mq_k4 d mj_m5 13 ls (mq_pf 4 0 2 st M) := (mj_R4 (r := (.putfield 9, 3, 4, 0, 8366)) rfl rfl).trans (congrArg (mq_k4 d mj_m5 13 ls) (mq_pf_eq rfl rfl))
theorem s5_13 {d : Nat} {ls : mj_L} {st : List Value} {M : mj_H} : mj_Rn d mj_m5 13 ls st M = mq_k0 d mj_m5 14 ls M (mj_lda (mj_lk ls 0) st) := mj_R0 (r := (.aload_n 0, 1, 0, 0, 0)) rfl rfl
theorem s5_14 {d : Nat} {ls : mj_L} {st : List Value} {M : mj_H} : mj_Rn d mj_m5 14 ls st M = mj_Rn d mj_m5 17 ls (.int 400 :: st) M := mj_R0 (r := (.sipush 400, 3, 0, 0, 0)) rfl rfl
theorem s5_17 {d : Nat} {ls : mj_L} {st : List Value} {M : mj_H} : mj_Rn d mj_m5 17 ls st M = mq_k4 d mj_m5 19 ls (mj_hw (.newarray .int, 2, 1000, 0, 4140) st M) := mj_R4 (r := (.newarray .int, 2, 1000, 0, 4140)) rfl rfl
theorem s5_19 {d : Nat} {ls : mj_L} {st : List Value} {M : mj_H} : mj_Rn d mj_m5 19 ls st M = mq_k4 d mj_m5 22 ls (mq_pf 4 1 2 st M) := (mj_R4 (r := (.putfield 15, 3, 4, 1, 8368)) rfl rfl).trans (congrArg (mq_k4 d mj_m5 22 ls) (mq_pf_eq rfl rfl))
theorem s5_22 {d : Nat} {ls : mj_L} {st : List Value} {M : mj_H} : mj_Rn d mj_m5 22 ls st M = mq_k0 d mj_m5 23 ls M (mj_lda (mj_lk ls 0) st) := mj_R0 (r := (.aload_n 0, 1, 0, 0, 0)) rfl rfl
theorem s5_23 {d : Nat} {ls : mj_L} {st : List Value} {M : mj_H} : mj_Rn d mj_m5 23 ls st M = mj_Rn d mj_m5 26 ls (.int 400 :: st) M := mj_R0 (r := (.sipush 400, 3, 0, 0, 0)) rfl rfl
theorem s5_26 {d : Nat} {ls : mj_L} {st : List Value} {M : mj_H} : mj_Rn d mj_m5 26 ls st M = mq_k4 d mj_m5 28 ls (mj_hw (.newarray .int, 2, 1000, 0, 4140) st M) := mj_R4 (r := (.newarray .int, 2, 1000, 0, 4140)) rfl rfl
theorem s5_28 {d : Nat} {ls : mj_L} {st : List Value} {M : mj_H} : mj_Rn d mj_m5 28 ls st M = mq_k4 d mj_m5 31 ls (mq_pf 4 2 2 st M) := (mj_R4 (r := (.putfield 18, 3, 4, 2, 8370)) rfl rfl).trans (congrArg (mq_k4 d mj_m5 31 ls) (mq_pf_eq rfl rfl))
theorem s5_31 {d : Nat} {ls : mj_L} {st : List Value} {M : mj_H} : mj_Rn d mj_m5 31 ls st M = mq_k0 d mj_m5 32 ls M (mj_lda (mj_lk ls 0) st) := mj_R0 (r := (.aload_n 0, 1, 0, 0, 0)) rfl rfl
theorem s5_32 {d : Nat} {ls : mj_L} {st : List Value} {M : mj_H} : mj_Rn d mj_m5 32 ls st M = mj_Rn d mj_m5 35 ls (.int 400 :: st) M := mj_R0 (r := (.sipush 400, 3, 0, 0, 0)) rfl rfl
theorem s5_35 {d : Nat} {ls : mj_L} {st : List Value} {M : mj_H} : mj_Rn d mj_m5 35 ls st M = mq_k4 d mj_m5 37 ls (mj_hw (.newarray .int, 2, 1000, 0, 4140) st M) := mj_R4 (r := (.newarray .int, 2, 1000, 0, 4140)) rfl rfl
theorem s5_37 {d : Nat} {ls : mj_L} {st : List Value} {M : mj_H} : mj_Rn d mj_m5 37 ls st M = mq_k4 d mj_m5 40 ls (mq_pf 4 3 2 st M) := (mj_R4 (r := (.putfield 21, 3, 4, 3, 8372)) rfl rfl).trans (congrArg (mq_k4 d mj_m5 40 ls) (mq_pf_eq rfl rfl))
theorem s5_40 {d : Nat} {ls : mj_L} {st : List Value} {M : mj_H} : mj_Rn d mj_m5 40 ls st M = mq_k0 d mj_m5 41 ls M (mj_lda (mj_lk ls 0) st) := mj_R0 (r := (.aload_n 0, 1, 0, 0, 0)) rfl rfl
theorem s5_41 {d : Nat} {ls : mj_L} {st : List Value} {M : mj_H} : mj_Rn d mj_m5 41 ls st M = mj_Rn d mj_m5 44 ls (.int 400 :: st) M := mj_R0 (r := (.sipush 400, 3, 0, 0, 0)) rfl rfl
theorem s5_44 {d : Nat} {ls : mj_L} {st : List Value} {M : mj_H} : mj_Rn d mj_m5 44 ls st M = mq_k4 d mj_m5 46 ls (mj_hw (.newarray .int, 2, 1000, 0, 4140) st M) := mj_R4 (r := (.newarray .int, 2, 1000, 0, 4140)) rfl rfl
theorem s5_46 {d : Nat} {ls : mj_L} {st : List Value} {M : mj_H} : mj_Rn d mj_m5 46 ls st M = mq_k4 d mj_m5 49 ls (mq_pf 4 4 2 st M) := (mj_R4 (r := (.putfield 24, 3, 4, 4, 8374)) rfl rfl).trans (congrArg (mq_k4 d mj_m5 49 ls) (mq_pf_eq rfl rfl))
theorem s5_49 {d : Nat} {ls : mj_L} {st : List Value} {M : mj_H} : mj_Rn d mj_m5 49 ls st M = mq_k0 d mj_m5 50 ls M (mj_lda (mj_lk ls 0) st) := mj_R0 (r := (.aload_n 0, 1, 0, 0, 0)) rfl rfl
theorem s5_50 {d : Nat} {ls : mj_L} {st : List Value} {M : mj_H} : mj_Rn d mj_m5 50 ls st M = mq_k4 d mj_m5 53 ls (mj_hw (.new 27, 3, 1, 0, 4181) st M) := mj_R4 (r := (.new 27, 3, 1, 0, 4181)) rfl rfl
theorem s5_53 {d : Nat} {ls : mj_L} {st : List Value} {M : mj_H} : mj_Rn d mj_m5 53 ls st M = mq_k0 d mj_m5 54 ls M (mj_pu .dup ls st) := mj_R0 (r := (.dup, 1, 0, 0, 0)) rfl rfl
theorem s5_54 {d : Nat} {ls : mj_L} {st : List Value} {M : mj_H} : mj_Rn d mj_m5 54 ls st M = mj_Rn d mj_m5 55 ls (.int 0 :: st) M := mj_R0 (r := (.iconst 0, 1, 0, 0, 0)) rfl rfl
theorem s5_55 {d : Nat} {ls : mj_L} {st : List Value} {M : mj_H} : mj_Rn (d + 1) mj_m5 55 ls st M = mq_k5a (d + 1) mj_m5 58 ls M 2 (mq_cb 4 1 1 st M) := mj_R5e (r := (.invokespecial 29, 3, 4, 2, 4182)) (z := mj_m2) rfl rfl (by decide) (by decide) rfl
theorem s5_58 {d : Nat} {ls : mj_L} {st : List Value} {M : mj_H} : mj_Rn d mj_m5 58 ls st M = mq_k4 d mj_m5 61 ls (mq_pf 4 5 2 st M) := (mj_R4 (r := (.putfield 32, 3, 4, 5, 8376)) rfl rfl).trans (congrArg (mq_k4 d mj_m5 61 ls) (mq_pf_eq rfl rfl))
theorem s5_61 {d : Nat} {ls : mj_L} {st : List Value} {M : mj_H} : mj_Rn d mj_m5 61 ls st M = mq_k0 d mj_m5 62 ls M (mj_lda (mj_lk ls 0) st) := mj_R0 (r := (.aload_n 0, 1, 0, 0, 0)) rfl rfl
theorem s5_62 {d : Nat} {ls : mj_L} {st : List Value} {M : mj_H} : mj_Rn d mj_m5 62 ls st M = mj_Rn d mj_m5 63 ls (.int 0 :: st) M := mj_R0 (r := (.iconst 0, 1, 0, 0, 0)) rfl rfl
theorem s5_63 {d : Nat} {ls : mj_L} {st : List Value} {M : mj_H} : mj_Rn d mj_m5 63 ls st M = mq_k4 d mj_m5 66 ls (mq_pf 4 6 0 st M) := (mj_R4 (r := (.putfield 36, 3, 4, 6, 8380)) rfl rfl).trans (congrArg (mq_k4 d mj_m5 66 ls) (mq_pf_eq rfl rfl))
theorem s5_66 {d : Nat} {ls : mj_L} {st : List Value} {M : mj_H} : mj_Rn d mj_m5 66 ls st M = mq_k0 d mj_m5 67 ls M (mj_lda (mj_lk ls 0) st) := mj_R0 (r := (.aload_n 0, 1, 0, 0, 0)) rfl rfl
theorem s5_67 {d : Nat} {ls : mj_L} {st : List Value} {M : mj_H} : mj_Rn d mj_m5 67 ls st M = mj_Rn d mj_m5 68 ls (.int 0 :: st) M := mj_R0 (r := (.iconst 0, 1, 0, 0, 0)) rfl rfl
theorem s5_68 {d : Nat} {ls : mj_L} {st : List Value} {M : mj_H} : mj_Rn d mj_m5 68 ls st M = mq_k4 d mj_m5 71 ls (mq_pf 4 7 0 st M) := (mj_R4 (r := (.putfield 40, 3, 4, 7, 8382)) rfl rfl).trans (congrArg (mq_k4 d mj_m5 71 ls) (mq_pf_eq rfl rfl))
theorem s5_71 {d : Nat} {ls : mj_L} {st : List Value} {M : mj_H} : mj_Rn d mj_m5 71 ls st M = mq_k6 M (mj_re none (.return_) st) := mj_R6 (r := (.return_, 1, 0, 0, 0)) rfl rfl
/- 6 PasskeyHouse$Hand.<init>()V -/
theorem s6_0 {d : Nat} {ls : mj_L} {st : List Value} {M : mj_H} : mj_Rn d mj_m6 0 ls st M = mq_k0 d mj_m6 1 ls M (mj_lda (mj_lk ls 0) st) := mj_R0 (r := (.aload_n 0, 1, 0, 0, 0)) rfl rfl
theorem s6_1 {d : Nat} {ls : mj_L} {st : List Value} {M : mj_H} : mj_Rn (d + 1) mj_m6 1 ls st M = mq_k0 (d + 1) mj_m6 4 ls M (mq_oi st) := mj_R5oe (r := (.invokespecial 3, 3, 6, 0, 4217)) rfl rfl rfl
theorem s6_4 {d : Nat} {ls : mj_L} {st : List Value} {M : mj_H} : mj_Rn d mj_m6 4 ls st M = mq_k0 d mj_m6 5 ls M (mj_lda (mj_lk ls 0) st) := mj_R0 (r := (.aload_n 0, 1, 0, 0, 0)) rfl rfl
theorem s6_5 {d : Nat} {ls : mj_L} {st : List Value} {M : mj_H} : mj_Rn d mj_m6 5 ls st M = mq_k4 d mj_m6 8 ls (mj_hw (.new 9, 3, 1, 0, 4218) st M) := mj_R4 (r := (.new 9, 3, 1, 0, 4218)) rfl rfl
theorem s6_8 {d : Nat} {ls : mj_L} {st : List Value} {M : mj_H} : mj_Rn d mj_m6 8 ls st M = mq_k0 d mj_m6 9 ls M (mj_pu .dup ls st) := mj_R0 (r := (.dup, 1, 0, 0, 0)) rfl rfl
theorem s6_9 {d : Nat} {ls : mj_L} {st : List Value} {M : mj_H} : mj_Rn d mj_m6 9 ls st M = mj_Rn d mj_m6 11 ls (.int 12 :: st) M := mj_R0 (r := (.bipush 12, 2, 0, 0, 0)) rfl rfl
theorem s6_11 {d : Nat} {ls : mj_L} {st : List Value} {M : mj_H} : mj_Rn (d + 1) mj_m6 11 ls st M = mq_k5a (d + 1) mj_m6 14 ls M 2 (mq_cb 4 1 1 st M) := mj_R5e (r := (.invokespecial 11, 3, 4, 2, 4219)) (z := mj_m2) rfl rfl (by decide) (by decide) rfl
theorem s6_14 {d : Nat} {ls : mj_L} {st : List Value} {M : mj_H} : mj_Rn d mj_m6 14 ls st M = mq_k4 d mj_m6 17 ls (mq_pf 3 0 2 st M) := (mj_R4 (r := (.putfield 14, 3, 3, 0, 8440)) rfl rfl).trans (congrArg (mq_k4 d mj_m6 17 ls) (mq_pf_eq rfl rfl))
theorem s6_17 {d : Nat} {ls : mj_L} {st : List Value} {M : mj_H} : mj_Rn d mj_m6 17 ls st M = mq_k0 d mj_m6 18 ls M (mj_lda (mj_lk ls 0) st) := mj_R0 (r := (.aload_n 0, 1, 0, 0, 0)) rfl rfl
theorem s6_18 {d : Nat} {ls : mj_L} {st : List Value} {M : mj_H} : mj_Rn d mj_m6 18 ls st M = mq_k4 d mj_m6 21 ls (mj_hw (.new 9, 3, 1, 0, 4218) st M) := mj_R4 (r := (.new 9, 3, 1, 0, 4218)) rfl rfl
theorem s6_21 {d : Nat} {ls : mj_L} {st : List Value} {M : mj_H} : mj_Rn d mj_m6 21 ls st M = mq_k0 d mj_m6 22 ls M (mj_pu .dup ls st) := mj_R0 (r := (.dup, 1, 0, 0, 0)) rfl rfl
theorem s6_22 {d : Nat} {ls : mj_L} {st : List Value} {M : mj_H} : mj_Rn d mj_m6 22 ls st M = mj_Rn d mj_m6 24 ls (.int 40 :: st) M := mj_R0 (r := (.bipush 40, 2, 0, 0, 0)) rfl rfl
theorem s6_24 {d : Nat} {ls : mj_L} {st : List Value} {M : mj_H} : mj_Rn (d + 1) mj_m6 24 ls st M = mq_k5a (d + 1) mj_m6 27 ls M 2 (mq_cb 4 1 1 st M) := mj_R5e (r := (.invokespecial 11, 3, 4, 2, 4219)) (z := mj_m2) rfl rfl (by decide) (by decide) rfl
theorem s6_27 {d : Nat} {ls : mj_L} {st : List Value} {M : mj_H} : mj_Rn d mj_m6 27 ls st M = mq_k4 d mj_m6 30 ls (mq_pf 3 1 2 st M) := (mj_R4 (r := (.putfield 20, 3, 3, 1, 8444)) rfl rfl).trans (congrArg (mq_k4 d mj_m6 30 ls) (mq_pf_eq rfl rfl))
theorem s6_30 {d : Nat} {ls : mj_L} {st : List Value} {M : mj_H} : mj_Rn d mj_m6 30 ls st M = mq_k6 M (mj_re none (.return_) st) := mj_R6 (r := (.return_, 1, 0, 0, 0)) rfl rfl
/- 0 PasskeyHouse.<init>()V -/
theorem s0_0 {d : Nat} {ls : mj_L} {st : List Value} {M : mj_H} : mj_Rn d mj_m0 0 ls st M = mq_k0 d mj_m0 1 ls M (mj_lda (mj_lk ls 0) st) := mj_R0 (r := (.aload_n 0, 1, 0, 0, 0)) rfl rfl
theorem s0_1 {d : Nat} {ls : mj_L} {st : List Value} {M : mj_H} : mj_Rn (d + 1) mj_m0 1 ls st M = mq_k0 (d + 1) mj_m0 4 ls M (mq_oi st) := mj_R5oe (r := (.invokespecial 1, 3, 6, 0, 4121)) rfl rfl rfl
theorem s0_4 {d : Nat} {ls : mj_L} {st : List Value} {M : mj_H} : mj_Rn d mj_m0 4 ls st M = mq_k0 d mj_m0 5 ls M (mj_lda (mj_lk ls 0) st) := mj_R0 (r := (.aload_n 0, 1, 0, 0, 0)) rfl rfl
theorem s0_5 {d : Nat} {ls : mj_L} {st : List Value} {M : mj_H} : mj_Rn d mj_m0 5 ls st M = mq_k4 d mj_m0 8 ls (mj_hw (.new 7, 3, 1, 0, 4124) st M) := mj_R4 (r := (.new 7, 3, 1, 0, 4124)) rfl rfl
theorem s0_8 {d : Nat} {ls : mj_L} {st : List Value} {M : mj_H} : mj_Rn d mj_m0 8 ls st M = mq_k0 d mj_m0 9 ls M (mj_pu .dup ls st) := mj_R0 (r := (.dup, 1, 0, 0, 0)) rfl rfl
theorem s0_9 {d : Nat} {ls : mj_L} {st : List Value} {M : mj_H} : mj_Rn d mj_m0 9 ls st M = mj_Rn d mj_m0 12 ls (.int 400 :: st) M := mj_R0 (r := (.sipush 400, 3, 0, 0, 0)) rfl rfl
theorem s0_12 {d : Nat} {ls : mj_L} {st : List Value} {M : mj_H} : mj_Rn (d + 1) mj_m0 12 ls st M = mq_k5a (d + 1) mj_m0 15 ls M 2 (mq_cb 4 1 1 st M) := mj_R5e (r := (.invokespecial 11, 3, 4, 2, 4126)) (z := mj_m2) rfl rfl (by decide) (by decide) rfl
theorem s0_15 {d : Nat} {ls : mj_L} {st : List Value} {M : mj_H} : mj_Rn d mj_m0 15 ls st M = mq_k4 d mj_m0 18 ls (mq_pf 10 0 2 st M) := (mj_R4 (r := (.putfield 14, 3, 10, 0, 8486)) rfl rfl).trans (congrArg (mq_k4 d mj_m0 18 ls) (mq_pf_eq rfl rfl))
theorem s0_18 {d : Nat} {ls : mj_L} {st : List Value} {M : mj_H} : mj_Rn d mj_m0 18 ls st M = mq_k0 d mj_m0 19 ls M (mj_lda (mj_lk ls 0) st) := mj_R0 (r := (.aload_n 0, 1, 0, 0, 0)) rfl rfl
theorem s0_19 {d : Nat} {ls : mj_L} {st : List Value} {M : mj_H} : mj_Rn d mj_m0 19 ls st M = mq_k4 d mj_m0 22 ls (mj_hw (.new 7, 3, 1, 0, 4124) st M) := mj_R4 (r := (.new 7, 3, 1, 0, 4124)) rfl rfl
theorem s0_22 {d : Nat} {ls : mj_L} {st : List Value} {M : mj_H} : mj_Rn d mj_m0 22 ls st M = mq_k0 d mj_m0 23 ls M (mj_pu .dup ls st) := mj_R0 (r := (.dup, 1, 0, 0, 0)) rfl rfl
theorem s0_23 {d : Nat} {ls : mj_L} {st : List Value} {M : mj_H} : mj_Rn d mj_m0 23 ls st M = mj_Rn d mj_m0 26 ls (.int 400 :: st) M := mj_R0 (r := (.sipush 400, 3, 0, 0, 0)) rfl rfl
theorem s0_26 {d : Nat} {ls : mj_L} {st : List Value} {M : mj_H} : mj_Rn (d + 1) mj_m0 26 ls st M = mq_k5a (d + 1) mj_m0 29 ls M 2 (mq_cb 4 1 1 st M) := mj_R5e (r := (.invokespecial 11, 3, 4, 2, 4126)) (z := mj_m2) rfl rfl (by decide) (by decide) rfl
theorem s0_29 {d : Nat} {ls : mj_L} {st : List Value} {M : mj_H} : mj_Rn d mj_m0 29 ls st M = mq_k4 d mj_m0 32 ls (mq_pf 10 1 2 st M) := (mj_R4 (r := (.putfield 18, 3, 10, 1, 8488)) rfl rfl).trans (congrArg (mq_k4 d mj_m0 32 ls) (mq_pf_eq rfl rfl))
theorem s0_32 {d : Nat} {ls : mj_L} {st : List Value} {M : mj_H} : mj_Rn d mj_m0 32 ls st M = mq_k0 d mj_m0 33 ls M (mj_lda (mj_lk ls 0) st) := mj_R0 (r := (.aload_n 0, 1, 0, 0, 0)) rfl rfl
theorem s0_33 {d : Nat} {ls : mj_L} {st : List Value} {M : mj_H} : mj_Rn d mj_m0 33 ls st M = mq_k4 d mj_m0 36 ls (mj_hw (.new 21, 3, 9, 0, 4141) st M) := mj_R4 (r := (.new 21, 3, 9, 0, 4141)) rfl rfl
theorem s0_36 {d : Nat} {ls : mj_L} {st : List Value} {M : mj_H} : mj_Rn d mj_m0 36 ls st M = mq_k0 d mj_m0 37 ls M (mj_pu .dup ls st) := mj_R0 (r := (.dup, 1, 0, 0, 0)) rfl rfl
theorem s0_37 {d : Nat} {ls : mj_L} {st : List Value} {M : mj_H} : mj_Rn (d + 1) mj_m0 37 ls st M = mq_k5a (d + 1) mj_m0 40 ls M 4 (mq_cb 4 0 9 st M) := mj_R5e (r := (.invokespecial 23, 3, 4, 4, 4143)) (z := mj_m4) rfl rfl (by decide) (by decide) rfl
theorem s0_40 {d : Nat} {ls : mj_L} {st : List Value} {M : mj_H} : mj_Rn d mj_m0 40 ls st M = mq_k4 d mj_m0 43 ls (mq_pf 10 2 2 st M) := (mj_R4 (r := (.putfield 24, 3, 10, 2, 8490)) rfl rfl).trans (congrArg (mq_k4 d mj_m0 43 ls) (mq_pf_eq rfl rfl))
theorem s0_43 {d : Nat} {ls : mj_L} {st : List Value} {M : mj_H} : mj_Rn d mj_m0 43 ls st M = mq_k0 d mj_m0 44 ls M (mj_lda (mj_lk ls 0) st) := mj_R0 (r := (.aload_n 0, 1, 0, 0, 0)) rfl rfl
theorem s0_44 {d : Nat} {ls : mj_L} {st : List Value} {M : mj_H} : mj_Rn d mj_m0 44 ls st M = mq_k4 d mj_m0 47 ls (mj_hw (.new 28, 3, 4, 0, 4175) st M) := mj_R4 (r := (.new 28, 3, 4, 0, 4175)) rfl rfl
theorem s0_47 {d : Nat} {ls : mj_L} {st : List Value} {M : mj_H} : mj_Rn d mj_m0 47 ls st M = mq_k0 d mj_m0 48 ls M (mj_pu .dup ls st) := mj_R0 (r := (.dup, 1, 0, 0, 0)) rfl rfl
theorem s0_48 {d : Nat} {ls : mj_L} {st : List Value} {M : mj_H} : mj_Rn (d + 1) mj_m0 48 ls st M = mq_k5a (d + 1) mj_m0 51 ls M 5 (mq_cb 4 0 4 st M) := mj_R5e (r := (.invokespecial 30, 3, 4, 5, 4177)) (z := mj_m5) rfl rfl (by decide) (by decide) rfl
theorem s0_51 {d : Nat} {ls : mj_L} {st : List Value} {M : mj_H} : mj_Rn d mj_m0 51 ls st M = mq_k4 d mj_m0 54 ls (mq_pf 10 3 2 st M) := (mj_R4 (r := (.putfield 31, 3, 10, 3, 8492)) rfl rfl).trans (congrArg (mq_k4 d mj_m0 54 ls) (mq_pf_eq rfl rfl))
theorem s0_54 {d : Nat} {ls : mj_L} {st : List Value} {M : mj_H} : mj_Rn d mj_m0 54 ls st M = mq_k0 d mj_m0 55 ls M (mj_lda (mj_lk ls 0) st) := mj_R0 (r := (.aload_n 0, 1, 0, 0, 0)) rfl rfl
theorem s0_55 {d : Nat} {ls : mj_L} {st : List Value} {M : mj_H} : mj_Rn d mj_m0 55 ls st M = mj_Rn d mj_m0 56 ls (.int 3 :: st) M := mj_R0 (r := (.iconst 3, 1, 0, 0, 0)) rfl rfl
theorem s0_56 {d : Nat} {ls : mj_L} {st : List Value} {M : mj_H} : mj_Rn d mj_m0 56 ls st M = mq_k4 d mj_m0 59 ls (mj_hw (.anewarray 35, 3, 1004, 0, 4209) st M) := mj_R4 (r := (.anewarray 35, 3, 1004, 0, 4209)) rfl rfl
theorem s0_59 {d : Nat} {ls : mj_L} {st : List Value} {M : mj_H} : mj_Rn d mj_m0 59 ls st M = mq_k4 d mj_m0 62 ls (mq_pf 10 4 2 st M) := (mj_R4 (r := (.putfield 37, 3, 10, 4, 8494)) rfl rfl).trans (congrArg (mq_k4 d mj_m0 62 ls) (mq_pf_eq rfl rfl))
theorem s0_62 {d : Nat} {ls : mj_L} {st : List Value} {M : mj_H} : mj_Rn d mj_m0 62 ls st M = mq_k0 d mj_m0 63 ls M (mj_lda (mj_lk ls 0) st) := mj_R0 (r := (.aload_n 0, 1, 0, 0, 0)) rfl rfl
theorem s0_63 {d : Nat} {ls : mj_L} {st : List Value} {M : mj_H} : mj_Rn d mj_m0 63 ls st M = mj_Rn d mj_m0 64 ls (.int 4 :: st) M := mj_R0 (r := (.iconst 4, 1, 0, 0, 0)) rfl rfl
theorem s0_64 {d : Nat} {ls : mj_L} {st : List Value} {M : mj_H} : mj_Rn d mj_m0 64 ls st M = mq_k4 d mj_m0 67 ls (mj_hw (.anewarray 41, 3, 1005, 0, 4211) st M) := mj_R4 (r := (.anewarray 41, 3, 1005, 0, 4211)) rfl rfl
theorem s0_67 {d : Nat} {ls : mj_L} {st : List Value} {M : mj_H} : mj_Rn d mj_m0 67 ls st M = mq_k4 d mj_m0 70 ls (mq_pf 10 5 2 st M) := (mj_R4 (r := (.putfield 43, 3, 10, 5, 8496)) rfl rfl).trans (congrArg (mq_k4 d mj_m0 70 ls) (mq_pf_eq rfl rfl))
theorem s0_70 {d : Nat} {ls : mj_L} {st : List Value} {M : mj_H} : mj_Rn d mj_m0 70 ls st M = mj_Rn d mj_m0 71 ls (.int 0 :: st) M := mj_R0 (r := (.iconst 0, 1, 0, 0, 0)) rfl rfl
theorem s0_71 {d : Nat} {ls : mj_L} {st : List Value} {M : mj_H} : mj_Rn d mj_m0 71 ls st M = mq_k1 d mj_m0 72 M (mj_lo 2 (.istore 1) ls st) := (mj_R1 (r := (.istore_n 1, 1, 0, 0, 0)) rfl rfl).trans (congrArg (mq_k1 d mj_m0 72 M) (mq_sti (k := 1)))
theorem s0_72 {d : Nat} {ls : mj_L} {st : List Value} {M : mj_H} : mj_Rn d mj_m0 72 ls st M = mq_k0 d mj_m0 73 ls M (mj_ldi (mj_lk ls 1) st) := mj_R0 (r := (.iload_n 1, 1, 0, 0, 0)) rfl rfl
theorem s0_73 {d : Nat} {ls : mj_L} {st : List Value} {M : mj_H} : mj_Rn d mj_m0 73 ls st M = mq_k0 d mj_m0 74 ls M (mj_lda (mj_lk ls 0) st) := mj_R0 (r := (.aload_n 0, 1, 0, 0, 0)) rfl rfl
theorem s0_74 {d : Nat} {ls : mj_L} {st : List Value} {M : mj_H} : mj_Rn d mj_m0 74 ls st M = mq_k0 d mj_m0 77 ls M (mq_gf 10 5 st M) := (mj_R3 (r := (.getfield 43, 3, 10, 5, 8496)) rfl rfl).trans (congrArg (mq_k0 d mj_m0 77 ls M) mq_gf_eq)
theorem s0_77 {d : Nat} {ls : mj_L} {st : List Value} {M : mj_H} : mj_Rn d mj_m0 77 ls st M = mq_k0 d mj_m0 78 ls M (mq_len st M) := (mj_R3 (r := (.arraylength, 1, 0, 0, 0)) rfl rfl).trans (congrArg (mq_k0 d mj_m0 78 ls M) mq_len_eq)
theorem s0_78 {d : Nat} {ls : mj_L} {st : List Value} {M : mj_H} : mj_Rn d mj_m0 78 ls st M = mq_k2 d mj_m0 ls M (mj_br (.if_icmp .ge 22) 78 st) := mj_R2 (r := (.if_icmp .ge 22, 3, 0, 0, 0)) rfl rfl
theorem s0_81 {d : Nat} {ls : mj_L} {st : List Value} {M : mj_H} : mj_Rn d mj_m0 81 ls st M = mq_k0 d mj_m0 82 ls M (mj_lda (mj_lk ls 0) st) := mj_R0 (r := (.aload_n 0, 1, 0, 0, 0)) rfl rfl
theorem s0_82 {d : Nat} {ls : mj_L} {st : List Value} {M : mj_H} : mj_Rn d mj_m0 82 ls st M = mq_k0 d mj_m0 85 ls M (mq_gf 10 5 st M) := (mj_R3 (r := (.getfield 43, 3, 10, 5, 8496)) rfl rfl).trans (congrArg (mq_k0 d mj_m0 85 ls M) mq_gf_eq)
theorem s0_85 {d : Nat} {ls : mj_L} {st : List Value} {M : mj_H} : mj_Rn d mj_m0 85 ls st M = mq_k0 d mj_m0 86 ls M (mj_ldi (mj_lk ls 1) st) := mj_R0 (r := (.iload_n 1, 1, 0, 0, 0)) rfl rfl
theorem s0_86 {d : Nat} {ls : mj_L} {st : List Value} {M : mj_H} : mj_Rn d mj_m0 86 ls st M = mq_k4 d mj_m0 89 ls (mj_hw (.new 41, 3, 3, 0, 4211) st M) := mj_R4 (r := (.new 41, 3, 3, 0, 4211)) rfl rfl
theorem s0_89 {d : Nat} {ls : mj_L} {st : List Value} {M : mj_H} : mj_Rn d mj_m0 89 ls st M = mq_k0 d mj_m0 90 ls M (mj_pu .dup ls st) := mj_R0 (r := (.dup, 1, 0, 0, 0)) rfl rfl
theorem s0_90 {d : Nat} {ls : mj_L} {st : List Value} {M : mj_H} : mj_Rn (d + 1) mj_m0 90 ls st M = mq_k5a (d + 1) mj_m0 93 ls M 6 (mq_cb 4 0 3 st M) := mj_R5e (r := (.invokespecial 47, 3, 4, 6, 4214)) (z := mj_m6) rfl rfl (by decide) (by decide) rfl
theorem s0_93 {d : Nat} {ls : mj_L} {st : List Value} {M : mj_H} : mj_Rn d mj_m0 93 ls st M = mq_k4 d mj_m0 94 ls (mj_hw (.aastore, 1, 0, 0, 0) st M) := mj_R4 (r := (.aastore, 1, 0, 0, 0)) rfl rfl
theorem s0_94 {d : Nat} {ls : mj_L} {st : List Value} {M : mj_H} : mj_Rn d mj_m0 94 ls st M = mq_k1 d mj_m0 97 M (mj_lo 2 (.iinc 1 1) ls st) := mj_R1 (r := (.iinc 1 1, 3, 0, 0, 0)) rfl rfl
theorem s0_97 {d : Nat} {ls : mj_L} {st : List Value} {M : mj_H} : mj_Rn d mj_m0 97 ls st M = mj_Rn d mj_m0 72 ls st M := mj_R2 (r := (.goto (-25), 3, 0, 0, 0)) rfl rfl
theorem s0_100 {d : Nat} {ls : mj_L} {st : List Value} {M : mj_H} : mj_Rn d mj_m0 100 ls st M = mq_k0 d mj_m0 101 ls M (mj_lda (mj_lk ls 0) st) := mj_R0 (r := (.aload_n 0, 1, 0, 0, 0)) rfl rfl
theorem s0_101 {d : Nat} {ls : mj_L} {st : List Value} {M : mj_H} : mj_Rn d mj_m0 101 ls st M = mj_Rn d mj_m0 102 ls (.int 4 :: st) M := mj_R0 (r := (.iconst 4, 1, 0, 0, 0)) rfl rfl
theorem s0_102 {d : Nat} {ls : mj_L} {st : List Value} {M : mj_H} : mj_Rn d mj_m0 102 ls st M = mq_k4 d mj_m0 105 ls (mj_hw (.anewarray 48, 3, 1006, 0, 4241) st M) := mj_R4 (r := (.anewarray 48, 3, 1006, 0, 4241)) rfl rfl
theorem s0_105 {d : Nat} {ls : mj_L} {st : List Value} {M : mj_H} : mj_Rn d mj_m0 105 ls st M = mq_k4 d mj_m0 108 ls (mq_pf 10 6 2 st M) := (mj_R4 (r := (.putfield 50, 3, 10, 6, 8498)) rfl rfl).trans (congrArg (mq_k4 d mj_m0 108 ls) (mq_pf_eq rfl rfl))
theorem s0_108 {d : Nat} {ls : mj_L} {st : List Value} {M : mj_H} : mj_Rn d mj_m0 108 ls st M = mq_k0 d mj_m0 109 ls M (mj_lda (mj_lk ls 0) st) := mj_R0 (r := (.aload_n 0, 1, 0, 0, 0)) rfl rfl
theorem s0_109 {d : Nat} {ls : mj_L} {st : List Value} {M : mj_H} : mj_Rn d mj_m0 109 ls st M = mj_Rn d mj_m0 110 ls (.int 0 :: st) M := mj_R0 (r := (.iconst 0, 1, 0, 0, 0)) rfl rfl
theorem s0_110 {d : Nat} {ls : mj_L} {st : List Value} {M : mj_H} : mj_Rn d mj_m0 110 ls st M = mq_k4 d mj_m0 113 ls (mq_pf 10 7 0 st M) := (mj_R4 (r := (.putfield 54, 3, 10, 7, 8500)) rfl rfl).trans (congrArg (mq_k4 d mj_m0 113 ls) (mq_pf_eq rfl rfl))
theorem s0_113 {d : Nat} {ls : mj_L} {st : List Value} {M : mj_H} : mj_Rn d mj_m0 113 ls st M = mq_k0 d mj_m0 114 ls M (mj_lda (mj_lk ls 0) st) := mj_R0 (r := (.aload_n 0, 1, 0, 0, 0)) rfl rfl
theorem s0_114 {d : Nat} {ls : mj_L} {st : List Value} {M : mj_H} : mj_Rn d mj_m0 114 ls st M = mj_Rn d mj_m0 115 ls (.int 0 :: st) M := mj_R0 (r := (.iconst 0, 1, 0, 0, 0)) rfl rfl
theorem s0_115 {d : Nat} {ls : mj_L} {st : List Value} {M : mj_H} : mj_Rn d mj_m0 115 ls st M = mq_k4 d mj_m0 118 ls (mq_pf 10 8 0 st M) := (mj_R4 (r := (.putfield 58, 3, 10, 8, 8502)) rfl rfl).trans (congrArg (mq_k4 d mj_m0 118 ls) (mq_pf_eq rfl rfl))
theorem s0_118 {d : Nat} {ls : mj_L} {st : List Value} {M : mj_H} : mj_Rn d mj_m0 118 ls st M = mq_k6 M (mj_re none (.return_) st) := mj_R6 (r := (.return_, 1, 0, 0, 0)) rfl rfl
theorem c4 {d : Nat} {a0 : Nat} {M : mj_H} : mj_V (d + 1) 4 [.ref a0] M = mj_Rn d mj_m4 0 [(0, .ref a0)] [] M := mj_V_go rfl (Nat.le_of_ble_eq_true rfl)
theorem c5 {d : Nat} {a0 : Nat} {M : mj_H} : mj_V (d + 1) 5 [.ref a0] M = mj_Rn d mj_m5 0 [(0, .ref a0)] [] M := mj_V_go rfl (Nat.le_of_ble_eq_true rfl)
theorem c6 {d : Nat} {a0 : Nat} {M : mj_H} : mj_V (d + 1) 6 [.ref a0] M = mj_Rn d mj_m6 0 [(0, .ref a0)] [] M := mj_V_go rfl (Nat.le_of_ble_eq_true rfl)
theorem e_0 {d : Nat} {a0 : Nat} {M : mj_H} : mj_V (d + 1) 0 [.ref a0] M = mj_Rn d mj_m0 0 [(0, .ref a0)] [] M := mj_V_go rfl (Nat.le_of_ble_eq_true rfl)
def d9 : mj_C := (9, [.null, .null, .null, .null, .null, .int 0, .int 0, .int 0, .int 0])
def tblk (a : Nat) : mj_H := [(9, [.ref (a + 1), .ref (a + 2), .ref (a + 3), .ref (a + 4), .ref (a + 5), .int 0, .int 0, .int 0, .int 0]), z0 2048, z0 256, z0 256, z0 1024, z0 410]
def d4 : mj_C := (4, [.null, .null, .null, .null, .null, .null, .int 0, .int 0])
def iblk (a : Nat) : mj_H := [(4, [.ref (a + 1), .ref (a + 2), .ref (a + 3), .ref (a + 4), .ref (a + 5), .ref (a + 6), .int 0, .int 0]), z0 400, z0 400, z0 400, z0 400, z0 400, (1, [.ref (a + 7), .int 0]), z0 0]
def d3 : mj_C := (3, [.null, .null, .int 0, .int 0, .int 0])
def hblk (a : Nat) : mj_H := [(3, [.ref (a + 1), .ref (a + 3), .int 0, .int 0, .int 0]), (1, [.ref (a + 2), .int 0]), z0 12, (1, [.ref (a + 4), .int 0]), z0 40]
theorem ty_9 : mj_ty[9]? = some [.array .int, .array .int, .array .int, .array .int, .array .int, .int, .int, .int, .int] := rfl
theorem ty_4 : mj_ty[4]? = some [.array .int, .array .int, .array .int, .array .int, .array .int, .object "PasskeyHouse$Bytes", .int, .int] := rfl
theorem ty_3 : mj_ty[3]? = some [.object "PasskeyHouse$Bytes", .object "PasskeyHouse$Bytes", .int, .int, .int] := rfl
theorem aty_e : mj_aty 1000 = .int := rfl
section NW
variable {d : Nat} {P : mj_H}
theorem i_terms (hP : 25 ≤ P.length) : mj_V (d + 2) 4 [.ref P.length] (P ++ [d9]) = some (none, P ++ tblk P.length) := by
  have hh : ¬ P.length < 25 := by omega
  have g0 : ∀ (q : mj_C) (X : mj_H), (P ++ q :: X)[P.length]? = some q := fun q X => by rw [List.getElem?_append_right (Nat.le_refl _)]; simp
  have g1 : ∀ (q r : mj_C) (X : mj_H), (P ++ q :: X).set P.length r = P ++ r :: X := fun q r X => by rw [List.set_append_right _ _ (Nat.le_refl _)]; simp
  have a1 : (2048 : Int32).toNatClampNeg = 2048 := rfl
  have a2 : (256 : Int32).toNatClampNeg = 256 := rfl
  have a3 : (1024 : Int32).toNatClampNeg = 1024 := rfl
  have a4 : (410 : Int32).toNatClampNeg = 410 := rfl
  simp (disch := (first | omega | decide)) [-List.reduceReplicate, c4, s4_0, s4_1, s4_4, s4_5, s4_8, s4_10, s4_13, s4_14, s4_17, s4_19, s4_22, s4_23, s4_26, s4_28, s4_31, s4_32, s4_35, s4_37, s4_40, s4_41, s4_44, s4_46, s4_49, s4_50, s4_51, s4_54, s4_55, s4_56, s4_59, s4_60, s4_61, s4_64, s4_65, s4_66, s4_69, mq_k0s, mq_k1s, mq_k2s, mq_k4s, mq_k5s, mq_k5n, mq_k5as, mq_k6s, mj_pu, mj_lo, mj_br, mj_hr, mj_hw, mq_gf, mq_len, mq_al, mq_pf, mq_ok, mj_re, mq_lkm, mq_lkn, mj_ldi, mj_ldl, mj_lda, mj_ii, mj_ll, mj_li, mj_i1, ms_1, ms_2, f1_n, f1_i, f1_r, f1_u, f1_l, f2_n, f2_i, f2_r, f2_u, f2_l, mj_tg, mj_c1, mj_c2, mj_ar, mj_aw, mq_cb, mq_oi, mj_rm, Value.category, -getElem?_pos, List.getElem?_cons_zero, decide_eq_true, decide_eq_false, nl_lt, nl_le, ln_lt, ln_le, nl_eq, ln_eq, nl_add, ln_add, nl_sub, ln_mul, nI_sub, nI_mul, nI_add, nI_lt_iff, nI_le_iff, nI_inj, nI_num, mq_ix, nI_1, nl_mul, nl_div, g0, g1, hh, mj_E, aty_i, narrow, narrow_b0, d9, a1, a2, a3, a4, tblk, z0]
theorem i_items (hP : 25 ≤ P.length) : mj_V (d + 3) 5 [.ref P.length] (P ++ [d4]) = some (none, P ++ iblk P.length) := by
  have hh : ¬ P.length < 25 := by omega
  have g0 : ∀ (q : mj_C) (X : mj_H), (P ++ q :: X)[P.length]? = some q := fun q X => by rw [List.getElem?_append_right (Nat.le_refl _)]; simp
  have g1 : ∀ (q r : mj_C) (X : mj_H), (P ++ q :: X).set P.length r = P ++ r :: X := fun q r X => by rw [List.set_append_right _ _ (Nat.le_refl _)]; simp
  have gk : ∀ (X : mj_H) (k : Nat), (P ++ X)[P.length + k]? = X[k]? := fun X k => ap_at X k
  have gs : ∀ (X : mj_H) (k : Nat) (q : mj_C), (P ++ X).set (P.length + k) q = P ++ X.set k q := fun X k q => ap_set X k q
  have hk : ∀ k, ¬ P.length + k < 25 := fun k => by omega
  have a1 : (400 : Int32).toNatClampNeg = 400 := rfl
  have b1 := i_bytesA (d := d) (P := P) (X := [(4, [.ref (P.length + 1), .ref (P.length + 2), .ref (P.length + 3), .ref (P.length + 4), .ref (P.length + 5), .null, .int 0, .int 0]), z0 400, z0 400, z0 400, z0 400, z0 400, (1, [.null, .int 0])]) (k := 6) (n := 0) hP rfl (by omega)
  rw [show nI 0 = 0 from rfl] at b1
  simp only [List.set_cons_succ, List.set_cons_zero, List.length_cons, List.length_nil, List.cons_append, List.nil_append, z0] at b1
  simp (disch := (first | omega | decide)) [-List.reduceReplicate, c5, s5_0, s5_1, s5_4, s5_5, s5_8, s5_10, s5_13, s5_14, s5_17, s5_19, s5_22, s5_23, s5_26, s5_28, s5_31, s5_32, s5_35, s5_37, s5_40, s5_41, s5_44, s5_46, s5_49, s5_50, s5_53, s5_54, s5_55, s5_58, s5_61, s5_62, s5_63, s5_66, s5_67, s5_68, s5_71, mq_k0s, mq_k1s, mq_k2s, mq_k4s, mq_k5s, mq_k5n, mq_k5as, mq_k6s, mj_pu, mj_lo, mj_br, mj_hr, mj_hw, mq_gf, mq_len, mq_al, mq_pf, mq_ok, mj_re, mq_lkm, mq_lkn, mj_ldi, mj_ldl, mj_lda, mj_ii, mj_ll, mj_li, mj_i1, ms_1, ms_2, f1_n, f1_i, f1_r, f1_u, f1_l, f2_n, f2_i, f2_r, f2_u, f2_l, mj_tg, mj_c1, mj_c2, mj_ar, mj_aw, mq_cb, mq_oi, mj_rm, Value.category, -getElem?_pos, List.getElem?_cons_zero, decide_eq_true, decide_eq_false, nl_lt, nl_le, ln_lt, ln_le, nl_eq, ln_eq, nl_add, ln_add, nl_sub, ln_mul, nI_sub, nI_mul, nI_add, nI_lt_iff, nI_le_iff, nI_inj, nI_num, mq_ix, nI_1, nl_mul, nl_div, g0, g1, gk, gs, hh, hk, mj_E, aty_i, ty_1, defaultValue, aty_e, narrow, narrow_b0, d4, a1, b1, iblk, z0]
theorem i_hand (hP : 25 ≤ P.length) : mj_V (d + 3) 6 [.ref P.length] (P ++ [d3]) = some (none, P ++ hblk P.length) := by
  have hh : ¬ P.length < 25 := by omega
  have g0 : ∀ (q : mj_C) (X : mj_H), (P ++ q :: X)[P.length]? = some q := fun q X => by rw [List.getElem?_append_right (Nat.le_refl _)]; simp
  have g1 : ∀ (q r : mj_C) (X : mj_H), (P ++ q :: X).set P.length r = P ++ r :: X := fun q r X => by rw [List.set_append_right _ _ (Nat.le_refl _)]; simp
  have gk : ∀ (X : mj_H) (k : Nat), (P ++ X)[P.length + k]? = X[k]? := fun X k => ap_at X k
  have gs : ∀ (X : mj_H) (k : Nat) (q : mj_C), (P ++ X).set (P.length + k) q = P ++ X.set k q := fun X k q => ap_set X k q
  have hk : ∀ k, ¬ P.length + k < 25 := fun k => by omega
  have b1 := i_bytesA (d := d) (P := P) (X := [d3, (1, [.null, .int 0])]) (k := 1) (n := 12) hP rfl (by omega)
  have b2 := i_bytesA (d := d) (P := P) (X := [(3, [.ref (P.length + 1), .null, .int 0, .int 0, .int 0]), (1, [.ref (P.length + 2), .int 0]), z0 12, (1, [.null, .int 0])]) (k := 3) (n := 40) hP rfl (by omega)
  rw [show nI 12 = 12 from rfl] at b1
  rw [show nI 40 = 40 from rfl] at b2
  simp only [List.set_cons_succ, List.set_cons_zero, List.length_cons, List.length_nil, List.cons_append, List.nil_append, d3, z0] at b1 b2
  simp (disch := (first | omega | decide)) [-List.reduceReplicate, c6, s6_0, s6_1, s6_4, s6_5, s6_8, s6_9, s6_11, s6_14, s6_17, s6_18, s6_21, s6_22, s6_24, s6_27, s6_30, mq_k0s, mq_k1s, mq_k2s, mq_k4s, mq_k5s, mq_k5n, mq_k5as, mq_k6s, mj_pu, mj_lo, mj_br, mj_hr, mj_hw, mq_gf, mq_len, mq_al, mq_pf, mq_ok, mj_re, mq_lkm, mq_lkn, mj_ldi, mj_ldl, mj_lda, mj_ii, mj_ll, mj_li, mj_i1, ms_1, ms_2, f1_n, f1_i, f1_r, f1_u, f1_l, f2_n, f2_i, f2_r, f2_u, f2_l, mj_tg, mj_c1, mj_c2, mj_ar, mj_aw, mq_cb, mq_oi, mj_rm, Value.category, -getElem?_pos, List.getElem?_cons_zero, decide_eq_true, decide_eq_false, nl_lt, nl_le, ln_lt, ln_le, nl_eq, ln_eq, nl_add, ln_add, nl_sub, ln_mul, nI_sub, nI_mul, nI_add, nI_lt_iff, nI_le_iff, nI_inj, nI_num, mq_ix, nI_1, nl_mul, nl_div, g0, g1, gk, gs, hh, hk, mj_E, ty_1, defaultValue, aty_e, narrow, narrow_b0, d3, b1, b2, hblk, z0]
def d10 : mj_C := (10, [.null, .null, .null, .null, .null, .null, .null, .int 0, .int 0])
def hs4 (a b c d : Value) : mj_C := (1005, [a, b, c, d])
def oblk (a : Nat) : mj_H := [(10, [.ref (a + 1), .ref (a + 3), .ref (a + 5), .ref (a + 11), .ref (a + 19), .ref (a + 20), .ref (a + 41), .int 0, .int 0]), (1, [.ref (a + 2), .int 0]), z0 400, (1, [.ref (a + 4), .int 0]), z0 400] ++ (tblk (a + 5) ++ (iblk (a + 11) ++ ([(1004, [.null, .null, .null]), hs4 (.ref (a + 21)) (.ref (a + 26)) (.ref (a + 31)) (.ref (a + 36))] ++ (hblk (a + 21) ++ (hblk (a + 26) ++ (hblk (a + 31) ++ (hblk (a + 36) ++ [(1006, [.null, .null, .null, .null])])))))))
def o1 (a : Nat) (v : List Value) : mj_C := (10, v)
/-- up to the hands -/
def oX (a : Nat) : mj_H := [(10, [.ref (a + 1), .ref (a + 3), .ref (a + 5), .ref (a + 11), .ref (a + 19), .ref (a + 20), .null, .int 0, .int 0]), (1, [.ref (a + 2), .int 0]), z0 400, (1, [.ref (a + 4), .int 0]), z0 400] ++ (tblk (a + 5) ++ (iblk (a + 11) ++ [(1004, [.null, .null, .null])]))
theorem oX_len (a : Nat) : (oX a).length = 20 := rfl
theorem i_house1 (hP : 25 ≤ P.length) : ∀ r, mj_Rn (d + 4) mj_m0 72 [(1, .int 0), (0, .ref P.length)] [] (P ++ (oX P.length ++ [hs4 .null .null .null .null])) = some r → mj_Rn (d + 4) mj_m0 0 [(0, .ref P.length)] [] (P ++ [d10]) = some r := by
  intro r hr
  have hh : ¬ P.length < 25 := by omega
  have g0 : ∀ (q : mj_C) (X : mj_H), (P ++ q :: X)[P.length]? = some q := fun q X => by rw [List.getElem?_append_right (Nat.le_refl _)]; simp
  have g1 : ∀ (q r : mj_C) (X : mj_H), (P ++ q :: X).set P.length r = P ++ r :: X := fun q r X => by rw [List.set_append_right _ _ (Nat.le_refl _)]; simp
  have gk : ∀ (X : mj_H) (k : Nat), (P ++ X)[P.length + k]? = X[k]? := fun X k => ap_at X k
  have gs : ∀ (X : mj_H) (k : Nat) (q : mj_C), (P ++ X).set (P.length + k) q = P ++ X.set k q := fun X k q => ap_set X k q
  have hk : ∀ k, ¬ P.length + k < 25 := fun k => by omega
  have a3 : (3 : Int32).toNatClampNeg = 3 := rfl
  have a4 : (4 : Int32).toNatClampNeg = 4 := rfl
  have b1 := i_bytesA (d := d + 2) (P := P) (X := [d10, (1, [.null, .int 0])]) (k := 1) (n := 400) hP rfl (by omega)
  have b2 := i_bytesA (d := d + 2) (P := P) (X := [(10, [.ref (P.length + 1), .null, .null, .null, .null, .null, .null, .int 0, .int 0]), (1, [.ref (P.length + 2), .int 0]), z0 400, (1, [.null, .int 0])]) (k := 3) (n := 400) hP rfl (by omega)
  have b3 := i_terms (d := d + 2) (P := P ++ [(10, [.ref (P.length + 1), .ref (P.length + 3), .null, .null, .null, .null, .null, .int 0, .int 0]), (1, [.ref (P.length + 2), .int 0]), z0 400, (1, [.ref (P.length + 4), .int 0]), z0 400]) (by rw [List.length_append]; omega)
  have b4 := i_items (d := d + 1) (P := P ++ ([(10, [.ref (P.length + 1), .ref (P.length + 3), .ref (P.length + 5), .null, .null, .null, .null, .int 0, .int 0]), (1, [.ref (P.length + 2), .int 0]), z0 400, (1, [.ref (P.length + 4), .int 0]), z0 400] ++ tblk (P.length + 5))) (by rw [List.length_append]; omega)
  rw [show nI 400 = 400 from rfl] at b1 b2
  simp only [List.set_cons_succ, List.set_cons_zero, List.length_cons, List.length_nil, List.cons_append, List.nil_append, d10, z0] at b1 b2
  simp only [List.append_assoc, List.length_append, List.length_cons, List.length_nil, List.cons_append, List.nil_append, tblk, iblk, d9, d4, z0, Nat.add_assoc, Nat.reduceAdd] at b3 b4
  simp only [oX, hs4, tblk, iblk, z0, List.cons_append, List.nil_append, List.append_assoc, Nat.add_assoc, Nat.reduceAdd] at hr
  simp (disch := (first | omega | decide)) [-List.reduceReplicate, s0_0, s0_1, s0_4, s0_5, s0_8, s0_9, s0_12, s0_15, s0_18, s0_19, s0_22, s0_23, s0_26, s0_29, s0_32, s0_33, s0_36, s0_37, s0_40, s0_43, s0_44, s0_47, s0_48, s0_51, s0_54, s0_55, s0_56, s0_59, s0_62, s0_63, s0_64, s0_67, s0_70, s0_71, s0_73, s0_74, s0_77, s0_78, s0_81, s0_82, s0_85, s0_86, s0_89, s0_90, s0_93, s0_94, s0_97, s0_100, s0_101, s0_102, s0_105, s0_108, s0_109, s0_110, s0_113, s0_114, s0_115, s0_118, mq_k0s, mq_k1s, mq_k2s, mq_k4s, mq_k5s, mq_k5n, mq_k5as, mq_k6s, mj_pu, mj_lo, mj_br, mj_hr, mj_hw, mq_gf, mq_len, mq_al, mq_pf, mq_ok, mj_re, mq_lkm, mq_lkn, mj_ldi, mj_ldl, mj_lda, mj_ii, mj_ll, mj_li, mj_i1, ms_1, ms_2, f1_n, f1_i, f1_r, f1_u, f1_l, f2_n, f2_i, f2_r, f2_u, f2_l, mj_tg, mj_c1, mj_c2, mj_ar, mj_aw, mq_cb, mq_oi, mj_rm, Value.category, -getElem?_pos, List.getElem?_cons_zero, decide_eq_true, decide_eq_false, nl_lt, nl_le, ln_lt, ln_le, nl_eq, ln_eq, nl_add, ln_add, nl_sub, ln_mul, nI_sub, nI_mul, nI_add, nI_lt_iff, nI_le_iff, nI_inj, nI_num, mq_ix, nI_1, nl_mul, nl_div, g0, g1, gk, gs, hh, hk, mj_E, ty_1, ty_9, ty_4, defaultValue, aty_e, narrow, narrow_b0, d10, a3, a4, b1, b2, b3, b4]
  exact hr
/-- one hand more -/
theorem i_loop {L : mj_H} {a i : Nat} {v0 v1 v2 v3 v4 v6 v7 v8 : Value} {vs : List Value} (ha : 25 ≤ a) (m0 : L[a]? = some (10, [v0, v1, v2, v3, v4, .ref (a + 20), v6, v7, v8])) (m20 : L[a + 20]? = some (1005, vs)) (hv : vs.length = 4) (hi : i < 4) : ∀ r, mj_Rn (d + 4) mj_m0 72 [(1, .int (nI (i + 1))), (0, .ref a)] [] (L.set (a + 20) (1005, vs.set i (.ref L.length)) ++ hblk L.length) = some r → mj_Rn (d + 4) mj_m0 72 [(1, .int (nI i)), (0, .ref a)] [] L = some r := by
  intro r hr
  have hl := mq_lt m20
  have hl25 : 25 ≤ L.length := by omega
  have h20 : ¬ a + 20 < 25 := by omega
  have b1 := i_hand (d := d + 1) (P := L) hl25
  have n20 : (L ++ hblk L.length)[a + 20]? = some (1005, vs) := by rw [List.getElem?_append_left hl]; exact m20
  have nn : (L ++ hblk L.length)[L.length]? = some (3, [.ref (L.length + 1), .ref (L.length + 3), .int 0, .int 0, .int 0]) := by rw [List.getElem?_append_right (Nat.le_refl _), Nat.sub_self]; rfl
  have ns : ∀ q, (L ++ hblk L.length).set (a + 20) q = L.set (a + 20) q ++ hblk L.length := fun q => List.set_append_left _ _ hl
  have aa := fun (s : List Value) => aas (M := L ++ hblk L.length) (a := a + 20) (v := L.length) (tag := 1005) (cls := 3) (i := nI i) (zs := vs) (s := s) rfl (by decide) (by decide) (by unfold mj_E; omega) n20 nn
  unfold d3 at b1
  rw [s0_72]
  have hi4 : ¬ 4 ≤ i := by omega
  have h25 : ¬ L.length < 25 := by omega
  generalize hN : L ++ hblk L.length = N at *
  simp (disch := (first | omega | decide)) [-List.reduceReplicate, s0_0, s0_1, s0_4, s0_5, s0_8, s0_9, s0_12, s0_15, s0_18, s0_19, s0_22, s0_23, s0_26, s0_29, s0_32, s0_33, s0_36, s0_37, s0_40, s0_43, s0_44, s0_47, s0_48, s0_51, s0_54, s0_55, s0_56, s0_59, s0_62, s0_63, s0_64, s0_67, s0_70, s0_71, s0_73, s0_74, s0_77, s0_78, s0_81, s0_82, s0_85, s0_86, s0_89, s0_90, s0_93, s0_94, s0_97, s0_100, s0_101, s0_102, s0_105, s0_108, s0_109, s0_110, s0_113, s0_114, s0_115, s0_118, mq_k0s, mq_k1s, mq_k2s, mq_k4s, mq_k5s, mq_k5n, mq_k5as, mq_k6s, mj_pu, mj_lo, mj_br, mj_hr, mj_hw, mq_gf, mq_len, mq_al, mq_pf, mq_ok, mj_re, mq_lkm, mq_lkn, mj_ldi, mj_ldl, mj_lda, mj_ii, mj_ll, mj_li, mj_i1, ms_1, ms_2, f1_n, f1_i, f1_r, f1_u, f1_l, f2_n, f2_i, f2_r, f2_u, f2_l, mj_tg, mj_c1, mj_c2, mj_ar, mj_aw, mq_cb, mq_oi, mj_rm, Value.category, -getElem?_pos, List.getElem?_cons_zero, decide_eq_true, decide_eq_false, nl_lt, nl_le, ln_lt, ln_le, nl_eq, ln_eq, nl_add, ln_add, nl_sub, ln_mul, nI_sub, nI_mul, nI_add, nI_lt_iff, nI_le_iff, nI_inj, nI_num, mq_ix, nI_1, nl_mul, nl_div, m0, m20, hv, hi, hi4, ty_3, defaultValue, aty_e, b1, n20, nn, ns, h20, h25, hl25, ty5, cl_len, mj_E]
  exact hr
theorem i_house (hP : 25 ≤ P.length) : mj_V (d + 5) 0 [.ref P.length] (P ++ [d10]) = some (none, P ++ oblk P.length) := by
  have go : ∀ (i : Nat) (vs : List Value) (Y : mj_H), i < 4 → vs.length = 4 → Y.length = 5 * i → ∀ r, mj_Rn (d + 4) mj_m0 72 [(1, .int (nI (i + 1))), (0, .ref P.length)] [] (P ++ (oX P.length ++ (1005, vs.set i (.ref (P.length + (21 + 5 * i)))) :: (Y ++ hblk (P.length + (21 + 5 * i))))) = some r → mj_Rn (d + 4) mj_m0 72 [(1, .int (nI i)), (0, .ref P.length)] [] (P ++ (oX P.length ++ (1005, vs) :: Y)) = some r := by
    intro i vs Y hi hv hY r hr
    have hl : (P ++ (oX P.length ++ (1005, vs) :: Y)).length = P.length + (21 + 5 * i) := by
      rw [List.length_append, List.length_append, oX_len, List.length_cons, hY]
      omega
    refine i_loop (v0 := .ref (P.length + 1)) (v1 := .ref (P.length + 3)) (v2 := .ref (P.length + 5)) (v3 := .ref (P.length + 11)) (v4 := .ref (P.length + 19)) (v6 := .null) (v7 := .int 0) (v8 := .int 0) (vs := vs) hP ?_ ?_ hv hi r ?_
    · rw [List.getElem?_append_right (Nat.le_refl _), Nat.sub_self]
      rfl
    · rw [ap_at, List.getElem?_append_right (by rw [oX_len]; omega), oX_len]
      rfl
    · rw [hl, ap_set, List.set_append_right _ _ (by rw [oX_len]; omega), oX_len]
      simp only [Nat.sub_self, List.set_cons_zero, List.append_assoc, List.cons_append]
      exact hr
  rw [e_0]
  refine i_house1 hP _ ?_
  unfold hs4
  rw [show (0 : Int32) = nI 0 from rfl]
  refine go 0 _ [] (by omega) rfl rfl _ ?_
  refine go 1 _ _ (by omega) rfl rfl _ ?_
  refine go 2 _ _ (by omega) rfl rfl _ ?_
  refine go 3 _ _ (by omega) rfl rfl _ ?_
  have hh : ¬ P.length < 25 := by omega
  have a4 : (4 : Int32).toNatClampNeg = 4 := rfl
  have g0 : ∀ (q : mj_C) (X : mj_H), (P ++ q :: X)[P.length]? = some q := fun q X => by rw [List.getElem?_append_right (Nat.le_refl _)]; simp
  have g1 : ∀ (q r : mj_C) (X : mj_H), (P ++ q :: X).set P.length r = P ++ r :: X := fun q r X => by rw [List.set_append_right _ _ (Nat.le_refl _)]; simp
  have gk : ∀ (X : mj_H) (k : Nat), (P ++ X)[P.length + k]? = X[k]? := fun X k => ap_at X k
  simp only [oX, tblk, iblk, hblk, z0, List.set_cons_zero, List.set_cons_succ, List.nil_append, List.cons_append, List.append_assoc, Nat.add_assoc, Nat.reduceAdd, Nat.reduceMul]
  simp (disch := (first | omega | decide)) [-List.reduceReplicate, s0_0, s0_1, s0_4, s0_5, s0_8, s0_9, s0_12, s0_15, s0_18, s0_19, s0_22, s0_23, s0_26, s0_29, s0_32, s0_33, s0_36, s0_37, s0_40, s0_43, s0_44, s0_47, s0_48, s0_51, s0_54, s0_55, s0_56, s0_59, s0_62, s0_63, s0_64, s0_67, s0_70, s0_71, s0_72, s0_73, s0_74, s0_77, s0_78, s0_81, s0_82, s0_85, s0_86, s0_89, s0_90, s0_93, s0_94, s0_97, s0_100, s0_101, s0_102, s0_105, s0_108, s0_109, s0_110, s0_113, s0_114, s0_115, s0_118, mq_k0s, mq_k1s, mq_k2s, mq_k4s, mq_k5s, mq_k5n, mq_k5as, mq_k6s, mj_pu, mj_lo, mj_br, mj_hr, mj_hw, mq_gf, mq_len, mq_al, mq_pf, mq_ok, mj_re, mq_lkm, mq_lkn, mj_ldi, mj_ldl, mj_lda, mj_ii, mj_ll, mj_li, mj_i1, ms_1, ms_2, f1_n, f1_i, f1_r, f1_u, f1_l, f2_n, f2_i, f2_r, f2_u, f2_l, mj_tg, mj_c1, mj_c2, mj_ar, mj_aw, mq_cb, mq_oi, mj_rm, Value.category, -getElem?_pos, List.getElem?_cons_zero, decide_eq_true, decide_eq_false, nl_lt, nl_le, ln_lt, ln_le, nl_eq, ln_eq, nl_add, ln_add, nl_sub, ln_mul, nI_sub, nI_mul, nI_add, nI_lt_iff, nI_le_iff, nI_inj, nI_num, mq_ix, nI_1, nl_mul, nl_div, g0, g1, gk, hh, mj_E, narrow, narrow_b0, a4, oblk, hs4, tblk, iblk, hblk, z0, Nat.add_assoc]
  rfl
end NW
end
