/- 64.items4 -/
section
set_option maxRecDepth 512
/-! Class: Items, an item, and all of a message. -/
theorem cbI_no {ms : List Int32} {r p : Nat} (h : ¬ cbOl ms p) : cbI ms r p = none := by
  cases hq : cbI ms r p with
  | none => rfl
  | some q =>
    exfalso
    have hk := cbI_ok hq
    apply h
    refine ⟨hk, fun hs => ?_⟩
    have h23 : ¬ (cbS ms p = 2 ∨ cbS ms p = 3) := by omega
    cases r with
    | zero =>
      unfold cbI at hq
      rw [if_neg (not_not_intro hk), if_neg h23, if_pos hs] at hq
      cases hq
    | succ r =>
      unfold cbI at hq
      rw [if_neg (not_not_intro hk), if_neg h23, if_pos hs] at hq
      have := cbQ_lt (cbI_lt r) _ _ _ _ hq hk.c.2
      omega
theorem head_sm {S V H E N : List Int32} {i : Nat} {x y z : Int32} : sm i S V H E N (S.set i x) (V.set i y) (H.set i z) E N := fun k hk => ⟨List.getElem?_set_ne (by omega), List.getElem?_set_ne (by omega), List.getElem?_set_ne (by omega), rfl, rfl⟩
/-- the whole of an item, once its parts and its end are known -/
theorem i_fin {d i p q j r : Nat} {S0 V0 H0 E0 N0 S V H E N ms : List Int32} {M : mj_H} (h8 : ∀ v ∈ ms, v &&& 255 = v) (hk : cbOk ms p) (h : iu M 28 (nI j) (nI q) S V H E N) (hs : sm i S0 V0 H0 E0 N0 S V H E N) (hS : S[i]? = some (nI (cbS ms p))) (hV : V[i]? = some (nI (cbV ms p))) (hH : H[i]? = some (nI p)) (hij : i < j) (hi : i + 1 ≤ p) (hq : q ≤ ms.length) (hjq : j + 1 ≤ q) (hm : ms.length ≤ 400)
    (hnd : ∀ tb : Nat → Ent, (∀ k, i < k → k < j → tb k = tbA S V H E N k) → tb i = ((p, (cbS ms p, (cbV ms p, (q, j)))) : Ent) → Nd tb ms r p i q j) (htk : tks S V H E N (i + 1) j) :
    ∃ M', mj_Rn d mj_m81 150 [(2, .int (nI i)), (0, .ref 36)] [] M = some (some (.int 1), M') ∧ mq_fr [36, 37, 38, 39, 40, 41] M M' ∧ ∃ S' V' H' E' N', itOk M' ms S0 V0 H0 E0 N0 r p i q j S' V' H' E' N' := by
  have hp := hk.1
  obtain ⟨e1, e2⟩ := i_end (d := d) (i := i) h (by omega)
  have he := set_ent (q := q) (j := j) hS hV hH h.ln.2.2.2.1 h.ln.2.2.2.2 (by omega : i < 400)
  have hB := ms_by h8 p
  have hS8 : cbS ms p < 8 := by unfold cbS; omega
  have hsm : smallE ((p, (cbS ms p, (cbV ms p, (q, j)))) : Ent) := ⟨by show p < _; omega, hS8, hk.2.2.2.2.2.1, by show q < _; omega, by show j < _; omega⟩
  have ht := he.tb hsm
  refine ⟨_, e1, (mq_fr.rf.set (by simp)).set (by simp), _, _, _, _, _, (itOk_mk_ e2 (hs.tr (set_sm (Nat.le_refl _)) (Nat.le_refl _)) (hnd _ (fun k k1 k2 => set_tb (by omega)) ht) ?_ hjq hq)⟩
  intro k k1 k2
  by_cases hki : k = i
  · subst hki
    rw [ht]; exact ⟨he, hsm⟩
  · rw [set_tb hki]
    have := htk k (by omega) k2
    exact ⟨set_en hki this.1, this.2⟩
theorem i_item {ms : List Int32} {d : Nat} : ∀ (r around : Nat), r + around = 4 → itSp ms r (d + r + 3) (nI around) := by
  intro r
  induction r with
  | zero =>
    intro around hr
    show itSp ms 0 (d + 3) (nI around)
    intro i p S V H E N M h hb hi hp
    have h8 := hb.2.2.2.2.1
    have hcap := hb.len
    obtain ⟨M1, f1, hh⟩ := i_head (d := d) h hb (by omega) (by omega)
    have k1 : (S.map Value.int).length = 400 := by rw [List.length_map, h.ln.1]
    have f1' : mq_fr [36, 37, 38, 39, 40, 41] M M1 := f1.mono (by simp)
    rcases hh with ⟨hok, v1, u1⟩ | ⟨hno, v1, p', u1⟩
    · have hk := hok.1
      have hkc := hk.c
      have hB := ms_by h8 p
      have hS8 : cbS ms p < 8 := by unfold cbS; omega
      have ls := List.getElem?_set_self (l := S) (a := nI (cbS ms p)) (show i < S.length by rw [h.ln.1]; omega)
      have lv := List.getElem?_set_self (l := V) (a := nI (cbV ms p)) (show i < V.length by rw [h.ln.2.1]; omega)
      have lh := List.getElem?_set_self (l := H) (a := nI p) (show i < H.length by rw [h.ln.2.2.1]; omega)
      have bs := ai_at ls
      have bv := ai_at lv
      have a1 := u1.aS
      have a2 := u1.aV
      have k1' : ((S.set i (nI (cbS ms p))).map Value.int).length = 400 := by rw [List.length_map, List.length_set, h.ln.1]
      have k2' : ((V.set i (nI (cbV ms p))).map Value.int).length = 400 := by rw [List.length_map, List.length_set, h.ln.2.1]
      by_cases h23 : cbS ms p = 2 ∨ cbS ms p = 3
      · have hin := hk.2.2.2.2.2.2.2 h23
        have u2 := u1.pl (nI (i + 1)) (nI (cbC ms p + cbV ms p))
        obtain ⟨M3, r3, f3, S', V', H', E', N', ok⟩ := i_fin (d := d + 2) (r := 0) h8 hk u2 head_sm ls lv lh (by omega) hi hin (by omega) hcap (fun tb z1 z2 => ⟨hk, z2, by rw [if_pos h23]; exact ⟨rfl, rfl⟩⟩) (fun k k1 k2 => by omega)
        have hrun : mj_V (d + 3) 81 [.ref 36, .int (nI around)] M = some (some (.int 1), M3) := by
          generalize (S.set i (nI (cbS ms p))).map Value.int = Z1 at *
          generalize (V.set i (nI (cbV ms p))).map Value.int = Z2 at *
          rcases h23 with h2 | h2 <;> rw [h2] at bs
          · simp (disch := (first | omega | decide)) [c81, s81_0, s81_1, s81_4, s81_5, s81_6, s81_9, s81_10, s81_11, s81_14, s81_15, s81_18, s81_19, s81_20, s81_23, s81_24, s81_25, s81_26, s81_29, s81_30, s81_31, s81_32, s81_33, s81_36, s81_37, s81_38, s81_40, s81_41, s81_42, s81_45, s81_46, s81_47, s81_50, s81_51, s81_52, s81_55, s81_57, s81_58, s81_61, s81_64, s81_65, s81_66, s81_69, s81_70, s81_71, s81_74, s81_75, s81_76, s81_79, s81_80, s81_81, s81_82, s81_84, s81_85, s81_89, s81_91, s81_94, s81_95, s81_98, s81_100, s81_101, s81_102, s81_105, s81_106, s81_107, s81_108, s81_109, s81_112, s81_115, s81_116, s81_118, s81_120, s81_123, s81_126, s81_127, s81_128, s81_130, s81_132, s81_133, s81_134, s81_135, s81_136, s81_139, s81_142, s81_143, s81_144, s81_147, s81_151, s81_154, s81_155, s81_156, s81_159, s81_160, s81_161, s81_164, s81_165, s81_166, s81_169, s81_170, s81_171, mq_k0s, mq_k1s, mq_k2s, mq_k4s, mq_k5s, mq_k5n, mq_k5as, mq_k6s, mj_pu, mj_lo, mj_br, mj_hr, mj_hw, mq_gf, mq_len, mq_al, mq_pf, mq_ok, mj_re, mq_lkm, mq_lkn, mj_ldi, mj_ldl, mj_lda, mj_ii, mj_ll, mj_li, mj_i1, ms_1, ms_2, f1_n, f1_i, f1_r, f1_u, f1_l, f2_n, f2_i, f2_r, f2_u, f2_l, mj_tg, mj_c1, mj_c2, mj_ar, mj_aw, mq_cb, mq_oi, mj_rm, Value.category, -getElem?_pos, List.getElem?_cons_zero, decide_eq_true, decide_eq_false, nl_lt, nl_le, ln_lt, ln_le, nl_eq, ln_eq, nl_add, ln_add, nl_sub, ln_mul, nI_sub, nI_mul, nI_add, nI_lt_iff, nI_le_iff, nI_inj, nI_num, mq_ix, nI_1, h.ob, v1, u1.ob, a1, a2, k1', k2', bs, bv, mj_E]
            refine mq_wk ?_ r3
            simp [mq_sub, mj_lk]
          · simp (disch := (first | omega | decide)) [c81, s81_0, s81_1, s81_4, s81_5, s81_6, s81_9, s81_10, s81_11, s81_14, s81_15, s81_18, s81_19, s81_20, s81_23, s81_24, s81_25, s81_26, s81_29, s81_30, s81_31, s81_32, s81_33, s81_36, s81_37, s81_38, s81_40, s81_41, s81_42, s81_45, s81_46, s81_47, s81_50, s81_51, s81_52, s81_55, s81_57, s81_58, s81_61, s81_64, s81_65, s81_66, s81_69, s81_70, s81_71, s81_74, s81_75, s81_76, s81_79, s81_80, s81_81, s81_82, s81_84, s81_85, s81_89, s81_91, s81_94, s81_95, s81_98, s81_100, s81_101, s81_102, s81_105, s81_106, s81_107, s81_108, s81_109, s81_112, s81_115, s81_116, s81_118, s81_120, s81_123, s81_126, s81_127, s81_128, s81_130, s81_132, s81_133, s81_134, s81_135, s81_136, s81_139, s81_142, s81_143, s81_144, s81_147, s81_151, s81_154, s81_155, s81_156, s81_159, s81_160, s81_161, s81_164, s81_165, s81_166, s81_169, s81_170, s81_171, mq_k0s, mq_k1s, mq_k2s, mq_k4s, mq_k5s, mq_k5n, mq_k5as, mq_k6s, mj_pu, mj_lo, mj_br, mj_hr, mj_hw, mq_gf, mq_len, mq_al, mq_pf, mq_ok, mj_re, mq_lkm, mq_lkn, mj_ldi, mj_ldl, mj_lda, mj_ii, mj_ll, mj_li, mj_i1, ms_1, ms_2, f1_n, f1_i, f1_r, f1_u, f1_l, f2_n, f2_i, f2_r, f2_u, f2_l, mj_tg, mj_c1, mj_c2, mj_ar, mj_aw, mq_cb, mq_oi, mj_rm, Value.category, -getElem?_pos, List.getElem?_cons_zero, decide_eq_true, decide_eq_false, nl_lt, nl_le, ln_lt, ln_le, nl_eq, ln_eq, nl_add, ln_add, nl_sub, ln_mul, nI_sub, nI_mul, nI_add, nI_lt_iff, nI_le_iff, nI_inj, nI_num, mq_ix, nI_1, h.ob, v1, u1.ob, a1, a2, k1', k2', bs, bv, mj_E]
            refine mq_wk ?_ r3
            simp [mq_sub, mj_lk]
        refine ⟨M3, (f1'.set (by simp)).tr f3, Or.inl ⟨_, _, S', V', H', E', N', ?_, hrun, ok⟩⟩
        unfold cbI
        rw [if_neg (not_not_intro hk), if_pos h23]
      · by_cases h45 : cbS ms p = 4 ∨ cbS ms p = 5
        · have e4 : around = 4 := by omega
          subst e4
          refine ⟨M1, f1', Or.inr ⟨by unfold cbI; rw [if_neg (not_not_intro hk), if_neg h23, if_pos h45], ?_, _, _, _, _, _, _, _, u1⟩⟩
          generalize (S.set i (nI (cbS ms p))).map Value.int = Z1 at *
          generalize (V.set i (nI (cbV ms p))).map Value.int = Z2 at *
          rcases h45 with h2 | h2 <;> rw [h2] at bs
          · simp (disch := (first | omega | decide)) [c81, s81_0, s81_1, s81_4, s81_5, s81_6, s81_9, s81_10, s81_11, s81_14, s81_15, s81_18, s81_19, s81_20, s81_23, s81_24, s81_25, s81_26, s81_29, s81_30, s81_31, s81_32, s81_33, s81_36, s81_37, s81_38, s81_40, s81_41, s81_42, s81_45, s81_46, s81_47, s81_50, s81_51, s81_52, s81_55, s81_57, s81_58, s81_61, s81_64, s81_65, s81_66, s81_69, s81_70, s81_71, s81_74, s81_75, s81_76, s81_79, s81_80, s81_81, s81_82, s81_84, s81_85, s81_89, s81_91, s81_94, s81_95, s81_98, s81_100, s81_101, s81_102, s81_105, s81_106, s81_107, s81_108, s81_109, s81_112, s81_115, s81_116, s81_118, s81_120, s81_123, s81_126, s81_127, s81_128, s81_130, s81_132, s81_133, s81_134, s81_135, s81_136, s81_139, s81_142, s81_143, s81_144, s81_147, s81_151, s81_154, s81_155, s81_156, s81_159, s81_160, s81_161, s81_164, s81_165, s81_166, s81_169, s81_170, s81_171, mq_k0s, mq_k1s, mq_k2s, mq_k4s, mq_k5s, mq_k5n, mq_k5as, mq_k6s, mj_pu, mj_lo, mj_br, mj_hr, mj_hw, mq_gf, mq_len, mq_al, mq_pf, mq_ok, mj_re, mq_lkm, mq_lkn, mj_ldi, mj_ldl, mj_lda, mj_ii, mj_ll, mj_li, mj_i1, ms_1, ms_2, f1_n, f1_i, f1_r, f1_u, f1_l, f2_n, f2_i, f2_r, f2_u, f2_l, mj_tg, mj_c1, mj_c2, mj_ar, mj_aw, mq_cb, mq_oi, mj_rm, Value.category, -getElem?_pos, List.getElem?_cons_zero, decide_eq_true, decide_eq_false, nl_lt, nl_le, ln_lt, ln_le, nl_eq, ln_eq, nl_add, ln_add, nl_sub, ln_mul, nI_sub, nI_mul, nI_add, nI_lt_iff, nI_le_iff, nI_inj, nI_num, mq_ix, nI_1, h.ob, v1, u1.ob, a1, a2, k1', k2', bs, bv, mj_E, narrow_b0]
          · simp (disch := (first | omega | decide)) [c81, s81_0, s81_1, s81_4, s81_5, s81_6, s81_9, s81_10, s81_11, s81_14, s81_15, s81_18, s81_19, s81_20, s81_23, s81_24, s81_25, s81_26, s81_29, s81_30, s81_31, s81_32, s81_33, s81_36, s81_37, s81_38, s81_40, s81_41, s81_42, s81_45, s81_46, s81_47, s81_50, s81_51, s81_52, s81_55, s81_57, s81_58, s81_61, s81_64, s81_65, s81_66, s81_69, s81_70, s81_71, s81_74, s81_75, s81_76, s81_79, s81_80, s81_81, s81_82, s81_84, s81_85, s81_89, s81_91, s81_94, s81_95, s81_98, s81_100, s81_101, s81_102, s81_105, s81_106, s81_107, s81_108, s81_109, s81_112, s81_115, s81_116, s81_118, s81_120, s81_123, s81_126, s81_127, s81_128, s81_130, s81_132, s81_133, s81_134, s81_135, s81_136, s81_139, s81_142, s81_143, s81_144, s81_147, s81_151, s81_154, s81_155, s81_156, s81_159, s81_160, s81_161, s81_164, s81_165, s81_166, s81_169, s81_170, s81_171, mq_k0s, mq_k1s, mq_k2s, mq_k4s, mq_k5s, mq_k5n, mq_k5as, mq_k6s, mj_pu, mj_lo, mj_br, mj_hr, mj_hw, mq_gf, mq_len, mq_al, mq_pf, mq_ok, mj_re, mq_lkm, mq_lkn, mj_ldi, mj_ldl, mj_lda, mj_ii, mj_ll, mj_li, mj_i1, ms_1, ms_2, f1_n, f1_i, f1_r, f1_u, f1_l, f2_n, f2_i, f2_r, f2_u, f2_l, mj_tg, mj_c1, mj_c2, mj_ar, mj_aw, mq_cb, mq_oi, mj_rm, Value.category, -getElem?_pos, List.getElem?_cons_zero, decide_eq_true, decide_eq_false, nl_lt, nl_le, ln_lt, ln_le, nl_eq, ln_eq, nl_add, ln_add, nl_sub, ln_mul, nI_sub, nI_mul, nI_add, nI_lt_iff, nI_le_iff, nI_inj, nI_num, mq_ix, nI_1, h.ob, v1, u1.ob, a1, a2, k1', k2', bs, bv, mj_E, narrow_b0]
        · obtain ⟨M3, r3, f3, S', V', H', E', N', ok⟩ := i_fin (d := d + 2) (r := 0) h8 hk u1 head_sm ls lv lh (by omega) hi hkc.2 (by omega) hcap (fun tb z1 z2 => ⟨hk, z2, by rw [if_neg h23, if_neg h45]; exact ⟨rfl, rfl⟩⟩) (fun k k1 k2 => by omega)
          have hrun : mj_V (d + 3) 81 [.ref 36, .int (nI around)] M = some (some (.int 1), M3) := by
            generalize (S.set i (nI (cbS ms p))).map Value.int = Z1 at *
            generalize (V.set i (nI (cbV ms p))).map Value.int = Z2 at *
            simp (disch := (first | omega | decide)) [c81, s81_0, s81_1, s81_4, s81_5, s81_6, s81_9, s81_10, s81_11, s81_14, s81_15, s81_18, s81_19, s81_20, s81_23, s81_24, s81_25, s81_26, s81_29, s81_30, s81_31, s81_32, s81_33, s81_36, s81_37, s81_38, s81_40, s81_41, s81_42, s81_45, s81_46, s81_47, s81_50, s81_51, s81_52, s81_55, s81_57, s81_58, s81_61, s81_64, s81_65, s81_66, s81_69, s81_70, s81_71, s81_74, s81_75, s81_76, s81_79, s81_80, s81_81, s81_82, s81_84, s81_85, s81_89, s81_91, s81_94, s81_95, s81_98, s81_100, s81_101, s81_102, s81_105, s81_106, s81_107, s81_108, s81_109, s81_112, s81_115, s81_116, s81_118, s81_120, s81_123, s81_126, s81_127, s81_128, s81_130, s81_132, s81_133, s81_134, s81_135, s81_136, s81_139, s81_142, s81_143, s81_144, s81_147, s81_151, s81_154, s81_155, s81_156, s81_159, s81_160, s81_161, s81_164, s81_165, s81_166, s81_169, s81_170, s81_171, mq_k0s, mq_k1s, mq_k2s, mq_k4s, mq_k5s, mq_k5n, mq_k5as, mq_k6s, mj_pu, mj_lo, mj_br, mj_hr, mj_hw, mq_gf, mq_len, mq_al, mq_pf, mq_ok, mj_re, mq_lkm, mq_lkn, mj_ldi, mj_ldl, mj_lda, mj_ii, mj_ll, mj_li, mj_i1, ms_1, ms_2, f1_n, f1_i, f1_r, f1_u, f1_l, f2_n, f2_i, f2_r, f2_u, f2_l, mj_tg, mj_c1, mj_c2, mj_ar, mj_aw, mq_cb, mq_oi, mj_rm, Value.category, -getElem?_pos, List.getElem?_cons_zero, decide_eq_true, decide_eq_false, nl_lt, nl_le, ln_lt, ln_le, nl_eq, ln_eq, nl_add, ln_add, nl_sub, ln_mul, nI_sub, nI_mul, nI_add, nI_lt_iff, nI_le_iff, nI_inj, nI_num, mq_ix, nI_1, h.ob, v1, u1.ob, a1, a2, k1', k2', bs, bv, mj_E, show ¬ cbS ms p = 2 by omega, show ¬ cbS ms p = 3 by omega, show ¬ cbS ms p = 4 by omega, show ¬ cbS ms p = 5 by omega]
            refine mq_wk ?_ r3
            simp [mq_sub, mj_lk]
          refine ⟨M3, f1'.tr f3, Or.inl ⟨_, _, S', V', H', E', N', ?_, hrun, ok⟩⟩
          unfold cbI
          rw [if_neg (not_not_intro hk), if_neg h23, if_neg h45]
    · refine ⟨M1, f1', Or.inr ⟨cbI_no hno, ?_, _, _, _, _, _, _, _, u1⟩⟩
      simp (disch := (first | omega | decide)) [c81, s81_0, s81_1, s81_4, s81_5, s81_6, s81_9, s81_10, s81_11, s81_14, s81_15, s81_18, s81_19, s81_20, s81_23, s81_24, s81_25, s81_26, s81_29, s81_30, s81_31, s81_32, s81_33, s81_36, s81_37, s81_38, s81_40, s81_41, s81_42, s81_45, s81_46, s81_47, s81_50, s81_51, s81_52, s81_55, s81_57, s81_58, s81_61, s81_64, s81_65, s81_66, s81_69, s81_70, s81_71, s81_74, s81_75, s81_76, s81_79, s81_80, s81_81, s81_82, s81_84, s81_85, s81_89, s81_91, s81_94, s81_95, s81_98, s81_100, s81_101, s81_102, s81_105, s81_106, s81_107, s81_108, s81_109, s81_112, s81_115, s81_116, s81_118, s81_120, s81_123, s81_126, s81_127, s81_128, s81_130, s81_132, s81_133, s81_134, s81_135, s81_136, s81_139, s81_142, s81_143, s81_144, s81_147, s81_151, s81_154, s81_155, s81_156, s81_159, s81_160, s81_161, s81_164, s81_165, s81_166, s81_169, s81_170, s81_171, mq_k0s, mq_k1s, mq_k2s, mq_k4s, mq_k5s, mq_k5n, mq_k5as, mq_k6s, mj_pu, mj_lo, mj_br, mj_hr, mj_hw, mq_gf, mq_len, mq_al, mq_pf, mq_ok, mj_re, mq_lkm, mq_lkn, mj_ldi, mj_ldl, mj_lda, mj_ii, mj_ll, mj_li, mj_i1, ms_1, ms_2, f1_n, f1_i, f1_r, f1_u, f1_l, f2_n, f2_i, f2_r, f2_u, f2_l, mj_tg, mj_c1, mj_c2, mj_ar, mj_aw, mq_cb, mq_oi, mj_rm, Value.category, -getElem?_pos, List.getElem?_cons_zero, decide_eq_true, decide_eq_false, nl_lt, nl_le, ln_lt, ln_le, nl_eq, ln_eq, nl_add, ln_add, nl_sub, ln_mul, nI_sub, nI_mul, nI_add, nI_lt_iff, nI_le_iff, nI_inj, nI_num, mq_ix, nI_1, h.ob, v1, show (-1 : Int32) < 0 from by decide, narrow_b0]
  | succ r ih =>
    intro around hr
    rw [show d + (r + 1) + 3 = d + r + 4 by omega]
    generalize d + r = e at *
    intro i p S V H E N M h hb hi hp
    have h8 := hb.2.2.2.2.1
    have hcap := hb.len
    obtain ⟨M1, f1, hh⟩ := i_head (d := e + 1) h hb (by omega) (by omega)
    have f1' : mq_fr [36, 37, 38, 39, 40, 41] M M1 := f1.mono (by simp)
    rcases hh with ⟨hok, v1, u1⟩ | ⟨hno, v1, p', u1⟩
    · have hk := hok.1
      have hkc := hk.c
      have hB := ms_by h8 p
      have hS8 : cbS ms p < 8 := by unfold cbS; omega
      have ls := List.getElem?_set_self (l := S) (a := nI (cbS ms p)) (show i < S.length by rw [h.ln.1]; omega)
      have lv := List.getElem?_set_self (l := V) (a := nI (cbV ms p)) (show i < V.length by rw [h.ln.2.1]; omega)
      have lh := List.getElem?_set_self (l := H) (a := nI p) (show i < H.length by rw [h.ln.2.2.1]; omega)
      have bs := ai_at ls
      have bv := ai_at lv
      have a1 := u1.aS
      have a2 := u1.aV
      have k1' : ((S.set i (nI (cbS ms p))).map Value.int).length = 400 := by rw [List.length_map, List.length_set, h.ln.1]
      have k2' : ((V.set i (nI (cbV ms p))).map Value.int).length = 400 := by rw [List.length_map, List.length_set, h.ln.2.1]
      by_cases h23 : cbS ms p = 2 ∨ cbS ms p = 3
      · have hin := hk.2.2.2.2.2.2.2 h23
        have u2 := u1.pl (nI (i + 1)) (nI (cbC ms p + cbV ms p))
        obtain ⟨M3, r3, f3, S', V', H', E', N', ok⟩ := i_fin (d := e + 3) (r := r + 1) h8 hk u2 head_sm ls lv lh (by omega) hi hin (by omega) hcap (fun tb z1 z2 => ⟨hk, z2, by rw [if_pos h23]; exact ⟨rfl, rfl⟩⟩) (fun k k1 k2 => by omega)
        have hrun : mj_V (e + 4) 81 [.ref 36, .int (nI around)] M = some (some (.int 1), M3) := by
          generalize (S.set i (nI (cbS ms p))).map Value.int = Z1 at *
          generalize (V.set i (nI (cbV ms p))).map Value.int = Z2 at *
          rcases h23 with h2 | h2 <;> rw [h2] at bs
          · simp (disch := (first | omega | decide)) [c81, s81_0, s81_1, s81_4, s81_5, s81_6, s81_9, s81_10, s81_11, s81_14, s81_15, s81_18, s81_19, s81_20, s81_23, s81_24, s81_25, s81_26, s81_29, s81_30, s81_31, s81_32, s81_33, s81_36, s81_37, s81_38, s81_40, s81_41, s81_42, s81_45, s81_46, s81_47, s81_50, s81_51, s81_52, s81_55, s81_57, s81_58, s81_61, s81_64, s81_65, s81_66, s81_69, s81_70, s81_71, s81_74, s81_75, s81_76, s81_79, s81_80, s81_81, s81_82, s81_84, s81_85, s81_89, s81_91, s81_94, s81_95, s81_98, s81_100, s81_101, s81_102, s81_105, s81_106, s81_107, s81_108, s81_109, s81_112, s81_115, s81_116, s81_118, s81_120, s81_123, s81_126, s81_127, s81_128, s81_130, s81_132, s81_133, s81_134, s81_135, s81_136, s81_139, s81_142, s81_143, s81_144, s81_147, s81_151, s81_154, s81_155, s81_156, s81_159, s81_160, s81_161, s81_164, s81_165, s81_166, s81_169, s81_170, s81_171, mq_k0s, mq_k1s, mq_k2s, mq_k4s, mq_k5s, mq_k5n, mq_k5as, mq_k6s, mj_pu, mj_lo, mj_br, mj_hr, mj_hw, mq_gf, mq_len, mq_al, mq_pf, mq_ok, mj_re, mq_lkm, mq_lkn, mj_ldi, mj_ldl, mj_lda, mj_ii, mj_ll, mj_li, mj_i1, ms_1, ms_2, f1_n, f1_i, f1_r, f1_u, f1_l, f2_n, f2_i, f2_r, f2_u, f2_l, mj_tg, mj_c1, mj_c2, mj_ar, mj_aw, mq_cb, mq_oi, mj_rm, Value.category, -getElem?_pos, List.getElem?_cons_zero, decide_eq_true, decide_eq_false, nl_lt, nl_le, ln_lt, ln_le, nl_eq, ln_eq, nl_add, ln_add, nl_sub, ln_mul, nI_sub, nI_mul, nI_add, nI_lt_iff, nI_le_iff, nI_inj, nI_num, mq_ix, nI_1, h.ob, v1, u1.ob, a1, a2, k1', k2', bs, bv, mj_E]
            refine mq_wk ?_ r3
            simp [mq_sub, mj_lk]
          · simp (disch := (first | omega | decide)) [c81, s81_0, s81_1, s81_4, s81_5, s81_6, s81_9, s81_10, s81_11, s81_14, s81_15, s81_18, s81_19, s81_20, s81_23, s81_24, s81_25, s81_26, s81_29, s81_30, s81_31, s81_32, s81_33, s81_36, s81_37, s81_38, s81_40, s81_41, s81_42, s81_45, s81_46, s81_47, s81_50, s81_51, s81_52, s81_55, s81_57, s81_58, s81_61, s81_64, s81_65, s81_66, s81_69, s81_70, s81_71, s81_74, s81_75, s81_76, s81_79, s81_80, s81_81, s81_82, s81_84, s81_85, s81_89, s81_91, s81_94, s81_95, s81_98, s81_100, s81_101, s81_102, s81_105, s81_106, s81_107, s81_108, s81_109, s81_112, s81_115, s81_116, s81_118, s81_120, s81_123, s81_126, s81_127, s81_128, s81_130, s81_132, s81_133, s81_134, s81_135, s81_136, s81_139, s81_142, s81_143, s81_144, s81_147, s81_151, s81_154, s81_155, s81_156, s81_159, s81_160, s81_161, s81_164, s81_165, s81_166, s81_169, s81_170, s81_171, mq_k0s, mq_k1s, mq_k2s, mq_k4s, mq_k5s, mq_k5n, mq_k5as, mq_k6s, mj_pu, mj_lo, mj_br, mj_hr, mj_hw, mq_gf, mq_len, mq_al, mq_pf, mq_ok, mj_re, mq_lkm, mq_lkn, mj_ldi, mj_ldl, mj_lda, mj_ii, mj_ll, mj_li, mj_i1, ms_1, ms_2, f1_n, f1_i, f1_r, f1_u, f1_l, f2_n, f2_i, f2_r, f2_u, f2_l, mj_tg, mj_c1, mj_c2, mj_ar, mj_aw, mq_cb, mq_oi, mj_rm, Value.category, -getElem?_pos, List.getElem?_cons_zero, decide_eq_true, decide_eq_false, nl_lt, nl_le, ln_lt, ln_le, nl_eq, ln_eq, nl_add, ln_add, nl_sub, ln_mul, nI_sub, nI_mul, nI_add, nI_lt_iff, nI_le_iff, nI_inj, nI_num, mq_ix, nI_1, h.ob, v1, u1.ob, a1, a2, k1', k2', bs, bv, mj_E]
            refine mq_wk ?_ r3
            simp [mq_sub, mj_lk]
        refine ⟨M3, (f1'.set (by simp)).tr f3, Or.inl ⟨_, _, S', V', H', E', N', ?_, hrun, ok⟩⟩
        unfold cbI
        rw [if_neg (not_not_intro hk), if_pos h23]
      · by_cases h45 : cbS ms p = 4 ∨ cbS ms p = 5
        · have hb1 : bb M1 28 29 400 ms := hb.fr (f1.2 28 (by simp)) (f1.2 29 (by simp))
          have hsv : nI (cbS ms p) = if decide (cbS ms p = 5) = true then 5 else 4 := by
            rcases h45 with h2 | h2 <;> rw [h2] <;> rfl
          have hI : itSp ms r (e + 3) (nI around + 1) := by rw [nI_1]; exact ih (around + 1) (by omega)
          obtain ⟨M2, f2, hl⟩ := l_item (d := e + 2) (i := i) (r := r) (n := cbV ms p) (around := around) (ms := ms) hI (by omega) (decide (cbS ms p = 5)) (nI (cbS ms p)) hsv hk.2.2.2.2.2.1 (cbC ms p) (by omega) (cbV ms p) 0 (i + 1) (cbC ms p) none (-1) _ _ _ _ _ M1 [] (by omega) u1 hb1 (by omega) hkc.2 (by omega) (by split <;> exact ⟨rfl, rfl⟩) (fun k k1 k2 => by omega) (fun _ => Or.inl ⟨rfl, rfl⟩) (fun _ => rfl)
          have hcb : cbI ms (r + 1) p = cbQ (cbI ms r) ms (decide (cbS ms p = 5)) (cbV ms p) none (cbC ms p) := by
            rw [cbI, if_neg (not_not_intro hk), if_neg h23, if_pos h45]
          have step : ∀ res, mj_Rn (e + 3) mj_m81 87 [(6, .int (nI 0)), (5, .int (-1)), (4, .int (nI (cbV ms p))), (3, .int (nI (cbS ms p))), (2, .int (nI i)), (0, .ref 36), (1, .int (nI around))] [] M1 = some res → mj_V (e + 4) 81 [.ref 36, .int (nI around)] M = some res := by
            intro res hres
            rw [nI_0] at hres
            generalize (S.set i (nI (cbS ms p))).map Value.int = Z1 at *
            generalize (V.set i (nI (cbV ms p))).map Value.int = Z2 at *
            rcases h45 with h2 | h2 <;> rw [h2] at bs hres
            · simp (disch := (first | omega | decide)) [c81, s81_0, s81_1, s81_4, s81_5, s81_6, s81_9, s81_10, s81_11, s81_14, s81_15, s81_18, s81_19, s81_20, s81_23, s81_24, s81_25, s81_26, s81_29, s81_30, s81_31, s81_32, s81_33, s81_36, s81_37, s81_38, s81_40, s81_41, s81_42, s81_45, s81_46, s81_47, s81_50, s81_51, s81_52, s81_55, s81_57, s81_58, s81_61, s81_64, s81_65, s81_66, s81_69, s81_70, s81_71, s81_74, s81_75, s81_76, s81_79, s81_80, s81_81, s81_82, s81_84, s81_85, s81_89, s81_91, s81_94, s81_95, s81_98, s81_100, s81_101, s81_102, s81_105, s81_106, s81_107, s81_108, s81_109, s81_112, s81_115, s81_116, s81_118, s81_120, s81_123, s81_126, s81_127, s81_128, s81_130, s81_132, s81_133, s81_134, s81_135, s81_136, s81_139, s81_142, s81_143, s81_144, s81_147, s81_151, s81_154, s81_155, s81_156, s81_159, s81_160, s81_161, s81_164, s81_165, s81_166, s81_169, s81_170, s81_171, mq_k0s, mq_k1s, mq_k2s, mq_k4s, mq_k5s, mq_k5n, mq_k5as, mq_k6s, mj_pu, mj_lo, mj_br, mj_hr, mj_hw, mq_gf, mq_len, mq_al, mq_pf, mq_ok, mj_re, mq_lkm, mq_lkn, mj_ldi, mj_ldl, mj_lda, mj_ii, mj_ll, mj_li, mj_i1, ms_1, ms_2, f1_n, f1_i, f1_r, f1_u, f1_l, f2_n, f2_i, f2_r, f2_u, f2_l, mj_tg, mj_c1, mj_c2, mj_ar, mj_aw, mq_cb, mq_oi, mj_rm, Value.category, -getElem?_pos, List.getElem?_cons_zero, decide_eq_true, decide_eq_false, nl_lt, nl_le, ln_lt, ln_le, nl_eq, ln_eq, nl_add, ln_add, nl_sub, ln_mul, nI_sub, nI_mul, nI_add, nI_lt_iff, nI_le_iff, nI_inj, nI_num, mq_ix, nI_1, h.ob, v1, u1.ob, a1, a2, k1', k2', bs, bv, mj_E]
              refine mq_wk ?_ hres
              simp [mq_sub, mj_lk]
            · simp (disch := (first | omega | decide)) [c81, s81_0, s81_1, s81_4, s81_5, s81_6, s81_9, s81_10, s81_11, s81_14, s81_15, s81_18, s81_19, s81_20, s81_23, s81_24, s81_25, s81_26, s81_29, s81_30, s81_31, s81_32, s81_33, s81_36, s81_37, s81_38, s81_40, s81_41, s81_42, s81_45, s81_46, s81_47, s81_50, s81_51, s81_52, s81_55, s81_57, s81_58, s81_61, s81_64, s81_65, s81_66, s81_69, s81_70, s81_71, s81_74, s81_75, s81_76, s81_79, s81_80, s81_81, s81_82, s81_84, s81_85, s81_89, s81_91, s81_94, s81_95, s81_98, s81_100, s81_101, s81_102, s81_105, s81_106, s81_107, s81_108, s81_109, s81_112, s81_115, s81_116, s81_118, s81_120, s81_123, s81_126, s81_127, s81_128, s81_130, s81_132, s81_133, s81_134, s81_135, s81_136, s81_139, s81_142, s81_143, s81_144, s81_147, s81_151, s81_154, s81_155, s81_156, s81_159, s81_160, s81_161, s81_164, s81_165, s81_166, s81_169, s81_170, s81_171, mq_k0s, mq_k1s, mq_k2s, mq_k4s, mq_k5s, mq_k5n, mq_k5as, mq_k6s, mj_pu, mj_lo, mj_br, mj_hr, mj_hw, mq_gf, mq_len, mq_al, mq_pf, mq_ok, mj_re, mq_lkm, mq_lkn, mj_ldi, mj_ldl, mj_lda, mj_ii, mj_ll, mj_li, mj_i1, ms_1, ms_2, f1_n, f1_i, f1_r, f1_u, f1_l, f2_n, f2_i, f2_r, f2_u, f2_l, mj_tg, mj_c1, mj_c2, mj_ar, mj_aw, mq_cb, mq_oi, mj_rm, Value.category, -getElem?_pos, List.getElem?_cons_zero, decide_eq_true, decide_eq_false, nl_lt, nl_le, ln_lt, ln_le, nl_eq, ln_eq, nl_add, ln_add, nl_sub, ln_mul, nI_sub, nI_mul, nI_add, nI_lt_iff, nI_le_iff, nI_inj, nI_num, mq_ix, nI_1, h.ob, v1, u1.ob, a1, a2, k1', k2', bs, bv, mj_E]
              refine mq_wk ?_ hres
              simp [mq_sub, mj_lk]
          rcases hl with ⟨q, j, S2, V2, H2, E2, N2, e2, v2, u2, s2, c2, t2, le2, lm2, ij2⟩ | ⟨e2, v2, w2⟩
          · obtain ⟨g1, g2, g3, g4, g5⟩ := s2 i (by omega)
            obtain ⟨M3, r3, f3, S', V', H', E', N', ok⟩ := i_fin (d := e + 3) (r := r + 1) h8 hk u2 (head_sm.tr (s2.mono (by omega)) (Nat.le_refl _)) (g1.trans ls) (g2.trans lv) (g3.trans lh) ij2 hi lm2 le2 hcap
              (fun tb z1 z2 => ⟨hk, z2, by
                rw [if_neg h23, if_pos h45]
                refine Ch_congr (Nd_lt r) _ _ _ _ _ (fun p i' q j' x1 x2 x3 => Nd_congr _ _ _ _ _ (fun k y1 y2 => z1 k (by omega) (by omega)) x3) ?_
                rcases h45 with h2 | h2 <;> simpa [h2] using c2⟩) t2
            exact ⟨M3, (f1'.tr f2).tr f3, Or.inl ⟨q, j, S', V', H', E', N', hcb.trans e2, step _ (v2 _ r3), ok⟩⟩
          · exact ⟨M2, f1'.tr f2, Or.inr ⟨hcb.trans e2, step _ v2, w2⟩⟩
        · obtain ⟨M3, r3, f3, S', V', H', E', N', ok⟩ := i_fin (d := e + 3) (r := r + 1) h8 hk u1 head_sm ls lv lh (by omega) hi hkc.2 (by omega) hcap (fun tb z1 z2 => ⟨hk, z2, by rw [if_neg h23, if_neg h45]; exact ⟨rfl, rfl⟩⟩) (fun k k1 k2 => by omega)
          have hrun : mj_V (e + 4) 81 [.ref 36, .int (nI around)] M = some (some (.int 1), M3) := by
            generalize (S.set i (nI (cbS ms p))).map Value.int = Z1 at *
            generalize (V.set i (nI (cbV ms p))).map Value.int = Z2 at *
            simp (disch := (first | omega | decide)) [c81, s81_0, s81_1, s81_4, s81_5, s81_6, s81_9, s81_10, s81_11, s81_14, s81_15, s81_18, s81_19, s81_20, s81_23, s81_24, s81_25, s81_26, s81_29, s81_30, s81_31, s81_32, s81_33, s81_36, s81_37, s81_38, s81_40, s81_41, s81_42, s81_45, s81_46, s81_47, s81_50, s81_51, s81_52, s81_55, s81_57, s81_58, s81_61, s81_64, s81_65, s81_66, s81_69, s81_70, s81_71, s81_74, s81_75, s81_76, s81_79, s81_80, s81_81, s81_82, s81_84, s81_85, s81_89, s81_91, s81_94, s81_95, s81_98, s81_100, s81_101, s81_102, s81_105, s81_106, s81_107, s81_108, s81_109, s81_112, s81_115, s81_116, s81_118, s81_120, s81_123, s81_126, s81_127, s81_128, s81_130, s81_132, s81_133, s81_134, s81_135, s81_136, s81_139, s81_142, s81_143, s81_144, s81_147, s81_151, s81_154, s81_155, s81_156, s81_159, s81_160, s81_161, s81_164, s81_165, s81_166, s81_169, s81_170, s81_171, mq_k0s, mq_k1s, mq_k2s, mq_k4s, mq_k5s, mq_k5n, mq_k5as, mq_k6s, mj_pu, mj_lo, mj_br, mj_hr, mj_hw, mq_gf, mq_len, mq_al, mq_pf, mq_ok, mj_re, mq_lkm, mq_lkn, mj_ldi, mj_ldl, mj_lda, mj_ii, mj_ll, mj_li, mj_i1, ms_1, ms_2, f1_n, f1_i, f1_r, f1_u, f1_l, f2_n, f2_i, f2_r, f2_u, f2_l, mj_tg, mj_c1, mj_c2, mj_ar, mj_aw, mq_cb, mq_oi, mj_rm, Value.category, -getElem?_pos, List.getElem?_cons_zero, decide_eq_true, decide_eq_false, nl_lt, nl_le, ln_lt, ln_le, nl_eq, ln_eq, nl_add, ln_add, nl_sub, ln_mul, nI_sub, nI_mul, nI_add, nI_lt_iff, nI_le_iff, nI_inj, nI_num, mq_ix, nI_1, h.ob, v1, u1.ob, a1, a2, k1', k2', bs, bv, mj_E, show ¬ cbS ms p = 2 by omega, show ¬ cbS ms p = 3 by omega, show ¬ cbS ms p = 4 by omega, show ¬ cbS ms p = 5 by omega]
            refine mq_wk ?_ r3
            simp [mq_sub, mj_lk]
          refine ⟨M3, f1'.tr f3, Or.inl ⟨_, _, S', V', H', E', N', ?_, hrun, ok⟩⟩
          rw [cbI, if_neg (not_not_intro hk), if_neg h23, if_neg h45]
    · refine ⟨M1, f1', Or.inr ⟨cbI_no hno, ?_, _, _, _, _, _, _, _, u1⟩⟩
      simp (disch := (first | omega | decide)) [c81, s81_0, s81_1, s81_4, s81_5, s81_6, s81_9, s81_10, s81_11, s81_14, s81_15, s81_18, s81_19, s81_20, s81_23, s81_24, s81_25, s81_26, s81_29, s81_30, s81_31, s81_32, s81_33, s81_36, s81_37, s81_38, s81_40, s81_41, s81_42, s81_45, s81_46, s81_47, s81_50, s81_51, s81_52, s81_55, s81_57, s81_58, s81_61, s81_64, s81_65, s81_66, s81_69, s81_70, s81_71, s81_74, s81_75, s81_76, s81_79, s81_80, s81_81, s81_82, s81_84, s81_85, s81_89, s81_91, s81_94, s81_95, s81_98, s81_100, s81_101, s81_102, s81_105, s81_106, s81_107, s81_108, s81_109, s81_112, s81_115, s81_116, s81_118, s81_120, s81_123, s81_126, s81_127, s81_128, s81_130, s81_132, s81_133, s81_134, s81_135, s81_136, s81_139, s81_142, s81_143, s81_144, s81_147, s81_151, s81_154, s81_155, s81_156, s81_159, s81_160, s81_161, s81_164, s81_165, s81_166, s81_169, s81_170, s81_171, mq_k0s, mq_k1s, mq_k2s, mq_k4s, mq_k5s, mq_k5n, mq_k5as, mq_k6s, mj_pu, mj_lo, mj_br, mj_hr, mj_hw, mq_gf, mq_len, mq_al, mq_pf, mq_ok, mj_re, mq_lkm, mq_lkn, mj_ldi, mj_ldl, mj_lda, mj_ii, mj_ll, mj_li, mj_i1, ms_1, ms_2, f1_n, f1_i, f1_r, f1_u, f1_l, f2_n, f2_i, f2_r, f2_u, f2_l, mj_tg, mj_c1, mj_c2, mj_ar, mj_aw, mq_cb, mq_oi, mj_rm, Value.category, -getElem?_pos, List.getElem?_cons_zero, decide_eq_true, decide_eq_false, nl_lt, nl_le, ln_lt, ln_le, nl_eq, ln_eq, nl_add, ln_add, nl_sub, ln_mul, nI_sub, nI_mul, nI_add, nI_lt_iff, nI_le_iff, nI_inj, nI_num, mq_ix, nI_1, h.ob, v1, show (-1 : Int32) < 0 from by decide, narrow_b0]
/-- all of a message behind its first byte is one canonical item -/
def cbMsg (ms : List Int32) : Prop := cbI ms 4 1 = some ms.length
/-- the table of a message's items -/
def im (M : mj_H) (ms : List Int32) : Prop := (∃ (j : Nat) (S V H E N : List Int32), iu M 28 (nI j) (nI ms.length) S V H E N ∧ Nd (tbA S V H E N) ms 4 1 0 ms.length j ∧ tks S V H E N 0 j ∧ j + 1 ≤ ms.length)
theorem im.w {M : mj_H} {ms : List Int32} (hh_ : im M ms) : ∃ (j : Nat) (S V H E N : List Int32), iu M 28 (nI j) (nI ms.length) S V H E N ∧ Nd (tbA S V H E N) ms 4 1 0 ms.length j ∧ tks S V H E N 0 j ∧ j + 1 ≤ ms.length := hh_
theorem im_mk_ {M : mj_H} {ms : List Int32} (f_0_ : ∃ (j : Nat) (S V H E N : List Int32), iu M 28 (nI j) (nI ms.length) S V H E N ∧ Nd (tbA S V H E N) ms 4 1 0 ms.length j ∧ tks S V H E N 0 j ∧ j + 1 ≤ ms.length) : im M ms := f_0_
/-- the object of items, whatever it holds -/
def iw (M : mj_H) : Prop := ∃ (src : Nat) (c p : Int32) (S V H E N : List Int32), iu M src c p S V H E N
theorem i_parse {d : Nat} {ms : List Int32} {M : mj_H} (h : iw M) (hb : bb M 28 29 400 ms) : ∃ M' : mj_H, mq_fr [36, 37, 38, 39, 40, 41] M M' ∧ ((cbMsg ms ∧ mj_V (d + 9) 80 [.ref 36, .ref 28] M = some (some (.int 1), M') ∧ im M' ms) ∨ (¬ cbMsg ms ∧ mj_V (d + 9) 80 [.ref 36, .ref 28] M = some (some (.int 0), M') ∧ iw M')) := by
  obtain ⟨src, c, p, S, V, H, E, N, hu⟩ := h
  have hcap := hb.len
  have l36 := mq_lt hu.ob
  let M1 : mj_H := M.set 36 (4, [.ref 37, .ref 38, .ref 39, .ref 40, .ref 41, .ref 28, .int 0, .int 1])
  have f0 : mq_fr [36, 37, 38, 39, 40, 41] M M1 := mq_fr.rf.set (by simp)
  have u1 : iu M1 28 (nI 0) (nI 1) S V H E N := by
    refine (iu_mk_ (List.getElem?_set_self l36) ?_ ?_ ?_ ?_ ?_ hu.ln)
    · exact (List.getElem?_set_ne (by omega)).trans hu.aS
    · exact (List.getElem?_set_ne (by omega)).trans hu.aV
    · exact (List.getElem?_set_ne (by omega)).trans hu.aH
    · exact (List.getElem?_set_ne (by omega)).trans hu.aE
    · exact (List.getElem?_set_ne (by omega)).trans hu.aN
  have hb1 : bb M1 28 29 400 ms := hb.fr (f0.2 28 (by simp)) (f0.2 29 (by simp))
  have e1 : M1[36]? = some (4, [.ref 37, .ref 38, .ref 39, .ref 40, .ref 41, .ref 28, .int 0, .int 1]) := u1.ob
  have hs : (((M.set 36 (4, [.ref 37, .ref 38, .ref 39, .ref 40, .ref 41, .ref 28, .int c, .int p])).set 36 (4, [.ref 37, .ref 38, .ref 39, .ref 40, .ref 41, .ref 28, .int 0, .int p])).set 36 (4, [.ref 37, .ref 38, .ref 39, .ref 40, .ref 41, .ref 28, .int 0, .int 1])) = M1 := by simp [M1]
  by_cases h1 : 1 ≤ ms.length
  · obtain ⟨M2, f2, hr⟩ := i_item (d := d + 1) 4 0 rfl 0 1 S V H E N M1 u1 hb1 (by omega) h1
    have hb2 : bb M2 28 29 400 ms := hb1.fr (f2.2 28 (by simp)) (f2.2 29 (by simp))
    have hsz := v_size (d := d + 7) hb2
    have h28 := hb2.2.2.2.2.2.1
    refine ⟨M2, f0.tr f2, ?_⟩
    rcases hr with ⟨q, j, S', V', H', E', N', e2, v2, ok⟩ | ⟨e2, v2, w2⟩
    · have hq := ok.lm
      rw [nI_0] at v2
      by_cases hql : q = ms.length
      · subst hql
        refine Or.inl ⟨e2, ?_, (im_mk_ (⟨j, S', V', H', E', N', ok.u, ok.nd, ok.tk, ok.le⟩))⟩
        simp (disch := (first | omega | decide)) [c80, s80_0, s80_1, s80_2, s80_5, s80_6, s80_7, s80_10, s80_11, s80_12, s80_15, s80_16, s80_17, s80_20, s80_23, s80_24, s80_27, s80_28, s80_31, s80_34, s80_35, s80_38, s80_39, mq_k0s, mq_k1s, mq_k2s, mq_k4s, mq_k5s, mq_k5n, mq_k5as, mq_k6s, mj_pu, mj_lo, mj_br, mj_hr, mj_hw, mq_gf, mq_len, mq_al, mq_pf, mq_ok, mj_re, mq_lkm, mq_lkn, mj_ldi, mj_ldl, mj_lda, mj_ii, mj_ll, mj_li, mj_i1, ms_1, ms_2, f1_n, f1_i, f1_r, f1_u, f1_l, f2_n, f2_i, f2_r, f2_u, f2_l, mj_tg, mj_c1, mj_c2, mj_ar, mj_aw, mq_cb, mq_oi, mj_rm, Value.category, -getElem?_pos, List.getElem?_cons_zero, decide_eq_true, decide_eq_false, nl_lt, nl_le, ln_lt, ln_le, nl_eq, ln_eq, nl_add, ln_add, nl_sub, ln_mul, nI_sub, nI_mul, nI_add, nI_lt_iff, nI_le_iff, nI_inj, nI_num, mq_ix, nI_1, hu.ob, mj_E, List.getElem?_set, l36, List.set_set]
        rw [show M.set 36 (4, [.ref 37, .ref 38, .ref 39, .ref 40, .ref 41, .ref 28, .int 0, .int 1]) = M1 from rfl]
        simp (disch := (first | omega | decide)) [s80_0, s80_1, s80_2, s80_5, s80_6, s80_7, s80_10, s80_11, s80_12, s80_15, s80_16, s80_17, s80_20, s80_23, s80_24, s80_27, s80_28, s80_31, s80_34, s80_35, s80_38, s80_39, mq_k0s, mq_k1s, mq_k2s, mq_k4s, mq_k5s, mq_k5n, mq_k5as, mq_k6s, mj_pu, mj_lo, mj_br, mj_hr, mj_hw, mq_gf, mq_len, mq_al, mq_pf, mq_ok, mj_re, mq_lkm, mq_lkn, mj_ldi, mj_ldl, mj_lda, mj_ii, mj_ll, mj_li, mj_i1, ms_1, ms_2, f1_n, f1_i, f1_r, f1_u, f1_l, f2_n, f2_i, f2_r, f2_u, f2_l, mj_tg, mj_c1, mj_c2, mj_ar, mj_aw, mq_cb, mq_oi, mj_rm, Value.category, -getElem?_pos, List.getElem?_cons_zero, decide_eq_true, decide_eq_false, nl_lt, nl_le, ln_lt, ln_le, nl_eq, ln_eq, nl_add, ln_add, nl_sub, ln_mul, nI_sub, nI_mul, nI_add, nI_lt_iff, nI_le_iff, nI_inj, nI_num, mq_ix, nI_1, e1, v2, ok.u.ob, h28, hsz, narrow_b1]
      · refine Or.inr ⟨fun z => hql (by unfold cbMsg at z; rw [e2] at z; exact Option.some.inj z), ?_, _, _, _, _, _, _, _, _, ok.u⟩
        simp (disch := (first | omega | decide)) [c80, s80_0, s80_1, s80_2, s80_5, s80_6, s80_7, s80_10, s80_11, s80_12, s80_15, s80_16, s80_17, s80_20, s80_23, s80_24, s80_27, s80_28, s80_31, s80_34, s80_35, s80_38, s80_39, mq_k0s, mq_k1s, mq_k2s, mq_k4s, mq_k5s, mq_k5n, mq_k5as, mq_k6s, mj_pu, mj_lo, mj_br, mj_hr, mj_hw, mq_gf, mq_len, mq_al, mq_pf, mq_ok, mj_re, mq_lkm, mq_lkn, mj_ldi, mj_ldl, mj_lda, mj_ii, mj_ll, mj_li, mj_i1, ms_1, ms_2, f1_n, f1_i, f1_r, f1_u, f1_l, f2_n, f2_i, f2_r, f2_u, f2_l, mj_tg, mj_c1, mj_c2, mj_ar, mj_aw, mq_cb, mq_oi, mj_rm, Value.category, -getElem?_pos, List.getElem?_cons_zero, decide_eq_true, decide_eq_false, nl_lt, nl_le, ln_lt, ln_le, nl_eq, ln_eq, nl_add, ln_add, nl_sub, ln_mul, nI_sub, nI_mul, nI_add, nI_lt_iff, nI_le_iff, nI_inj, nI_num, mq_ix, nI_1, hu.ob, mj_E, List.getElem?_set, l36, List.set_set]
        rw [show M.set 36 (4, [.ref 37, .ref 38, .ref 39, .ref 40, .ref 41, .ref 28, .int 0, .int 1]) = M1 from rfl]
        simp (disch := (first | omega | decide)) [s80_0, s80_1, s80_2, s80_5, s80_6, s80_7, s80_10, s80_11, s80_12, s80_15, s80_16, s80_17, s80_20, s80_23, s80_24, s80_27, s80_28, s80_31, s80_34, s80_35, s80_38, s80_39, mq_k0s, mq_k1s, mq_k2s, mq_k4s, mq_k5s, mq_k5n, mq_k5as, mq_k6s, mj_pu, mj_lo, mj_br, mj_hr, mj_hw, mq_gf, mq_len, mq_al, mq_pf, mq_ok, mj_re, mq_lkm, mq_lkn, mj_ldi, mj_ldl, mj_lda, mj_ii, mj_ll, mj_li, mj_i1, ms_1, ms_2, f1_n, f1_i, f1_r, f1_u, f1_l, f2_n, f2_i, f2_r, f2_u, f2_l, mj_tg, mj_c1, mj_c2, mj_ar, mj_aw, mq_cb, mq_oi, mj_rm, Value.category, -getElem?_pos, List.getElem?_cons_zero, decide_eq_true, decide_eq_false, nl_lt, nl_le, ln_lt, ln_le, nl_eq, ln_eq, nl_add, ln_add, nl_sub, ln_mul, nI_sub, nI_mul, nI_add, nI_lt_iff, nI_le_iff, nI_inj, nI_num, mq_ix, nI_1, e1, v2, ok.u.ob, h28, hsz, hql, narrow_b0]
    · rw [nI_0] at v2
      obtain ⟨c', p', S', V', H', E', N', w2⟩ := w2
      refine Or.inr ⟨(fun z => by unfold cbMsg at z; rw [e2] at z; cases z), ?_, _, _, _, _, _, _, _, _, w2⟩
      simp (disch := (first | omega | decide)) [c80, s80_0, s80_1, s80_2, s80_5, s80_6, s80_7, s80_10, s80_11, s80_12, s80_15, s80_16, s80_17, s80_20, s80_23, s80_24, s80_27, s80_28, s80_31, s80_34, s80_35, s80_38, s80_39, mq_k0s, mq_k1s, mq_k2s, mq_k4s, mq_k5s, mq_k5n, mq_k5as, mq_k6s, mj_pu, mj_lo, mj_br, mj_hr, mj_hw, mq_gf, mq_len, mq_al, mq_pf, mq_ok, mj_re, mq_lkm, mq_lkn, mj_ldi, mj_ldl, mj_lda, mj_ii, mj_ll, mj_li, mj_i1, ms_1, ms_2, f1_n, f1_i, f1_r, f1_u, f1_l, f2_n, f2_i, f2_r, f2_u, f2_l, mj_tg, mj_c1, mj_c2, mj_ar, mj_aw, mq_cb, mq_oi, mj_rm, Value.category, -getElem?_pos, List.getElem?_cons_zero, decide_eq_true, decide_eq_false, nl_lt, nl_le, ln_lt, ln_le, nl_eq, ln_eq, nl_add, ln_add, nl_sub, ln_mul, nI_sub, nI_mul, nI_add, nI_lt_iff, nI_le_iff, nI_inj, nI_num, mq_ix, nI_1, hu.ob, mj_E, List.getElem?_set, l36, List.set_set]
      rw [show M.set 36 (4, [.ref 37, .ref 38, .ref 39, .ref 40, .ref 41, .ref 28, .int 0, .int 1]) = M1 from rfl]
      simp (disch := (first | omega | decide)) [s80_0, s80_1, s80_2, s80_5, s80_6, s80_7, s80_10, s80_11, s80_12, s80_15, s80_16, s80_17, s80_20, s80_23, s80_24, s80_27, s80_28, s80_31, s80_34, s80_35, s80_38, s80_39, mq_k0s, mq_k1s, mq_k2s, mq_k4s, mq_k5s, mq_k5n, mq_k5as, mq_k6s, mj_pu, mj_lo, mj_br, mj_hr, mj_hw, mq_gf, mq_len, mq_al, mq_pf, mq_ok, mj_re, mq_lkm, mq_lkn, mj_ldi, mj_ldl, mj_lda, mj_ii, mj_ll, mj_li, mj_i1, ms_1, ms_2, f1_n, f1_i, f1_r, f1_u, f1_l, f2_n, f2_i, f2_r, f2_u, f2_l, mj_tg, mj_c1, mj_c2, mj_ar, mj_aw, mq_cb, mq_oi, mj_rm, Value.category, -getElem?_pos, List.getElem?_cons_zero, decide_eq_true, decide_eq_false, nl_lt, nl_le, ln_lt, ln_le, nl_eq, ln_eq, nl_add, ln_add, nl_sub, ln_mul, nI_sub, nI_mul, nI_add, nI_lt_iff, nI_le_iff, nI_inj, nI_num, mq_ix, nI_1, e1, v2, narrow_b0]
  · -- an empty message
    obtain ⟨M2, f2, hh⟩ := i_head (d := d + 5) u1 hb1 (by omega) (by omega)
    have hno : ¬ cbOl ms 1 := fun z => by have := z.1.1; omega
    rcases hh with ⟨hok, -, -⟩ | ⟨-, v2, p', u2⟩
    · exact absurd hok hno
    · refine ⟨M2, f0.tr (f2.mono (by simp)), Or.inr ⟨(fun z => by unfold cbMsg at z; rw [cbI_no hno] at z; cases z), ?_, _, _, _, _, _, _, _, _, u2⟩⟩
      have v3 : mj_V (d + 8) 81 [.ref 36, .int 0] M1 = some (some (.int 0), M2) := by
        simp (disch := (first | omega | decide)) [c81, s81_0, s81_1, s81_4, s81_5, s81_6, s81_9, s81_10, s81_11, s81_14, s81_15, s81_18, s81_19, s81_20, s81_23, s81_24, s81_25, s81_26, s81_29, s81_30, s81_31, s81_32, s81_33, s81_36, s81_37, s81_38, s81_40, s81_41, s81_42, s81_45, s81_46, s81_47, s81_50, s81_51, s81_52, s81_55, s81_57, s81_58, s81_61, s81_64, s81_65, s81_66, s81_69, s81_70, s81_71, s81_74, s81_75, s81_76, s81_79, s81_80, s81_81, s81_82, s81_84, s81_85, s81_89, s81_91, s81_94, s81_95, s81_98, s81_100, s81_101, s81_102, s81_105, s81_106, s81_107, s81_108, s81_109, s81_112, s81_115, s81_116, s81_118, s81_120, s81_123, s81_126, s81_127, s81_128, s81_130, s81_132, s81_133, s81_134, s81_135, s81_136, s81_139, s81_142, s81_143, s81_144, s81_147, s81_151, s81_154, s81_155, s81_156, s81_159, s81_160, s81_161, s81_164, s81_165, s81_166, s81_169, s81_170, s81_171, mq_k0s, mq_k1s, mq_k2s, mq_k4s, mq_k5s, mq_k5n, mq_k5as, mq_k6s, mj_pu, mj_lo, mj_br, mj_hr, mj_hw, mq_gf, mq_len, mq_al, mq_pf, mq_ok, mj_re, mq_lkm, mq_lkn, mj_ldi, mj_ldl, mj_lda, mj_ii, mj_ll, mj_li, mj_i1, ms_1, ms_2, f1_n, f1_i, f1_r, f1_u, f1_l, f2_n, f2_i, f2_r, f2_u, f2_l, mj_tg, mj_c1, mj_c2, mj_ar, mj_aw, mq_cb, mq_oi, mj_rm, Value.category, -getElem?_pos, List.getElem?_cons_zero, decide_eq_true, decide_eq_false, nl_lt, nl_le, ln_lt, ln_le, nl_eq, ln_eq, nl_add, ln_add, nl_sub, ln_mul, nI_sub, nI_mul, nI_add, nI_lt_iff, nI_le_iff, nI_inj, nI_num, mq_ix, nI_1, e1, v2, show (-1 : Int32) < 0 from by decide, narrow_b0]
      simp (disch := (first | omega | decide)) [c80, s80_0, s80_1, s80_2, s80_5, s80_6, s80_7, s80_10, s80_11, s80_12, s80_15, s80_16, s80_17, s80_20, s80_23, s80_24, s80_27, s80_28, s80_31, s80_34, s80_35, s80_38, s80_39, mq_k0s, mq_k1s, mq_k2s, mq_k4s, mq_k5s, mq_k5n, mq_k5as, mq_k6s, mj_pu, mj_lo, mj_br, mj_hr, mj_hw, mq_gf, mq_len, mq_al, mq_pf, mq_ok, mj_re, mq_lkm, mq_lkn, mj_ldi, mj_ldl, mj_lda, mj_ii, mj_ll, mj_li, mj_i1, ms_1, ms_2, f1_n, f1_i, f1_r, f1_u, f1_l, f2_n, f2_i, f2_r, f2_u, f2_l, mj_tg, mj_c1, mj_c2, mj_ar, mj_aw, mq_cb, mq_oi, mj_rm, Value.category, -getElem?_pos, List.getElem?_cons_zero, decide_eq_true, decide_eq_false, nl_lt, nl_le, ln_lt, ln_le, nl_eq, ln_eq, nl_add, ln_add, nl_sub, ln_mul, nI_sub, nI_mul, nI_add, nI_lt_iff, nI_le_iff, nI_inj, nI_num, mq_ix, nI_1, hu.ob, mj_E, List.getElem?_set, l36, List.set_set]
      rw [show M.set 36 (4, [.ref 37, .ref 38, .ref 39, .ref 40, .ref 41, .ref 28, .int 0, .int 1]) = M1 from rfl]
      simp (disch := (first | omega | decide)) [s80_0, s80_1, s80_2, s80_5, s80_6, s80_7, s80_10, s80_11, s80_12, s80_15, s80_16, s80_17, s80_20, s80_23, s80_24, s80_27, s80_28, s80_31, s80_34, s80_35, s80_38, s80_39, mq_k0s, mq_k1s, mq_k2s, mq_k4s, mq_k5s, mq_k5n, mq_k5as, mq_k6s, mj_pu, mj_lo, mj_br, mj_hr, mj_hw, mq_gf, mq_len, mq_al, mq_pf, mq_ok, mj_re, mq_lkm, mq_lkn, mj_ldi, mj_ldl, mj_lda, mj_ii, mj_ll, mj_li, mj_i1, ms_1, ms_2, f1_n, f1_i, f1_r, f1_u, f1_l, f2_n, f2_i, f2_r, f2_u, f2_l, mj_tg, mj_c1, mj_c2, mj_ar, mj_aw, mq_cb, mq_oi, mj_rm, Value.category, -getElem?_pos, List.getElem?_cons_zero, decide_eq_true, decide_eq_false, nl_lt, nl_le, ln_lt, ln_le, nl_eq, ln_eq, nl_add, ln_add, nl_sub, ln_mul, nI_sub, nI_mul, nI_add, nI_lt_iff, nI_le_iff, nI_inj, nI_num, mq_ix, nI_1, e1, v3, narrow_b0]
end
/- 65.items5 -/
section
set_option maxRecDepth 512
/-! Items by places: members and names. -/
theorem cbQ_mono {I I' : Nat → Option Nat} {ms : List Int32} {isMap : Bool} (hI : ∀ p q, I p = some q → I' p = some q) : ∀ (n : Nat) (k : Option (Nat × Nat)) (p q : Nat), cbQ I ms isMap n k p = some q → cbQ I' ms isMap n k p = some q := by
  intro n
  induction n with
  | zero => intro k p q h; exact h
  | succ n ih =>
    intro k p q h
    unfold cbQ at h ⊢
    split
    · next hm =>
      rw [if_pos hm] at h
      split at h
      · cases h
      · next q1 h1 =>
        rw [hI _ _ h1]
        dsimp only
        split at h
        · next hk =>
          rw [if_pos hk]
          split at h
          · cases h
          · next q2 h2 =>
            rw [hI _ _ h2]
            exact ih _ _ _ h
        · cases h
    · next hm =>
      rw [if_neg hm] at h
      split at h
      · cases h
      · next q1 h1 =>
        rw [hI _ _ h1]
        exact ih _ _ _ h
theorem cbI_mono {ms : List Int32} : ∀ (r p q : Nat), cbI ms r p = some q → cbI ms (r + 1) p = some q := by
  intro r
  induction r with
  | zero =>
    intro p q h
    unfold cbI at h ⊢
    split
    · next hk => rw [if_pos hk] at h; exact h
    · next hk =>
      rw [if_neg hk] at h
      split
      · next h2 => rw [if_pos h2] at h; exact h
      · next h2 =>
        rw [if_neg h2] at h
        split
        · next h4 => rw [if_pos h4] at h; cases h
        · next h4 => rw [if_neg h4] at h; exact h
  | succ r ih =>
    intro p q h
    unfold cbI at h ⊢
    split
    · next hk => rw [if_pos hk] at h; exact h
    · next hk =>
      rw [if_neg hk] at h
      split
      · next h2 => rw [if_pos h2] at h; exact h
      · next h2 =>
        rw [if_neg h2] at h
        split
        · next h4 => rw [if_pos h4] at h; exact cbQ_mono ih _ _ _ _ h
        · next h4 => rw [if_neg h4] at h; exact h
theorem cbI_le {ms : List Int32} {r r' p q : Nat} (h : cbI ms r p = some q) (hr : r ≤ r') : cbI ms r' p = some q := by
  induction r' with
  | zero => rw [Nat.le_zero.mp hr] at h; exact h
  | succ n ih =>
    by_cases he : r = n + 1
    · rw [← he]; exact h
    · exact cbI_mono _ _ _ (ih (by omega))
/-- where the item at p ends -/
def cbE (ms : List Int32) (p : Nat) : Nat := (cbI ms 4 p).getD 0
theorem cbE_eq {ms : List Int32} {r p q : Nat} (h : cbI ms r p = some q) (hr : r ≤ 4) : cbE ms p = q := by
  unfold cbE; rw [cbI_le h hr]; rfl
/-- both readings of an array or a map go hand in hand -/
theorem cb_end {tb : Nat → Ent} {ms : List Int32} : ∀ (r p q k q' j : Nat), cbI ms r p = some q → Nd tb ms r p k q' j → q = q' := by
  intro r
  induction r with
  | zero =>
    intro p q k q' j h hn
    obtain ⟨hk, -, h3⟩ := hn
    unfold cbI at h
    rw [if_neg (not_not_intro hk)] at h
    split at h
    · next h2 => rw [if_pos h2] at h3; cases h; exact h3.1.symm
    · next h2 =>
      rw [if_neg h2] at h3
      split at h
      · cases h
      · next h4 => rw [if_neg h4] at h3; cases h; exact h3.1.symm
  | succ r ih =>
    intro p q k q' j h hn
    obtain ⟨hk, -, h3⟩ := hn
    unfold cbI at h
    rw [if_neg (not_not_intro hk)] at h
    split at h
    · next h2 => rw [if_pos h2] at h3; cases h; exact h3.1.symm
    · next h2 =>
      rw [if_neg h2] at h3
      split at h
      · next h4 =>
        rw [if_pos h4] at h3
        have key : ∀ (isMap : Bool) (n : Nat) (kb : Option (Nat × Nat)) (p k : Nat), cbQ (cbI ms r) ms isMap n kb p = some q → Ch (Nd tb ms r) (if isMap then 2 * n else n) p k q' j → q = q' := by
          intro isMap n
          induction n with
          | zero =>
            intro kb p k a b
            cases a
            cases isMap <;> exact b.1.symm
          | succ n ihn =>
            intro kb p k a b
            unfold cbQ at a
            cases isMap with
            | true =>
              simp only [if_true] at a b
              rw [show 2 * (n + 1) = 2 * n + 1 + 1 by omega] at b
              obtain ⟨q1, j1, b1, q2, j2, b2, b3⟩ := b
              split at a
              · cases a
              · next q1' e1 =>
                have := ih _ _ _ _ _ e1 b1
                subst this
                split at a
                · split at a
                  · cases a
                  · next q2' e2 =>
                    have := ih _ _ _ _ _ e2 b2
                    subst this
                    exact ihn _ _ _ a b3
                · cases a
            | false =>
              simp only [Bool.false_eq_true, if_false] at a b
              obtain ⟨q1, j1, b1, b3⟩ := b
              split at a
              · cases a
              · next q1' e1 =>
                have := ih _ _ _ _ _ e1 b1
                subst this
                exact ihn _ _ _ a b3
        exact key (decide (cbS ms p = 5)) _ _ _ _ h (by simpa using h3)
      · next h4 => rw [if_neg h4] at h3; cases h; exact h3.1.symm
/-- an item of a canonical message: its place, its number -/
def Nx (tb : Nat → Ent) (ms : List Int32) (r p k q j : Nat) : Prop := cbI ms r p = some q ∧ Nd tb ms r p k q j
/-- the pairs of a map: keys and what stands behind them -/
def Pr (N : Nat → Nat → Nat → Nat → Prop) (ms : List Int32) : Nat → Nat → Nat → Nat → Nat → Prop
  | 0, p, k, q, j => q = p ∧ j = k
  | n + 1, p, k, q, j => ∃ q1 q2 j2, (cbS ms p = 0 ∨ cbS ms p = 1 ∨ cbS ms p = 3) ∧ N p k q1 (k + 1) ∧ N q1 (k + 1) q2 j2 ∧ Pr N ms n q2 j2 q j
theorem Nd_leaf {tb : Nat → Ent} {ms : List Int32} {r p k q j : Nat} (h : Nd tb ms r p k q j) (hs : cbS ms p = 0 ∨ cbS ms p = 1 ∨ cbS ms p = 2 ∨ cbS ms p = 3 ∨ cbS ms p = 7) : j = k + 1 ∧ q = (if cbS ms p = 2 ∨ cbS ms p = 3 then cbC ms p + cbV ms p else cbC ms p) := by
  cases r <;> (
    obtain ⟨-, -, h3⟩ := h
    split at h3
    · next h2 => rw [if_pos h2]; exact ⟨h3.2, h3.1⟩
    · next h2 =>
      rw [if_neg h2]
      rw [if_neg (by omega)] at h3
      exact ⟨h3.2, h3.1⟩)
theorem Nx_map {tb : Nat → Ent} {ms : List Int32} {r p k q j : Nat} (h : Nx tb ms r p k q j) (hs : cbS ms p = 5) : ∃ r', r = r' + 1 ∧ Pr (Nx tb ms r') ms (cbV ms p) (cbC ms p) (k + 1) q j := by
  obtain ⟨h1, h2⟩ := h
  cases r with
  | zero =>
    obtain ⟨hk, -, h3⟩ := h2
    rw [if_neg (by omega), if_pos (Or.inr hs)] at h3
    exact h3.elim
  | succ r =>
    obtain ⟨hk, -, h3⟩ := h2
    rw [if_neg (by omega), if_pos (Or.inr hs), if_pos hs] at h3
    rw [cbI, if_neg (not_not_intro hk), if_neg (by omega), if_pos (Or.inr hs), hs] at h1
    refine ⟨r, rfl, ?_⟩
    have key : ∀ (n : Nat) (kb : Option (Nat × Nat)) (p k : Nat), cbQ (cbI ms r) ms true n kb p = some q → Ch (Nd tb ms r) (2 * n) p k q j → Pr (Nx tb ms r) ms n p k q j := by
      intro n
      induction n with
      | zero => intro kb p k a b; exact b
      | succ n ihn =>
        intro kb p k a b
        unfold cbQ at a
        simp only [if_true] at a
        rw [show 2 * (n + 1) = 2 * n + 1 + 1 by omega] at b
        obtain ⟨q1, j1, b1, q2, j2, b2, b3⟩ := b
        split at a
        · cases a
        · next q1' e1 =>
          have := cb_end _ _ _ _ _ _ e1 b1
          subst this
          split at a
          · next hky =>
            have hks : cbS ms p = 0 ∨ cbS ms p = 1 ∨ cbS ms p = 3 := by
              unfold cbKy at hky
              simp only [Bool.and_eq_true, Bool.or_eq_true, decide_eq_true_eq] at hky
              omega
            split at a
            · cases a
            · next q2' e2 =>
              have := cb_end _ _ _ _ _ _ e2 b2
              subst this
              have hj := (Nd_leaf b1 (by omega)).1
              subst hj
              exact ⟨_, _, _, hks, ⟨e1, b1⟩, ⟨e2, b2⟩, ihn _ _ _ a b3⟩
          · cases a
    exact key _ _ _ _ h1 h3
/-- the items of an array -/
theorem Nx_arr {tb : Nat → Ent} {ms : List Int32} {r p k q j : Nat} (h : Nx tb ms r p k q j) (hs : cbS ms p = 4) : ∃ r', r = r' + 1 ∧ Ch (Nx tb ms r') (cbV ms p) (cbC ms p) (k + 1) q j := by
  obtain ⟨h1, h2⟩ := h
  cases r with
  | zero =>
    obtain ⟨hk, -, h3⟩ := h2
    rw [if_neg (by omega), if_pos (Or.inl hs)] at h3
    exact h3.elim
  | succ r =>
    obtain ⟨hk, -, h3⟩ := h2
    rw [if_neg (by omega), if_pos (Or.inl hs), if_neg (by omega)] at h3
    rw [cbI, if_neg (not_not_intro hk), if_neg (by omega), if_pos (Or.inl hs), show decide (cbS ms p = 5) = false from by simp [hs]] at h1
    refine ⟨r, rfl, ?_⟩
    have key : ∀ (n : Nat) (kb : Option (Nat × Nat)) (p k : Nat), cbQ (cbI ms r) ms false n kb p = some q → Ch (Nd tb ms r) n p k q j → Ch (Nx tb ms r) n p k q j := by
      intro n
      induction n with
      | zero => intro kb p k a b; exact b
      | succ n ihn =>
        intro kb p k a b
        unfold cbQ at a
        simp only [Bool.false_eq_true, if_false] at a
        obtain ⟨q1, j1, b1, b3⟩ := b
        split at a
        · cases a
        · next q1' e1 =>
          have := cb_end _ _ _ _ _ _ e1 b1
          subst this
          exact ⟨_, _, ⟨e1, b1⟩, ihn _ _ _ a b3⟩
    exact key _ _ _ _ h1 h3
/-- among n pairs from p on, the place behind the first key that f likes -/
def cbMem (ms : List Int32) (f : Nat → Bool) : Nat → Nat → Option Nat
  | 0, _ => none
  | n + 1, p => if f p then some (cbE ms p) else cbMem ms f n (cbE ms (cbE ms p))
def cbMb (ms : List Int32) (f : Nat → Bool) (o : Option Nat) : Option Nat := match o with
  | none => none
  | some p => if cbS ms p = 5 then cbMem ms f (cbV ms p) (cbC ms p) else none
/-- a key is a number; a text -/
def cbIs (ms : List Int32) (n : Nat) (p : Nat) : Bool := decide (cbS ms p = 0) && decide (cbV ms p = n)
def cbTx (ms : List Int32) (t : List Int32) (p : Nat) : Bool := decide (cbS ms p = 3) && (decide (cbV ms p = t.length) && decide ((ms.drop (cbC ms p)).take t.length = t))
/-- number and place of an item, none for none -/
def iA (tb : Nat → Ent) (ms : List Int32) (n : Nat) (i : Int32) : Option Nat → Prop
  | none => i = -1
  | some p => ∃ r k q j, r ≤ 4 ∧ i = nI k ∧ Nx tb ms r p k q j ∧ j ≤ n
def iT (M : mj_H) (ms : List Int32) (n : Nat) (S V H E N : List Int32) : Prop := (iu M 28 (nI n) (nI ms.length) S V H E N) ∧ (cbMsg ms) ∧ (Nd (tbA S V H E N) ms 4 1 0 ms.length n) ∧ (tks S V H E N 0 n) ∧ (n + 1 ≤ ms.length) ∧ (bb M 28 29 400 ms)
theorem iT.u {M : mj_H} {ms : List Int32} {n : Nat} {S V H E N : List Int32} (hh_ : iT M ms n S V H E N) : iu M 28 (nI n) (nI ms.length) S V H E N := hh_.1
theorem iT.c {M : mj_H} {ms : List Int32} {n : Nat} {S V H E N : List Int32} (hh_ : iT M ms n S V H E N) : cbMsg ms := hh_.2.1
theorem iT.nd {M : mj_H} {ms : List Int32} {n : Nat} {S V H E N : List Int32} (hh_ : iT M ms n S V H E N) : Nd (tbA S V H E N) ms 4 1 0 ms.length n := hh_.2.2.1
theorem iT.tk {M : mj_H} {ms : List Int32} {n : Nat} {S V H E N : List Int32} (hh_ : iT M ms n S V H E N) : tks S V H E N 0 n := hh_.2.2.2.1
theorem iT.le {M : mj_H} {ms : List Int32} {n : Nat} {S V H E N : List Int32} (hh_ : iT M ms n S V H E N) : n + 1 ≤ ms.length := hh_.2.2.2.2.1
theorem iT.b {M : mj_H} {ms : List Int32} {n : Nat} {S V H E N : List Int32} (hh_ : iT M ms n S V H E N) : bb M 28 29 400 ms := hh_.2.2.2.2.2
theorem iT_mk_ {M : mj_H} {ms : List Int32} {n : Nat} {S V H E N : List Int32} (f_0_ : iu M 28 (nI n) (nI ms.length) S V H E N) (f_1_ : cbMsg ms) (f_2_ : Nd (tbA S V H E N) ms 4 1 0 ms.length n) (f_3_ : tks S V H E N 0 n) (f_4_ : n + 1 ≤ ms.length) (f_5_ : bb M 28 29 400 ms) : iT M ms n S V H E N := And.intro f_0_ (And.intro f_1_ (And.intro f_2_ (And.intro f_3_ (And.intro f_4_ f_5_))))
theorem iT.fr {M M' : mj_H} {ms : List Int32} {n : Nat} {S V H E N : List Int32} (h : iT M ms n S V H E N) (h1 : ∀ a, 36 ≤ a → a ≤ 41 → M'[a]? = M[a]?) (h2 : M'[28]? = M[28]?) (h3 : M'[29]? = M[29]?) : iT M' ms n S V H E N := (iT_mk_ (h.u.fr h1) h.c h.nd h.tk h.le (h.b.fr h2 h3))
section IQ
variable {d n : Nat} {M : mj_H} {ms S V H E N : List Int32}
theorem iT.at (h : iT M ms n S V H E N) {r p k q j : Nat} (hx : Nx (tbA S V H E N) ms r p k q j) (hj : j ≤ n) : ent S V H E N k ((p, (cbS ms p, (cbV ms p, (q, j)))) : Ent) ∧ k < n ∧ n ≤ 400 ∧ k < j ∧ cbOk ms p ∧ q ≤ ms.length := by
  have hk := (Nd_lt _ _ _ _ _ hx.2).1
  have ht : tbA S V H E N k = ((p, (cbS ms p, (cbV ms p, (q, j)))) : Ent) := by cases r <;> exact hx.2.2.1
  have := (h.tk k (Nat.zero_le _) (by omega)).1
  rw [ht] at this
  have hcap := h.b.len
  have hle := h.le
  exact ⟨this, by omega, by omega, hk, cbI_ok hx.1, (cbI_lt _ _ _ hx.1).2⟩
theorem iT.root (h : iT M ms n S V H E N) : iA (tbA S V H E N) ms n 0 (some 1) := ⟨4, 0, ms.length, n, Nat.le_refl _, rfl, ⟨h.c, h.nd⟩, Nat.le_refl _⟩
end IQ
end
/- 66.items6 -/
section
set_option maxRecDepth 512
/-! Class: Items, what is asked of them. -/
/- 88 PasskeyHouse$Items.valueOf(I)I -/
theorem s88_0 {d : Nat} {ls : mj_L} {st : List Value} {M : mj_H} : mj_Rn d mj_m88 0 ls st M = mq_k0 d mj_m88 1 ls M (mj_ldi (mj_lk ls 1) st) := mj_R0 (r := (.iload_n 1, 1, 0, 0, 0)) rfl rfl
theorem s88_1 {d : Nat} {ls : mj_L} {st : List Value} {M : mj_H} : mj_Rn d mj_m88 1 ls st M = mq_k2 d mj_m88 ls M (mj_br (.ifCond .lt 20) 1 st) := mj_R2 (r := (.ifCond .lt 20, 3, 0, 0, 0)) rfl rfl
theorem s88_4 {d : Nat} {ls : mj_L} {st : List Value} {M : mj_H} : mj_Rn d mj_m88 4 ls st M = mq_k0 d mj_m88 5 ls M (mj_ldi (mj_lk ls 1) st) := mj_R0 (r := (.iload_n 1, 1, 0, 0, 0)) rfl rfl
theorem s88_5 {d : Nat} {ls : mj_L} {st : List Value} {M : mj_H} : mj_Rn d mj_m88 5 ls st M = mq_k0 d mj_m88 6 ls M (mj_lda (mj_lk ls 0) st) := mj_R0 (r := (.aload_n 0, 1, 0, 0, 0)) rfl rfl
theorem s88_6 {d : Nat} {ls : mj_L} {st : List Value} {M : mj_H} : mj_Rn d mj_m88 6 ls st M = mq_k0 d mj_m88 9 ls M (mq_gf 4 6 st M) := (mj_R3 (r := (.getfield 36, 3, 4, 6, 8380)) rfl rfl).trans (congrArg (mq_k0 d mj_m88 9 ls M) mq_gf_eq)
theorem s88_9 {d : Nat} {ls : mj_L} {st : List Value} {M : mj_H} : mj_Rn d mj_m88 9 ls st M = mq_k2 d mj_m88 ls M (mj_br (.if_icmp .ge 12) 9 st) := mj_R2 (r := (.if_icmp .ge 12, 3, 0, 0, 0)) rfl rfl
theorem s88_12 {d : Nat} {ls : mj_L} {st : List Value} {M : mj_H} : mj_Rn d mj_m88 12 ls st M = mq_k0 d mj_m88 13 ls M (mj_ldi (mj_lk ls 1) st) := mj_R0 (r := (.iload_n 1, 1, 0, 0, 0)) rfl rfl
theorem s88_13 {d : Nat} {ls : mj_L} {st : List Value} {M : mj_H} : mj_Rn d mj_m88 13 ls st M = mq_k0 d mj_m88 14 ls M (mj_lda (mj_lk ls 0) st) := mj_R0 (r := (.aload_n 0, 1, 0, 0, 0)) rfl rfl
theorem s88_14 {d : Nat} {ls : mj_L} {st : List Value} {M : mj_H} : mj_Rn d mj_m88 14 ls st M = mq_k0 d mj_m88 17 ls M (mq_gf 4 1 st M) := (mj_R3 (r := (.getfield 15, 3, 4, 1, 8368)) rfl rfl).trans (congrArg (mq_k0 d mj_m88 17 ls M) mq_gf_eq)
theorem s88_17 {d : Nat} {ls : mj_L} {st : List Value} {M : mj_H} : mj_Rn d mj_m88 17 ls st M = mq_k0 d mj_m88 18 ls M (mq_len st M) := (mj_R3 (r := (.arraylength, 1, 0, 0, 0)) rfl rfl).trans (congrArg (mq_k0 d mj_m88 18 ls M) mq_len_eq)
theorem s88_18 {d : Nat} {ls : mj_L} {st : List Value} {M : mj_H} : mj_Rn d mj_m88 18 ls st M = mq_k2 d mj_m88 ls M (mj_br (.if_icmp .lt 7) 18 st) := mj_R2 (r := (.if_icmp .lt 7, 3, 0, 0, 0)) rfl rfl
theorem s88_21 {d : Nat} {ls : mj_L} {st : List Value} {M : mj_H} : mj_Rn d mj_m88 21 ls st M = mj_Rn d mj_m88 22 ls (.int 0 :: st) M := mj_R0 (r := (.iconst 0, 1, 0, 0, 0)) rfl rfl
theorem s88_22 {d : Nat} {ls : mj_L} {st : List Value} {M : mj_H} : mj_Rn d mj_m88 22 ls st M = mj_Rn d mj_m88 31 ls st M := mj_R2 (r := (.goto 9, 3, 0, 0, 0)) rfl rfl
theorem s88_25 {d : Nat} {ls : mj_L} {st : List Value} {M : mj_H} : mj_Rn d mj_m88 25 ls st M = mq_k0 d mj_m88 26 ls M (mj_lda (mj_lk ls 0) st) := mj_R0 (r := (.aload_n 0, 1, 0, 0, 0)) rfl rfl
theorem s88_26 {d : Nat} {ls : mj_L} {st : List Value} {M : mj_H} : mj_Rn d mj_m88 26 ls st M = mq_k0 d mj_m88 29 ls M (mq_gf 4 1 st M) := (mj_R3 (r := (.getfield 15, 3, 4, 1, 8368)) rfl rfl).trans (congrArg (mq_k0 d mj_m88 29 ls M) mq_gf_eq)
theorem s88_29 {d : Nat} {ls : mj_L} {st : List Value} {M : mj_H} : mj_Rn d mj_m88 29 ls st M = mq_k0 d mj_m88 30 ls M (mj_ldi (mj_lk ls 1) st) := mj_R0 (r := (.iload_n 1, 1, 0, 0, 0)) rfl rfl
theorem s88_30 {d : Nat} {ls : mj_L} {st : List Value} {M : mj_H} : mj_Rn d mj_m88 30 ls st M = mq_k0 d mj_m88 31 ls M (mq_al [1000] st M) := (mj_R3 (r := (.iaload, 1, 0, 0, 0)) rfl rfl).trans (congrArg (mq_k0 d mj_m88 31 ls M) mq_ali_eq)
theorem s88_31 {d : Nat} {ls : mj_L} {st : List Value} {M : mj_H} : mj_Rn d mj_m88 31 ls st M = mq_k6 M (mj_re (some .int) (.ireturn) st) := mj_R6 (r := (.ireturn, 1, 0, 0, 0)) rfl rfl
/- 89 PasskeyHouse$Items.nextOf(I)I -/
theorem s89_0 {d : Nat} {ls : mj_L} {st : List Value} {M : mj_H} : mj_Rn d mj_m89 0 ls st M = mq_k0 d mj_m89 1 ls M (mj_ldi (mj_lk ls 1) st) := mj_R0 (r := (.iload_n 1, 1, 0, 0, 0)) rfl rfl
theorem s89_1 {d : Nat} {ls : mj_L} {st : List Value} {M : mj_H} : mj_Rn d mj_m89 1 ls st M = mq_k2 d mj_m89 ls M (mj_br (.ifCond .lt 20) 1 st) := mj_R2 (r := (.ifCond .lt 20, 3, 0, 0, 0)) rfl rfl
theorem s89_4 {d : Nat} {ls : mj_L} {st : List Value} {M : mj_H} : mj_Rn d mj_m89 4 ls st M = mq_k0 d mj_m89 5 ls M (mj_ldi (mj_lk ls 1) st) := mj_R0 (r := (.iload_n 1, 1, 0, 0, 0)) rfl rfl
theorem s89_5 {d : Nat} {ls : mj_L} {st : List Value} {M : mj_H} : mj_Rn d mj_m89 5 ls st M = mq_k0 d mj_m89 6 ls M (mj_lda (mj_lk ls 0) st) := mj_R0 (r := (.aload_n 0, 1, 0, 0, 0)) rfl rfl
theorem s89_6 {d : Nat} {ls : mj_L} {st : List Value} {M : mj_H} : mj_Rn d mj_m89 6 ls st M = mq_k0 d mj_m89 9 ls M (mq_gf 4 6 st M) := (mj_R3 (r := (.getfield 36, 3, 4, 6, 8380)) rfl rfl).trans (congrArg (mq_k0 d mj_m89 9 ls M) mq_gf_eq)
theorem s89_9 {d : Nat} {ls : mj_L} {st : List Value} {M : mj_H} : mj_Rn d mj_m89 9 ls st M = mq_k2 d mj_m89 ls M (mj_br (.if_icmp .ge 12) 9 st) := mj_R2 (r := (.if_icmp .ge 12, 3, 0, 0, 0)) rfl rfl
theorem s89_12 {d : Nat} {ls : mj_L} {st : List Value} {M : mj_H} : mj_Rn d mj_m89 12 ls st M = mq_k0 d mj_m89 13 ls M (mj_ldi (mj_lk ls 1) st) := mj_R0 (r := (.iload_n 1, 1, 0, 0, 0)) rfl rfl
theorem s89_13 {d : Nat} {ls : mj_L} {st : List Value} {M : mj_H} : mj_Rn d mj_m89 13 ls st M = mq_k0 d mj_m89 14 ls M (mj_lda (mj_lk ls 0) st) := mj_R0 (r := (.aload_n 0, 1, 0, 0, 0)) rfl rfl
theorem s89_14 {d : Nat} {ls : mj_L} {st : List Value} {M : mj_H} : mj_Rn d mj_m89 14 ls st M = mq_k0 d mj_m89 17 ls M (mq_gf 4 4 st M) := (mj_R3 (r := (.getfield 24, 3, 4, 4, 8374)) rfl rfl).trans (congrArg (mq_k0 d mj_m89 17 ls M) mq_gf_eq)
theorem s89_17 {d : Nat} {ls : mj_L} {st : List Value} {M : mj_H} : mj_Rn d mj_m89 17 ls st M = mq_k0 d mj_m89 18 ls M (mq_len st M) := (mj_R3 (r := (.arraylength, 1, 0, 0, 0)) rfl rfl).trans (congrArg (mq_k0 d mj_m89 18 ls M) mq_len_eq)
theorem s89_18 {d : Nat} {ls : mj_L} {st : List Value} {M : mj_H} : mj_Rn d mj_m89 18 ls st M = mq_k2 d mj_m89 ls M (mj_br (.if_icmp .lt 10) 18 st) := mj_R2 (r := (.if_icmp .lt 10, 3, 0, 0, 0)) rfl rfl
theorem s89_21 {d : Nat} {ls : mj_L} {st : List Value} {M : mj_H} : mj_Rn d mj_m89 21 ls st M = mq_k0 d mj_m89 22 ls M (mj_lda (mj_lk ls 0) st) := mj_R0 (r := (.aload_n 0, 1, 0, 0, 0)) rfl rfl
theorem s89_22 {d : Nat} {ls : mj_L} {st : List Value} {M : mj_H} : mj_Rn d mj_m89 22 ls st M = mq_k0 d mj_m89 25 ls M (mq_gf 4 6 st M) := (mj_R3 (r := (.getfield 36, 3, 4, 6, 8380)) rfl rfl).trans (congrArg (mq_k0 d mj_m89 25 ls M) mq_gf_eq)
theorem s89_25 {d : Nat} {ls : mj_L} {st : List Value} {M : mj_H} : mj_Rn d mj_m89 25 ls st M = mj_Rn d mj_m89 34 ls st M := mj_R2 (r := (.goto 9, 3, 0, 0, 0)) rfl rfl
theorem s89_28 {d : Nat} {ls : mj_L} {st : List Value} {M : mj_H} : mj_Rn d mj_m89 28 ls st M = mq_k0 d mj_m89 29 ls M (mj_lda (mj_lk ls 0) st) := mj_R0 (r := (.aload_n 0, 1, 0, 0, 0)) rfl rfl
theorem s89_29 {d : Nat} {ls : mj_L} {st : List Value} {M : mj_H} : mj_Rn d mj_m89 29 ls st M = mq_k0 d mj_m89 32 ls M (mq_gf 4 4 st M) := (mj_R3 (r := (.getfield 24, 3, 4, 4, 8374)) rfl rfl).trans (congrArg (mq_k0 d mj_m89 32 ls M) mq_gf_eq)
theorem s89_32 {d : Nat} {ls : mj_L} {st : List Value} {M : mj_H} : mj_Rn d mj_m89 32 ls st M = mq_k0 d mj_m89 33 ls M (mj_ldi (mj_lk ls 1) st) := mj_R0 (r := (.iload_n 1, 1, 0, 0, 0)) rfl rfl
theorem s89_33 {d : Nat} {ls : mj_L} {st : List Value} {M : mj_H} : mj_Rn d mj_m89 33 ls st M = mq_k0 d mj_m89 34 ls M (mq_al [1000] st M) := (mj_R3 (r := (.iaload, 1, 0, 0, 0)) rfl rfl).trans (congrArg (mq_k0 d mj_m89 34 ls M) mq_ali_eq)
theorem s89_34 {d : Nat} {ls : mj_L} {st : List Value} {M : mj_H} : mj_Rn d mj_m89 34 ls st M = mq_k6 M (mj_re (some .int) (.ireturn) st) := mj_R6 (r := (.ireturn, 1, 0, 0, 0)) rfl rfl
/- 94 PasskeyHouse$Items.contentOf(I)I -/
theorem s94_0 {d : Nat} {ls : mj_L} {st : List Value} {M : mj_H} : mj_Rn d mj_m94 0 ls st M = mq_k0 d mj_m94 1 ls M (mj_ldi (mj_lk ls 1) st) := mj_R0 (r := (.iload_n 1, 1, 0, 0, 0)) rfl rfl
theorem s94_1 {d : Nat} {ls : mj_L} {st : List Value} {M : mj_H} : mj_Rn d mj_m94 1 ls st M = mq_k2 d mj_m94 ls M (mj_br (.ifCond .lt 20) 1 st) := mj_R2 (r := (.ifCond .lt 20, 3, 0, 0, 0)) rfl rfl
theorem s94_4 {d : Nat} {ls : mj_L} {st : List Value} {M : mj_H} : mj_Rn d mj_m94 4 ls st M = mq_k0 d mj_m94 5 ls M (mj_ldi (mj_lk ls 1) st) := mj_R0 (r := (.iload_n 1, 1, 0, 0, 0)) rfl rfl
theorem s94_5 {d : Nat} {ls : mj_L} {st : List Value} {M : mj_H} : mj_Rn d mj_m94 5 ls st M = mq_k0 d mj_m94 6 ls M (mj_lda (mj_lk ls 0) st) := mj_R0 (r := (.aload_n 0, 1, 0, 0, 0)) rfl rfl
theorem s94_6 {d : Nat} {ls : mj_L} {st : List Value} {M : mj_H} : mj_Rn d mj_m94 6 ls st M = mq_k0 d mj_m94 9 ls M (mq_gf 4 6 st M) := (mj_R3 (r := (.getfield 36, 3, 4, 6, 8380)) rfl rfl).trans (congrArg (mq_k0 d mj_m94 9 ls M) mq_gf_eq)
theorem s94_9 {d : Nat} {ls : mj_L} {st : List Value} {M : mj_H} : mj_Rn d mj_m94 9 ls st M = mq_k2 d mj_m94 ls M (mj_br (.if_icmp .ge 12) 9 st) := mj_R2 (r := (.if_icmp .ge 12, 3, 0, 0, 0)) rfl rfl
theorem s94_12 {d : Nat} {ls : mj_L} {st : List Value} {M : mj_H} : mj_Rn d mj_m94 12 ls st M = mq_k0 d mj_m94 13 ls M (mj_ldi (mj_lk ls 1) st) := mj_R0 (r := (.iload_n 1, 1, 0, 0, 0)) rfl rfl
theorem s94_13 {d : Nat} {ls : mj_L} {st : List Value} {M : mj_H} : mj_Rn d mj_m94 13 ls st M = mq_k0 d mj_m94 14 ls M (mj_lda (mj_lk ls 0) st) := mj_R0 (r := (.aload_n 0, 1, 0, 0, 0)) rfl rfl
theorem s94_14 {d : Nat} {ls : mj_L} {st : List Value} {M : mj_H} : mj_Rn d mj_m94 14 ls st M = mq_k0 d mj_m94 17 ls M (mq_gf 4 3 st M) := (mj_R3 (r := (.getfield 21, 3, 4, 3, 8372)) rfl rfl).trans (congrArg (mq_k0 d mj_m94 17 ls M) mq_gf_eq)
theorem s94_17 {d : Nat} {ls : mj_L} {st : List Value} {M : mj_H} : mj_Rn d mj_m94 17 ls st M = mq_k0 d mj_m94 18 ls M (mq_len st M) := (mj_R3 (r := (.arraylength, 1, 0, 0, 0)) rfl rfl).trans (congrArg (mq_k0 d mj_m94 18 ls M) mq_len_eq)
theorem s94_18 {d : Nat} {ls : mj_L} {st : List Value} {M : mj_H} : mj_Rn d mj_m94 18 ls st M = mq_k2 d mj_m94 ls M (mj_br (.if_icmp .lt 7) 18 st) := mj_R2 (r := (.if_icmp .lt 7, 3, 0, 0, 0)) rfl rfl
theorem s94_21 {d : Nat} {ls : mj_L} {st : List Value} {M : mj_H} : mj_Rn d mj_m94 21 ls st M = mj_Rn d mj_m94 22 ls (.int 0 :: st) M := mj_R0 (r := (.iconst 0, 1, 0, 0, 0)) rfl rfl
theorem s94_22 {d : Nat} {ls : mj_L} {st : List Value} {M : mj_H} : mj_Rn d mj_m94 22 ls st M = mj_Rn d mj_m94 38 ls st M := mj_R2 (r := (.goto 16, 3, 0, 0, 0)) rfl rfl
theorem s94_25 {d : Nat} {ls : mj_L} {st : List Value} {M : mj_H} : mj_Rn d mj_m94 25 ls st M = mq_k0 d mj_m94 26 ls M (mj_lda (mj_lk ls 0) st) := mj_R0 (r := (.aload_n 0, 1, 0, 0, 0)) rfl rfl
theorem s94_26 {d : Nat} {ls : mj_L} {st : List Value} {M : mj_H} : mj_Rn d mj_m94 26 ls st M = mq_k0 d mj_m94 29 ls M (mq_gf 4 3 st M) := (mj_R3 (r := (.getfield 21, 3, 4, 3, 8372)) rfl rfl).trans (congrArg (mq_k0 d mj_m94 29 ls M) mq_gf_eq)
theorem s94_29 {d : Nat} {ls : mj_L} {st : List Value} {M : mj_H} : mj_Rn d mj_m94 29 ls st M = mq_k0 d mj_m94 30 ls M (mj_ldi (mj_lk ls 1) st) := mj_R0 (r := (.iload_n 1, 1, 0, 0, 0)) rfl rfl
theorem s94_30 {d : Nat} {ls : mj_L} {st : List Value} {M : mj_H} : mj_Rn d mj_m94 30 ls st M = mq_k0 d mj_m94 31 ls M (mq_al [1000] st M) := (mj_R3 (r := (.iaload, 1, 0, 0, 0)) rfl rfl).trans (congrArg (mq_k0 d mj_m94 31 ls M) mq_ali_eq)
theorem s94_31 {d : Nat} {ls : mj_L} {st : List Value} {M : mj_H} : mj_Rn d mj_m94 31 ls st M = mq_k0 d mj_m94 32 ls M (mj_lda (mj_lk ls 0) st) := mj_R0 (r := (.aload_n 0, 1, 0, 0, 0)) rfl rfl
theorem s94_32 {d : Nat} {ls : mj_L} {st : List Value} {M : mj_H} : mj_Rn d mj_m94 32 ls st M = mq_k0 d mj_m94 35 ls M (mq_gf 4 1 st M) := (mj_R3 (r := (.getfield 15, 3, 4, 1, 8368)) rfl rfl).trans (congrArg (mq_k0 d mj_m94 35 ls M) mq_gf_eq)
theorem s94_35 {d : Nat} {ls : mj_L} {st : List Value} {M : mj_H} : mj_Rn d mj_m94 35 ls st M = mq_k0 d mj_m94 36 ls M (mj_ldi (mj_lk ls 1) st) := mj_R0 (r := (.iload_n 1, 1, 0, 0, 0)) rfl rfl
theorem s94_36 {d : Nat} {ls : mj_L} {st : List Value} {M : mj_H} : mj_Rn d mj_m94 36 ls st M = mq_k0 d mj_m94 37 ls M (mq_al [1000] st M) := (mj_R3 (r := (.iaload, 1, 0, 0, 0)) rfl rfl).trans (congrArg (mq_k0 d mj_m94 37 ls M) mq_ali_eq)
theorem s94_37 {d : Nat} {ls : mj_L} {st : List Value} {M : mj_H} : mj_Rn d mj_m94 37 ls st M = mq_k0 d mj_m94 38 ls M (mj_pu .isub ls st) := mj_R0 (r := (.isub, 1, 0, 0, 0)) rfl rfl
theorem s94_38 {d : Nat} {ls : mj_L} {st : List Value} {M : mj_H} : mj_Rn d mj_m94 38 ls st M = mq_k6 M (mj_re (some .int) (.ireturn) st) := mj_R6 (r := (.ireturn, 1, 0, 0, 0)) rfl rfl
/- 87 PasskeyHouse$Items.member(II)I -/
theorem s87_0 {d : Nat} {ls : mj_L} {st : List Value} {M : mj_H} : mj_Rn d mj_m87 0 ls st M = mq_k0 d mj_m87 1 ls M (mj_lda (mj_lk ls 0) st) := mj_R0 (r := (.aload_n 0, 1, 0, 0, 0)) rfl rfl
theorem s87_1 {d : Nat} {ls : mj_L} {st : List Value} {M : mj_H} : mj_Rn d mj_m87 1 ls st M = mq_k0 d mj_m87 2 ls M (mj_ldi (mj_lk ls 1) st) := mj_R0 (r := (.iload_n 1, 1, 0, 0, 0)) rfl rfl
theorem s87_2 {d : Nat} {ls : mj_L} {st : List Value} {M : mj_H} : mj_Rn (d + 1) mj_m87 2 ls st M = mq_k5a (d + 1) mj_m87 5 ls M 84 (mq_cb 0 1 4 st M) := mj_R5e (r := (.invokevirtual 78, 3, 0, 84, 12472)) (z := mj_m84) rfl rfl (by decide) (by decide) rfl
theorem s87_5 {d : Nat} {ls : mj_L} {st : List Value} {M : mj_H} : mj_Rn d mj_m87 5 ls st M = mj_Rn d mj_m87 6 ls (.int 5 :: st) M := mj_R0 (r := (.iconst 5, 1, 0, 0, 0)) rfl rfl
theorem s87_6 {d : Nat} {ls : mj_L} {st : List Value} {M : mj_H} : mj_Rn d mj_m87 6 ls st M = mq_k2 d mj_m87 ls M (mj_br (.if_icmp .ne 11) 6 st) := mj_R2 (r := (.if_icmp .ne 11, 3, 0, 0, 0)) rfl rfl
theorem s87_9 {d : Nat} {ls : mj_L} {st : List Value} {M : mj_H} : mj_Rn d mj_m87 9 ls st M = mq_k0 d mj_m87 10 ls M (mj_lda (mj_lk ls 0) st) := mj_R0 (r := (.aload_n 0, 1, 0, 0, 0)) rfl rfl
theorem s87_10 {d : Nat} {ls : mj_L} {st : List Value} {M : mj_H} : mj_Rn d mj_m87 10 ls st M = mq_k0 d mj_m87 11 ls M (mj_ldi (mj_lk ls 1) st) := mj_R0 (r := (.iload_n 1, 1, 0, 0, 0)) rfl rfl
theorem s87_11 {d : Nat} {ls : mj_L} {st : List Value} {M : mj_H} : mj_Rn (d + 1) mj_m87 11 ls st M = mq_k5a (d + 1) mj_m87 14 ls M 88 (mq_cb 0 1 4 st M) := mj_R5e (r := (.invokevirtual 81, 3, 0, 88, 12489)) (z := mj_m88) rfl rfl (by decide) (by decide) rfl
theorem s87_14 {d : Nat} {ls : mj_L} {st : List Value} {M : mj_H} : mj_Rn d mj_m87 14 ls st M = mj_Rn d mj_m87 18 ls st M := mj_R2 (r := (.goto 4, 3, 0, 0, 0)) rfl rfl
theorem s87_17 {d : Nat} {ls : mj_L} {st : List Value} {M : mj_H} : mj_Rn d mj_m87 17 ls st M = mj_Rn d mj_m87 18 ls (.int 0 :: st) M := mj_R0 (r := (.iconst 0, 1, 0, 0, 0)) rfl rfl
theorem s87_18 {d : Nat} {ls : mj_L} {st : List Value} {M : mj_H} : mj_Rn d mj_m87 18 ls st M = mq_k1 d mj_m87 19 M (mj_lo 6 (.istore 3) ls st) := (mj_R1 (r := (.istore_n 3, 1, 0, 0, 0)) rfl rfl).trans (congrArg (mq_k1 d mj_m87 19 M) (mq_sti (k := 3)))
theorem s87_19 {d : Nat} {ls : mj_L} {st : List Value} {M : mj_H} : mj_Rn d mj_m87 19 ls st M = mq_k0 d mj_m87 20 ls M (mj_ldi (mj_lk ls 1) st) := mj_R0 (r := (.iload_n 1, 1, 0, 0, 0)) rfl rfl
theorem s87_20 {d : Nat} {ls : mj_L} {st : List Value} {M : mj_H} : mj_Rn d mj_m87 20 ls st M = mj_Rn d mj_m87 21 ls (.int 1 :: st) M := mj_R0 (r := (.iconst 1, 1, 0, 0, 0)) rfl rfl
theorem s87_21 {d : Nat} {ls : mj_L} {st : List Value} {M : mj_H} : mj_Rn d mj_m87 21 ls st M = mq_k0 d mj_m87 22 ls M (mj_pu .iadd ls st) := mj_R0 (r := (.iadd, 1, 0, 0, 0)) rfl rfl
theorem s87_22 {d : Nat} {ls : mj_L} {st : List Value} {M : mj_H} : mj_Rn d mj_m87 22 ls st M = mq_k1 d mj_m87 24 M (mj_lo 6 (.istore 4) ls st) := mj_R1 (r := (.istore 4, 2, 0, 0, 0)) rfl rfl
theorem s87_24 {d : Nat} {ls : mj_L} {st : List Value} {M : mj_H} : mj_Rn d mj_m87 24 ls st M = mj_Rn d mj_m87 25 ls (.int 0 :: st) M := mj_R0 (r := (.iconst 0, 1, 0, 0, 0)) rfl rfl
theorem s87_25 {d : Nat} {ls : mj_L} {st : List Value} {M : mj_H} : mj_Rn d mj_m87 25 ls st M = mq_k1 d mj_m87 27 M (mj_lo 6 (.istore 5) ls st) := mj_R1 (r := (.istore 5, 2, 0, 0, 0)) rfl rfl
theorem s87_27 {d : Nat} {ls : mj_L} {st : List Value} {M : mj_H} : mj_Rn d mj_m87 27 ls st M = mq_k0 d mj_m87 29 ls M (mj_ldi (mj_lk ls 5) st) := mj_R0 (r := (.iload 5, 2, 0, 0, 0)) rfl rfl
theorem s87_29 {d : Nat} {ls : mj_L} {st : List Value} {M : mj_H} : mj_Rn d mj_m87 29 ls st M = mq_k0 d mj_m87 30 ls M (mj_ldi (mj_lk ls 3) st) := mj_R0 (r := (.iload_n 3, 1, 0, 0, 0)) rfl rfl
theorem s87_30 {d : Nat} {ls : mj_L} {st : List Value} {M : mj_H} : mj_Rn d mj_m87 30 ls st M = mq_k2 d mj_m87 ls M (mj_br (.if_icmp .ge 43) 30 st) := mj_R2 (r := (.if_icmp .ge 43, 3, 0, 0, 0)) rfl rfl
theorem s87_33 {d : Nat} {ls : mj_L} {st : List Value} {M : mj_H} : mj_Rn d mj_m87 33 ls st M = mq_k0 d mj_m87 34 ls M (mj_lda (mj_lk ls 0) st) := mj_R0 (r := (.aload_n 0, 1, 0, 0, 0)) rfl rfl
theorem s87_34 {d : Nat} {ls : mj_L} {st : List Value} {M : mj_H} : mj_Rn d mj_m87 34 ls st M = mq_k0 d mj_m87 36 ls M (mj_ldi (mj_lk ls 4) st) := mj_R0 (r := (.iload 4, 2, 0, 0, 0)) rfl rfl
theorem s87_36 {d : Nat} {ls : mj_L} {st : List Value} {M : mj_H} : mj_Rn (d + 1) mj_m87 36 ls st M = mq_k5a (d + 1) mj_m87 39 ls M 84 (mq_cb 0 1 4 st M) := mj_R5e (r := (.invokevirtual 78, 3, 0, 84, 12472)) (z := mj_m84) rfl rfl (by decide) (by decide) rfl
theorem s87_39 {d : Nat} {ls : mj_L} {st : List Value} {M : mj_H} : mj_Rn d mj_m87 39 ls st M = mq_k2 d mj_m87 ls M (mj_br (.ifCond .ne 18) 39 st) := mj_R2 (r := (.ifCond .ne 18, 3, 0, 0, 0)) rfl rfl
theorem s87_42 {d : Nat} {ls : mj_L} {st : List Value} {M : mj_H} : mj_Rn d mj_m87 42 ls st M = mq_k0 d mj_m87 43 ls M (mj_lda (mj_lk ls 0) st) := mj_R0 (r := (.aload_n 0, 1, 0, 0, 0)) rfl rfl
theorem s87_43 {d : Nat} {ls : mj_L} {st : List Value} {M : mj_H} : mj_Rn d mj_m87 43 ls st M = mq_k0 d mj_m87 45 ls M (mj_ldi (mj_lk ls 4) st) := mj_R0 (r := (.iload 4, 2, 0, 0, 0)) rfl rfl
theorem s87_45 {d : Nat} {ls : mj_L} {st : List Value} {M : mj_H} : mj_Rn (d + 1) mj_m87 45 ls st M = mq_k5a (d + 1) mj_m87 48 ls M 88 (mq_cb 0 1 4 st M) := mj_R5e (r := (.invokevirtual 81, 3, 0, 88, 12489)) (z := mj_m88) rfl rfl (by decide) (by decide) rfl
theorem s87_48 {d : Nat} {ls : mj_L} {st : List Value} {M : mj_H} : mj_Rn d mj_m87 48 ls st M = mq_k0 d mj_m87 49 ls M (mj_ldi (mj_lk ls 2) st) := mj_R0 (r := (.iload_n 2, 1, 0, 0, 0)) rfl rfl
theorem s87_49 {d : Nat} {ls : mj_L} {st : List Value} {M : mj_H} : mj_Rn d mj_m87 49 ls st M = mq_k2 d mj_m87 ls M (mj_br (.if_icmp .ne 8) 49 st) := mj_R2 (r := (.if_icmp .ne 8, 3, 0, 0, 0)) rfl rfl
theorem s87_52 {d : Nat} {ls : mj_L} {st : List Value} {M : mj_H} : mj_Rn d mj_m87 52 ls st M = mq_k0 d mj_m87 54 ls M (mj_ldi (mj_lk ls 4) st) := mj_R0 (r := (.iload 4, 2, 0, 0, 0)) rfl rfl
theorem s87_54 {d : Nat} {ls : mj_L} {st : List Value} {M : mj_H} : mj_Rn d mj_m87 54 ls st M = mj_Rn d mj_m87 55 ls (.int 1 :: st) M := mj_R0 (r := (.iconst 1, 1, 0, 0, 0)) rfl rfl
theorem s87_55 {d : Nat} {ls : mj_L} {st : List Value} {M : mj_H} : mj_Rn d mj_m87 55 ls st M = mq_k0 d mj_m87 56 ls M (mj_pu .iadd ls st) := mj_R0 (r := (.iadd, 1, 0, 0, 0)) rfl rfl
theorem s87_56 {d : Nat} {ls : mj_L} {st : List Value} {M : mj_H} : mj_Rn d mj_m87 56 ls st M = mq_k6 M (mj_re (some .int) (.ireturn) st) := mj_R6 (r := (.ireturn, 1, 0, 0, 0)) rfl rfl
theorem s87_57 {d : Nat} {ls : mj_L} {st : List Value} {M : mj_H} : mj_Rn d mj_m87 57 ls st M = mq_k0 d mj_m87 58 ls M (mj_lda (mj_lk ls 0) st) := mj_R0 (r := (.aload_n 0, 1, 0, 0, 0)) rfl rfl
theorem s87_58 {d : Nat} {ls : mj_L} {st : List Value} {M : mj_H} : mj_Rn d mj_m87 58 ls st M = mq_k0 d mj_m87 60 ls M (mj_ldi (mj_lk ls 4) st) := mj_R0 (r := (.iload 4, 2, 0, 0, 0)) rfl rfl
theorem s87_60 {d : Nat} {ls : mj_L} {st : List Value} {M : mj_H} : mj_Rn d mj_m87 60 ls st M = mj_Rn d mj_m87 61 ls (.int 1 :: st) M := mj_R0 (r := (.iconst 1, 1, 0, 0, 0)) rfl rfl
theorem s87_61 {d : Nat} {ls : mj_L} {st : List Value} {M : mj_H} : mj_Rn d mj_m87 61 ls st M = mq_k0 d mj_m87 62 ls M (mj_pu .iadd ls st) := mj_R0 (r := (.iadd, 1, 0, 0, 0)) rfl rfl
theorem s87_62 {d : Nat} {ls : mj_L} {st : List Value} {M : mj_H} : mj_Rn (d + 1) mj_m87 62 ls st M = mq_k5a (d + 1) mj_m87 65 ls M 89 (mq_cb 0 1 4 st M) := mj_R5e (r := (.invokevirtual 84, 3, 0, 89, 12493)) (z := mj_m89) rfl rfl (by decide) (by decide) rfl
theorem s87_65 {d : Nat} {ls : mj_L} {st : List Value} {M : mj_H} : mj_Rn d mj_m87 65 ls st M = mq_k1 d mj_m87 67 M (mj_lo 6 (.istore 4) ls st) := mj_R1 (r := (.istore 4, 2, 0, 0, 0)) rfl rfl
theorem s87_67 {d : Nat} {ls : mj_L} {st : List Value} {M : mj_H} : mj_Rn d mj_m87 67 ls st M = mq_k1 d mj_m87 70 M (mj_lo 6 (.iinc 5 1) ls st) := mj_R1 (r := (.iinc 5 1, 3, 0, 0, 0)) rfl rfl
theorem s87_70 {d : Nat} {ls : mj_L} {st : List Value} {M : mj_H} : mj_Rn d mj_m87 70 ls st M = mj_Rn d mj_m87 27 ls st M := mj_R2 (r := (.goto (-43), 3, 0, 0, 0)) rfl rfl
theorem s87_73 {d : Nat} {ls : mj_L} {st : List Value} {M : mj_H} : mj_Rn d mj_m87 73 ls st M = mj_Rn d mj_m87 74 ls (.int (-1) :: st) M := mj_R0 (r := (.iconst (-1), 1, 0, 0, 0)) rfl rfl
theorem s87_74 {d : Nat} {ls : mj_L} {st : List Value} {M : mj_H} : mj_Rn d mj_m87 74 ls st M = mq_k6 M (mj_re (some .int) (.ireturn) st) := mj_R6 (r := (.ireturn, 1, 0, 0, 0)) rfl rfl
/- 90 PasskeyHouse$Items.named(ILjava/lang/String;)I -/
theorem s90_0 {d : Nat} {ls : mj_L} {st : List Value} {M : mj_H} : mj_Rn d mj_m90 0 ls st M = mq_k0 d mj_m90 1 ls M (mj_lda (mj_lk ls 0) st) := mj_R0 (r := (.aload_n 0, 1, 0, 0, 0)) rfl rfl
theorem s90_1 {d : Nat} {ls : mj_L} {st : List Value} {M : mj_H} : mj_Rn d mj_m90 1 ls st M = mq_k0 d mj_m90 2 ls M (mj_ldi (mj_lk ls 1) st) := mj_R0 (r := (.iload_n 1, 1, 0, 0, 0)) rfl rfl
theorem s90_2 {d : Nat} {ls : mj_L} {st : List Value} {M : mj_H} : mj_Rn (d + 1) mj_m90 2 ls st M = mq_k5a (d + 1) mj_m90 5 ls M 84 (mq_cb 0 1 4 st M) := mj_R5e (r := (.invokevirtual 78, 3, 0, 84, 12472)) (z := mj_m84) rfl rfl (by decide) (by decide) rfl
theorem s90_5 {d : Nat} {ls : mj_L} {st : List Value} {M : mj_H} : mj_Rn d mj_m90 5 ls st M = mj_Rn d mj_m90 6 ls (.int 5 :: st) M := mj_R0 (r := (.iconst 5, 1, 0, 0, 0)) rfl rfl
theorem s90_6 {d : Nat} {ls : mj_L} {st : List Value} {M : mj_H} : mj_Rn d mj_m90 6 ls st M = mq_k2 d mj_m90 ls M (mj_br (.if_icmp .ne 11) 6 st) := mj_R2 (r := (.if_icmp .ne 11, 3, 0, 0, 0)) rfl rfl
theorem s90_9 {d : Nat} {ls : mj_L} {st : List Value} {M : mj_H} : mj_Rn d mj_m90 9 ls st M = mq_k0 d mj_m90 10 ls M (mj_lda (mj_lk ls 0) st) := mj_R0 (r := (.aload_n 0, 1, 0, 0, 0)) rfl rfl
theorem s90_10 {d : Nat} {ls : mj_L} {st : List Value} {M : mj_H} : mj_Rn d mj_m90 10 ls st M = mq_k0 d mj_m90 11 ls M (mj_ldi (mj_lk ls 1) st) := mj_R0 (r := (.iload_n 1, 1, 0, 0, 0)) rfl rfl
theorem s90_11 {d : Nat} {ls : mj_L} {st : List Value} {M : mj_H} : mj_Rn (d + 1) mj_m90 11 ls st M = mq_k5a (d + 1) mj_m90 14 ls M 88 (mq_cb 0 1 4 st M) := mj_R5e (r := (.invokevirtual 81, 3, 0, 88, 12489)) (z := mj_m88) rfl rfl (by decide) (by decide) rfl
theorem s90_14 {d : Nat} {ls : mj_L} {st : List Value} {M : mj_H} : mj_Rn d mj_m90 14 ls st M = mj_Rn d mj_m90 18 ls st M := mj_R2 (r := (.goto 4, 3, 0, 0, 0)) rfl rfl
theorem s90_17 {d : Nat} {ls : mj_L} {st : List Value} {M : mj_H} : mj_Rn d mj_m90 17 ls st M = mj_Rn d mj_m90 18 ls (.int 0 :: st) M := mj_R0 (r := (.iconst 0, 1, 0, 0, 0)) rfl rfl
theorem s90_18 {d : Nat} {ls : mj_L} {st : List Value} {M : mj_H} : mj_Rn d mj_m90 18 ls st M = mq_k1 d mj_m90 19 M (mj_lo 6 (.istore 3) ls st) := (mj_R1 (r := (.istore_n 3, 1, 0, 0, 0)) rfl rfl).trans (congrArg (mq_k1 d mj_m90 19 M) (mq_sti (k := 3)))
theorem s90_19 {d : Nat} {ls : mj_L} {st : List Value} {M : mj_H} : mj_Rn d mj_m90 19 ls st M = mq_k0 d mj_m90 20 ls M (mj_ldi (mj_lk ls 1) st) := mj_R0 (r := (.iload_n 1, 1, 0, 0, 0)) rfl rfl
theorem s90_20 {d : Nat} {ls : mj_L} {st : List Value} {M : mj_H} : mj_Rn d mj_m90 20 ls st M = mj_Rn d mj_m90 21 ls (.int 1 :: st) M := mj_R0 (r := (.iconst 1, 1, 0, 0, 0)) rfl rfl
theorem s90_21 {d : Nat} {ls : mj_L} {st : List Value} {M : mj_H} : mj_Rn d mj_m90 21 ls st M = mq_k0 d mj_m90 22 ls M (mj_pu .iadd ls st) := mj_R0 (r := (.iadd, 1, 0, 0, 0)) rfl rfl
theorem s90_22 {d : Nat} {ls : mj_L} {st : List Value} {M : mj_H} : mj_Rn d mj_m90 22 ls st M = mq_k1 d mj_m90 24 M (mj_lo 6 (.istore 4) ls st) := mj_R1 (r := (.istore 4, 2, 0, 0, 0)) rfl rfl
theorem s90_24 {d : Nat} {ls : mj_L} {st : List Value} {M : mj_H} : mj_Rn d mj_m90 24 ls st M = mj_Rn d mj_m90 25 ls (.int 0 :: st) M := mj_R0 (r := (.iconst 0, 1, 0, 0, 0)) rfl rfl
theorem s90_25 {d : Nat} {ls : mj_L} {st : List Value} {M : mj_H} : mj_Rn d mj_m90 25 ls st M = mq_k1 d mj_m90 27 M (mj_lo 6 (.istore 5) ls st) := mj_R1 (r := (.istore 5, 2, 0, 0, 0)) rfl rfl
theorem s90_27 {d : Nat} {ls : mj_L} {st : List Value} {M : mj_H} : mj_Rn d mj_m90 27 ls st M = mq_k0 d mj_m90 29 ls M (mj_ldi (mj_lk ls 5) st) := mj_R0 (r := (.iload 5, 2, 0, 0, 0)) rfl rfl
theorem s90_29 {d : Nat} {ls : mj_L} {st : List Value} {M : mj_H} : mj_Rn d mj_m90 29 ls st M = mq_k0 d mj_m90 30 ls M (mj_ldi (mj_lk ls 3) st) := mj_R0 (r := (.iload_n 3, 1, 0, 0, 0)) rfl rfl
theorem s90_30 {d : Nat} {ls : mj_L} {st : List Value} {M : mj_H} : mj_Rn d mj_m90 30 ls st M = mq_k2 d mj_m90 ls M (mj_br (.if_icmp .ge 34) 30 st) := mj_R2 (r := (.if_icmp .ge 34, 3, 0, 0, 0)) rfl rfl
theorem s90_33 {d : Nat} {ls : mj_L} {st : List Value} {M : mj_H} : mj_Rn d mj_m90 33 ls st M = mq_k0 d mj_m90 34 ls M (mj_lda (mj_lk ls 0) st) := mj_R0 (r := (.aload_n 0, 1, 0, 0, 0)) rfl rfl
theorem s90_34 {d : Nat} {ls : mj_L} {st : List Value} {M : mj_H} : mj_Rn d mj_m90 34 ls st M = mq_k0 d mj_m90 36 ls M (mj_ldi (mj_lk ls 4) st) := mj_R0 (r := (.iload 4, 2, 0, 0, 0)) rfl rfl
theorem s90_36 {d : Nat} {ls : mj_L} {st : List Value} {M : mj_H} : mj_Rn d mj_m90 36 ls st M = mq_k0 d mj_m90 37 ls M (mj_lda (mj_lk ls 2) st) := mj_R0 (r := (.aload_n 2, 1, 0, 0, 0)) rfl rfl
theorem s90_37 {d : Nat} {ls : mj_L} {st : List Value} {M : mj_H} : mj_Rn (d + 1) mj_m90 37 ls st M = mq_k5a (d + 1) mj_m90 40 ls M 91 (mq_cb 0 2 4 st M) := mj_R5e (r := (.invokevirtual 87, 3, 0, 91, 12502)) (z := mj_m91) rfl rfl (by decide) (by decide) rfl
theorem s90_40 {d : Nat} {ls : mj_L} {st : List Value} {M : mj_H} : mj_Rn d mj_m90 40 ls st M = mq_k2 d mj_m90 ls M (mj_br (.ifCond .eq 8) 40 st) := mj_R2 (r := (.ifCond .eq 8, 3, 0, 0, 0)) rfl rfl
theorem s90_43 {d : Nat} {ls : mj_L} {st : List Value} {M : mj_H} : mj_Rn d mj_m90 43 ls st M = mq_k0 d mj_m90 45 ls M (mj_ldi (mj_lk ls 4) st) := mj_R0 (r := (.iload 4, 2, 0, 0, 0)) rfl rfl
theorem s90_45 {d : Nat} {ls : mj_L} {st : List Value} {M : mj_H} : mj_Rn d mj_m90 45 ls st M = mj_Rn d mj_m90 46 ls (.int 1 :: st) M := mj_R0 (r := (.iconst 1, 1, 0, 0, 0)) rfl rfl
theorem s90_46 {d : Nat} {ls : mj_L} {st : List Value} {M : mj_H} : mj_Rn d mj_m90 46 ls st M = mq_k0 d mj_m90 47 ls M (mj_pu .iadd ls st) := mj_R0 (r := (.iadd, 1, 0, 0, 0)) rfl rfl
theorem s90_47 {d : Nat} {ls : mj_L} {st : List Value} {M : mj_H} : mj_Rn d mj_m90 47 ls st M = mq_k6 M (mj_re (some .int) (.ireturn) st) := mj_R6 (r := (.ireturn, 1, 0, 0, 0)) rfl rfl
theorem s90_48 {d : Nat} {ls : mj_L} {st : List Value} {M : mj_H} : mj_Rn d mj_m90 48 ls st M = mq_k0 d mj_m90 49 ls M (mj_lda (mj_lk ls 0) st) := mj_R0 (r := (.aload_n 0, 1, 0, 0, 0)) rfl rfl
theorem s90_49 {d : Nat} {ls : mj_L} {st : List Value} {M : mj_H} : mj_Rn d mj_m90 49 ls st M = mq_k0 d mj_m90 51 ls M (mj_ldi (mj_lk ls 4) st) := mj_R0 (r := (.iload 4, 2, 0, 0, 0)) rfl rfl
theorem s90_51 {d : Nat} {ls : mj_L} {st : List Value} {M : mj_H} : mj_Rn d mj_m90 51 ls st M = mj_Rn d mj_m90 52 ls (.int 1 :: st) M := mj_R0 (r := (.iconst 1, 1, 0, 0, 0)) rfl rfl
theorem s90_52 {d : Nat} {ls : mj_L} {st : List Value} {M : mj_H} : mj_Rn d mj_m90 52 ls st M = mq_k0 d mj_m90 53 ls M (mj_pu .iadd ls st) := mj_R0 (r := (.iadd, 1, 0, 0, 0)) rfl rfl
theorem s90_53 {d : Nat} {ls : mj_L} {st : List Value} {M : mj_H} : mj_Rn (d + 1) mj_m90 53 ls st M = mq_k5a (d + 1) mj_m90 56 ls M 89 (mq_cb 0 1 4 st M) := mj_R5e (r := (.invokevirtual 84, 3, 0, 89, 12493)) (z := mj_m89) rfl rfl (by decide) (by decide) rfl
theorem s90_56 {d : Nat} {ls : mj_L} {st : List Value} {M : mj_H} : mj_Rn d mj_m90 56 ls st M = mq_k1 d mj_m90 58 M (mj_lo 6 (.istore 4) ls st) := mj_R1 (r := (.istore 4, 2, 0, 0, 0)) rfl rfl
theorem s90_58 {d : Nat} {ls : mj_L} {st : List Value} {M : mj_H} : mj_Rn d mj_m90 58 ls st M = mq_k1 d mj_m90 61 M (mj_lo 6 (.iinc 5 1) ls st) := mj_R1 (r := (.iinc 5 1, 3, 0, 0, 0)) rfl rfl
theorem s90_61 {d : Nat} {ls : mj_L} {st : List Value} {M : mj_H} : mj_Rn d mj_m90 61 ls st M = mj_Rn d mj_m90 27 ls st M := mj_R2 (r := (.goto (-34), 3, 0, 0, 0)) rfl rfl
theorem s90_64 {d : Nat} {ls : mj_L} {st : List Value} {M : mj_H} : mj_Rn d mj_m90 64 ls st M = mj_Rn d mj_m90 65 ls (.int (-1) :: st) M := mj_R0 (r := (.iconst (-1), 1, 0, 0, 0)) rfl rfl
theorem s90_65 {d : Nat} {ls : mj_L} {st : List Value} {M : mj_H} : mj_Rn d mj_m90 65 ls st M = mq_k6 M (mj_re (some .int) (.ireturn) st) := mj_R6 (r := (.ireturn, 1, 0, 0, 0)) rfl rfl
/- 91 PasskeyHouse$Items.saysText(ILjava/lang/String;)Z -/
theorem s91_0 {d : Nat} {ls : mj_L} {st : List Value} {M : mj_H} : mj_Rn d mj_m91 0 ls st M = mq_k0 d mj_m91 1 ls M (mj_lda (mj_lk ls 0) st) := mj_R0 (r := (.aload_n 0, 1, 0, 0, 0)) rfl rfl
theorem s91_1 {d : Nat} {ls : mj_L} {st : List Value} {M : mj_H} : mj_Rn d mj_m91 1 ls st M = mq_k0 d mj_m91 2 ls M (mj_ldi (mj_lk ls 1) st) := mj_R0 (r := (.iload_n 1, 1, 0, 0, 0)) rfl rfl
theorem s91_2 {d : Nat} {ls : mj_L} {st : List Value} {M : mj_H} : mj_Rn (d + 1) mj_m91 2 ls st M = mq_k5a (d + 1) mj_m91 5 ls M 84 (mq_cb 0 1 4 st M) := mj_R5e (r := (.invokevirtual 78, 3, 0, 84, 12472)) (z := mj_m84) rfl rfl (by decide) (by decide) rfl
theorem s91_5 {d : Nat} {ls : mj_L} {st : List Value} {M : mj_H} : mj_Rn d mj_m91 5 ls st M = mj_Rn d mj_m91 6 ls (.int 3 :: st) M := mj_R0 (r := (.iconst 3, 1, 0, 0, 0)) rfl rfl
theorem s91_6 {d : Nat} {ls : mj_L} {st : List Value} {M : mj_H} : mj_Rn d mj_m91 6 ls st M = mq_k2 d mj_m91 ls M (mj_br (.if_icmp .ne 15) 6 st) := mj_R2 (r := (.if_icmp .ne 15, 3, 0, 0, 0)) rfl rfl
theorem s91_9 {d : Nat} {ls : mj_L} {st : List Value} {M : mj_H} : mj_Rn d mj_m91 9 ls st M = mq_k0 d mj_m91 10 ls M (mj_lda (mj_lk ls 0) st) := mj_R0 (r := (.aload_n 0, 1, 0, 0, 0)) rfl rfl
theorem s91_10 {d : Nat} {ls : mj_L} {st : List Value} {M : mj_H} : mj_Rn d mj_m91 10 ls st M = mq_k0 d mj_m91 11 ls M (mj_ldi (mj_lk ls 1) st) := mj_R0 (r := (.iload_n 1, 1, 0, 0, 0)) rfl rfl
theorem s91_11 {d : Nat} {ls : mj_L} {st : List Value} {M : mj_H} : mj_Rn (d + 1) mj_m91 11 ls st M = mq_k5a (d + 1) mj_m91 14 ls M 88 (mq_cb 0 1 4 st M) := mj_R5e (r := (.invokevirtual 81, 3, 0, 88, 12489)) (z := mj_m88) rfl rfl (by decide) (by decide) rfl
theorem s91_14 {d : Nat} {ls : mj_L} {st : List Value} {M : mj_H} : mj_Rn d mj_m91 14 ls st M = mq_k0 d mj_m91 15 ls M (mj_lda (mj_lk ls 2) st) := mj_R0 (r := (.aload_n 2, 1, 0, 0, 0)) rfl rfl
theorem s91_15 {d : Nat} {ls : mj_L} {st : List Value} {M : mj_H} : mj_Rn (d + 1) mj_m91 15 ls st M = mq_k5a (d + 1) mj_m91 18 ls M 92 (mq_cb 0 0 900 st M) := mj_R5e (r := (.invokevirtual 91, 3, 0, 92, 12506)) (z := mj_m92) rfl rfl (by decide) (by decide) rfl
theorem s91_18 {d : Nat} {ls : mj_L} {st : List Value} {M : mj_H} : mj_Rn d mj_m91 18 ls st M = mq_k2 d mj_m91 ls M (mj_br (.if_icmp .eq 5) 18 st) := mj_R2 (r := (.if_icmp .eq 5, 3, 0, 0, 0)) rfl rfl
theorem s91_21 {d : Nat} {ls : mj_L} {st : List Value} {M : mj_H} : mj_Rn d mj_m91 21 ls st M = mj_Rn d mj_m91 22 ls (.int 0 :: st) M := mj_R0 (r := (.iconst 0, 1, 0, 0, 0)) rfl rfl
theorem s91_22 {d : Nat} {ls : mj_L} {st : List Value} {M : mj_H} : mj_Rn d mj_m91 22 ls st M = mq_k6 M (mj_re (some .boolean) (.ireturn) st) := mj_R6 (r := (.ireturn, 1, 0, 0, 0)) rfl rfl
theorem s91_23 {d : Nat} {ls : mj_L} {st : List Value} {M : mj_H} : mj_Rn d mj_m91 23 ls st M = mq_k0 d mj_m91 24 ls M (mj_lda (mj_lk ls 0) st) := mj_R0 (r := (.aload_n 0, 1, 0, 0, 0)) rfl rfl
theorem s91_24 {d : Nat} {ls : mj_L} {st : List Value} {M : mj_H} : mj_Rn d mj_m91 24 ls st M = mq_k0 d mj_m91 25 ls M (mj_ldi (mj_lk ls 1) st) := mj_R0 (r := (.iload_n 1, 1, 0, 0, 0)) rfl rfl
theorem s91_25 {d : Nat} {ls : mj_L} {st : List Value} {M : mj_H} : mj_Rn (d + 1) mj_m91 25 ls st M = mq_k5a (d + 1) mj_m91 28 ls M 94 (mq_cb 0 1 4 st M) := mj_R5e (r := (.invokevirtual 96, 3, 0, 94, 12516)) (z := mj_m94) rfl rfl (by decide) (by decide) rfl
theorem s91_28 {d : Nat} {ls : mj_L} {st : List Value} {M : mj_H} : mj_Rn d mj_m91 28 ls st M = mq_k1 d mj_m91 29 M (mj_lo 5 (.istore 3) ls st) := (mj_R1 (r := (.istore_n 3, 1, 0, 0, 0)) rfl rfl).trans (congrArg (mq_k1 d mj_m91 29 M) (mq_sti (k := 3)))
theorem s91_29 {d : Nat} {ls : mj_L} {st : List Value} {M : mj_H} : mj_Rn d mj_m91 29 ls st M = mj_Rn d mj_m91 30 ls (.int 0 :: st) M := mj_R0 (r := (.iconst 0, 1, 0, 0, 0)) rfl rfl
theorem s91_30 {d : Nat} {ls : mj_L} {st : List Value} {M : mj_H} : mj_Rn d mj_m91 30 ls st M = mq_k1 d mj_m91 32 M (mj_lo 5 (.istore 4) ls st) := mj_R1 (r := (.istore 4, 2, 0, 0, 0)) rfl rfl
theorem s91_32 {d : Nat} {ls : mj_L} {st : List Value} {M : mj_H} : mj_Rn d mj_m91 32 ls st M = mq_k0 d mj_m91 34 ls M (mj_ldi (mj_lk ls 4) st) := mj_R0 (r := (.iload 4, 2, 0, 0, 0)) rfl rfl
theorem s91_34 {d : Nat} {ls : mj_L} {st : List Value} {M : mj_H} : mj_Rn d mj_m91 34 ls st M = mq_k0 d mj_m91 35 ls M (mj_lda (mj_lk ls 2) st) := mj_R0 (r := (.aload_n 2, 1, 0, 0, 0)) rfl rfl
theorem s91_35 {d : Nat} {ls : mj_L} {st : List Value} {M : mj_H} : mj_Rn (d + 1) mj_m91 35 ls st M = mq_k5a (d + 1) mj_m91 38 ls M 92 (mq_cb 0 0 900 st M) := mj_R5e (r := (.invokevirtual 91, 3, 0, 92, 12506)) (z := mj_m92) rfl rfl (by decide) (by decide) rfl
theorem s91_38 {d : Nat} {ls : mj_L} {st : List Value} {M : mj_H} : mj_Rn d mj_m91 38 ls st M = mq_k2 d mj_m91 ls M (mj_br (.if_icmp .ge 31) 38 st) := mj_R2 (r := (.if_icmp .ge 31, 3, 0, 0, 0)) rfl rfl
theorem s91_41 {d : Nat} {ls : mj_L} {st : List Value} {M : mj_H} : mj_Rn d mj_m91 41 ls st M = mq_k0 d mj_m91 42 ls M (mj_lda (mj_lk ls 0) st) := mj_R0 (r := (.aload_n 0, 1, 0, 0, 0)) rfl rfl
theorem s91_42 {d : Nat} {ls : mj_L} {st : List Value} {M : mj_H} : mj_Rn d mj_m91 42 ls st M = mq_k0 d mj_m91 45 ls M (mq_gf 4 5 st M) := (mj_R3 (r := (.getfield 32, 3, 4, 5, 8376)) rfl rfl).trans (congrArg (mq_k0 d mj_m91 45 ls M) mq_gf_eq)
theorem s91_45 {d : Nat} {ls : mj_L} {st : List Value} {M : mj_H} : mj_Rn d mj_m91 45 ls st M = mq_k0 d mj_m91 46 ls M (mj_ldi (mj_lk ls 3) st) := mj_R0 (r := (.iload_n 3, 1, 0, 0, 0)) rfl rfl
theorem s91_46 {d : Nat} {ls : mj_L} {st : List Value} {M : mj_H} : mj_Rn d mj_m91 46 ls st M = mq_k0 d mj_m91 48 ls M (mj_ldi (mj_lk ls 4) st) := mj_R0 (r := (.iload 4, 2, 0, 0, 0)) rfl rfl
theorem s91_48 {d : Nat} {ls : mj_L} {st : List Value} {M : mj_H} : mj_Rn d mj_m91 48 ls st M = mq_k0 d mj_m91 49 ls M (mj_pu .iadd ls st) := mj_R0 (r := (.iadd, 1, 0, 0, 0)) rfl rfl
theorem s91_49 {d : Nat} {ls : mj_L} {st : List Value} {M : mj_H} : mj_Rn (d + 1) mj_m91 49 ls st M = mq_k5a (d + 1) mj_m91 52 ls M 14 (mq_cb 0 1 1 st M) := mj_R5e (r := (.invokevirtual 58, 3, 0, 14, 12459)) (z := mj_m14) rfl rfl (by decide) (by decide) rfl
theorem s91_52 {d : Nat} {ls : mj_L} {st : List Value} {M : mj_H} : mj_Rn d mj_m91 52 ls st M = mq_k0 d mj_m91 53 ls M (mj_lda (mj_lk ls 2) st) := mj_R0 (r := (.aload_n 2, 1, 0, 0, 0)) rfl rfl
theorem s91_53 {d : Nat} {ls : mj_L} {st : List Value} {M : mj_H} : mj_Rn d mj_m91 53 ls st M = mq_k0 d mj_m91 55 ls M (mj_ldi (mj_lk ls 4) st) := mj_R0 (r := (.iload 4, 2, 0, 0, 0)) rfl rfl
theorem s91_55 {d : Nat} {ls : mj_L} {st : List Value} {M : mj_H} : mj_Rn (d + 1) mj_m91 55 ls st M = mq_k5a (d + 1) mj_m91 58 ls M 95 (mq_cb 0 1 900 st M) := mj_R5e (r := (.invokevirtual 99, 3, 0, 95, 12520)) (z := mj_m95) rfl rfl (by decide) (by decide) rfl
theorem s91_58 {d : Nat} {ls : mj_L} {st : List Value} {M : mj_H} : mj_Rn d mj_m91 58 ls st M = mq_k2 d mj_m91 ls M (mj_br (.if_icmp .eq 5) 58 st) := mj_R2 (r := (.if_icmp .eq 5, 3, 0, 0, 0)) rfl rfl
theorem s91_61 {d : Nat} {ls : mj_L} {st : List Value} {M : mj_H} : mj_Rn d mj_m91 61 ls st M = mj_Rn d mj_m91 62 ls (.int 0 :: st) M := mj_R0 (r := (.iconst 0, 1, 0, 0, 0)) rfl rfl
theorem s91_62 {d : Nat} {ls : mj_L} {st : List Value} {M : mj_H} : mj_Rn d mj_m91 62 ls st M = mq_k6 M (mj_re (some .boolean) (.ireturn) st) := mj_R6 (r := (.ireturn, 1, 0, 0, 0)) rfl rfl
theorem s91_63 {d : Nat} {ls : mj_L} {st : List Value} {M : mj_H} : mj_Rn d mj_m91 63 ls st M = mq_k1 d mj_m91 66 M (mj_lo 5 (.iinc 4 1) ls st) := mj_R1 (r := (.iinc 4 1, 3, 0, 0, 0)) rfl rfl
theorem s91_66 {d : Nat} {ls : mj_L} {st : List Value} {M : mj_H} : mj_Rn d mj_m91 66 ls st M = mj_Rn d mj_m91 32 ls st M := mj_R2 (r := (.goto (-34), 3, 0, 0, 0)) rfl rfl
theorem s91_69 {d : Nat} {ls : mj_L} {st : List Value} {M : mj_H} : mj_Rn d mj_m91 69 ls st M = mj_Rn d mj_m91 70 ls (.int 1 :: st) M := mj_R0 (r := (.iconst 1, 1, 0, 0, 0)) rfl rfl
theorem s91_70 {d : Nat} {ls : mj_L} {st : List Value} {M : mj_H} : mj_Rn d mj_m91 70 ls st M = mq_k6 M (mj_re (some .boolean) (.ireturn) st) := mj_R6 (r := (.ireturn, 1, 0, 0, 0)) rfl rfl
/- 104 PasskeyHouse$Items.fits(II)Z -/
theorem s104_0 {d : Nat} {ls : mj_L} {st : List Value} {M : mj_H} : mj_Rn d mj_m104 0 ls st M = mq_k0 d mj_m104 1 ls M (mj_lda (mj_lk ls 0) st) := mj_R0 (r := (.aload_n 0, 1, 0, 0, 0)) rfl rfl
theorem s104_1 {d : Nat} {ls : mj_L} {st : List Value} {M : mj_H} : mj_Rn d mj_m104 1 ls st M = mq_k0 d mj_m104 2 ls M (mj_ldi (mj_lk ls 1) st) := mj_R0 (r := (.iload_n 1, 1, 0, 0, 0)) rfl rfl
theorem s104_2 {d : Nat} {ls : mj_L} {st : List Value} {M : mj_H} : mj_Rn (d + 1) mj_m104 2 ls st M = mq_k5a (d + 1) mj_m104 5 ls M 84 (mq_cb 0 1 4 st M) := mj_R5e (r := (.invokevirtual 78, 3, 0, 84, 12472)) (z := mj_m84) rfl rfl (by decide) (by decide) rfl
theorem s104_5 {d : Nat} {ls : mj_L} {st : List Value} {M : mj_H} : mj_Rn d mj_m104 5 ls st M = mq_k1 d mj_m104 6 M (mj_lo 4 (.istore 3) ls st) := (mj_R1 (r := (.istore_n 3, 1, 0, 0, 0)) rfl rfl).trans (congrArg (mq_k1 d mj_m104 6 M) (mq_sti (k := 3)))
theorem s104_6 {d : Nat} {ls : mj_L} {st : List Value} {M : mj_H} : mj_Rn d mj_m104 6 ls st M = mq_k0 d mj_m104 7 ls M (mj_ldi (mj_lk ls 1) st) := mj_R0 (r := (.iload_n 1, 1, 0, 0, 0)) rfl rfl
theorem s104_7 {d : Nat} {ls : mj_L} {st : List Value} {M : mj_H} : mj_Rn d mj_m104 7 ls st M = mj_Rn d mj_m104 8 ls (.int (-1) :: st) M := mj_R0 (r := (.iconst (-1), 1, 0, 0, 0)) rfl rfl
theorem s104_8 {d : Nat} {ls : mj_L} {st : List Value} {M : mj_H} : mj_Rn d mj_m104 8 ls st M = mq_k2 d mj_m104 ls M (mj_br (.if_icmp .eq 23) 8 st) := mj_R2 (r := (.if_icmp .eq 23, 3, 0, 0, 0)) rfl rfl
theorem s104_11 {d : Nat} {ls : mj_L} {st : List Value} {M : mj_H} : mj_Rn d mj_m104 11 ls st M = mq_k0 d mj_m104 12 ls M (mj_ldi (mj_lk ls 3) st) := mj_R0 (r := (.iload_n 3, 1, 0, 0, 0)) rfl rfl
theorem s104_12 {d : Nat} {ls : mj_L} {st : List Value} {M : mj_H} : mj_Rn d mj_m104 12 ls st M = mq_k0 d mj_m104 13 ls M (mj_ldi (mj_lk ls 2) st) := mj_R0 (r := (.iload_n 2, 1, 0, 0, 0)) rfl rfl
theorem s104_13 {d : Nat} {ls : mj_L} {st : List Value} {M : mj_H} : mj_Rn d mj_m104 13 ls st M = mq_k2 d mj_m104 ls M (mj_br (.if_icmp .eq 18) 13 st) := mj_R2 (r := (.if_icmp .eq 18, 3, 0, 0, 0)) rfl rfl
theorem s104_16 {d : Nat} {ls : mj_L} {st : List Value} {M : mj_H} : mj_Rn d mj_m104 16 ls st M = mq_k0 d mj_m104 17 ls M (mj_ldi (mj_lk ls 2) st) := mj_R0 (r := (.iload_n 2, 1, 0, 0, 0)) rfl rfl
theorem s104_17 {d : Nat} {ls : mj_L} {st : List Value} {M : mj_H} : mj_Rn d mj_m104 17 ls st M = mj_Rn d mj_m104 19 ls (.int 8 :: st) M := mj_R0 (r := (.bipush 8, 2, 0, 0, 0)) rfl rfl
theorem s104_19 {d : Nat} {ls : mj_L} {st : List Value} {M : mj_H} : mj_Rn d mj_m104 19 ls st M = mq_k2 d mj_m104 ls M (mj_br (.if_icmp .ne 16) 19 st) := mj_R2 (r := (.if_icmp .ne 16, 3, 0, 0, 0)) rfl rfl
theorem s104_22 {d : Nat} {ls : mj_L} {st : List Value} {M : mj_H} : mj_Rn d mj_m104 22 ls st M = mq_k0 d mj_m104 23 ls M (mj_ldi (mj_lk ls 3) st) := mj_R0 (r := (.iload_n 3, 1, 0, 0, 0)) rfl rfl
theorem s104_23 {d : Nat} {ls : mj_L} {st : List Value} {M : mj_H} : mj_Rn d mj_m104 23 ls st M = mq_k2 d mj_m104 ls M (mj_br (.ifCond .eq 8) 23 st) := mj_R2 (r := (.ifCond .eq 8, 3, 0, 0, 0)) rfl rfl
theorem s104_26 {d : Nat} {ls : mj_L} {st : List Value} {M : mj_H} : mj_Rn d mj_m104 26 ls st M = mq_k0 d mj_m104 27 ls M (mj_ldi (mj_lk ls 3) st) := mj_R0 (r := (.iload_n 3, 1, 0, 0, 0)) rfl rfl
theorem s104_27 {d : Nat} {ls : mj_L} {st : List Value} {M : mj_H} : mj_Rn d mj_m104 27 ls st M = mj_Rn d mj_m104 28 ls (.int 1 :: st) M := mj_R0 (r := (.iconst 1, 1, 0, 0, 0)) rfl rfl
theorem s104_28 {d : Nat} {ls : mj_L} {st : List Value} {M : mj_H} : mj_Rn d mj_m104 28 ls st M = mq_k2 d mj_m104 ls M (mj_br (.if_icmp .ne 7) 28 st) := mj_R2 (r := (.if_icmp .ne 7, 3, 0, 0, 0)) rfl rfl
theorem s104_31 {d : Nat} {ls : mj_L} {st : List Value} {M : mj_H} : mj_Rn d mj_m104 31 ls st M = mj_Rn d mj_m104 32 ls (.int 1 :: st) M := mj_R0 (r := (.iconst 1, 1, 0, 0, 0)) rfl rfl
theorem s104_32 {d : Nat} {ls : mj_L} {st : List Value} {M : mj_H} : mj_Rn d mj_m104 32 ls st M = mj_Rn d mj_m104 36 ls st M := mj_R2 (r := (.goto 4, 3, 0, 0, 0)) rfl rfl
theorem s104_35 {d : Nat} {ls : mj_L} {st : List Value} {M : mj_H} : mj_Rn d mj_m104 35 ls st M = mj_Rn d mj_m104 36 ls (.int 0 :: st) M := mj_R0 (r := (.iconst 0, 1, 0, 0, 0)) rfl rfl
theorem s104_36 {d : Nat} {ls : mj_L} {st : List Value} {M : mj_H} : mj_Rn d mj_m104 36 ls st M = mq_k6 M (mj_re (some .boolean) (.ireturn) st) := mj_R6 (r := (.ireturn, 1, 0, 0, 0)) rfl rfl
/- 105 PasskeyHouse$Items.listFits(ILjava/lang/String;I)Z -/
theorem s105_0 {d : Nat} {ls : mj_L} {st : List Value} {M : mj_H} : mj_Rn d mj_m105 0 ls st M = mq_k0 d mj_m105 1 ls M (mj_lda (mj_lk ls 0) st) := mj_R0 (r := (.aload_n 0, 1, 0, 0, 0)) rfl rfl
theorem s105_1 {d : Nat} {ls : mj_L} {st : List Value} {M : mj_H} : mj_Rn d mj_m105 1 ls st M = mq_k0 d mj_m105 2 ls M (mj_ldi (mj_lk ls 1) st) := mj_R0 (r := (.iload_n 1, 1, 0, 0, 0)) rfl rfl
theorem s105_2 {d : Nat} {ls : mj_L} {st : List Value} {M : mj_H} : mj_Rn d mj_m105 2 ls st M = mj_Rn d mj_m105 3 ls (.int 4 :: st) M := mj_R0 (r := (.iconst 4, 1, 0, 0, 0)) rfl rfl
theorem s105_3 {d : Nat} {ls : mj_L} {st : List Value} {M : mj_H} : mj_Rn (d + 1) mj_m105 3 ls st M = mq_k5a (d + 1) mj_m105 6 ls M 104 (mq_cb 0 2 4 st M) := mj_R5e (r := (.invokevirtual 106, 3, 0, 104, 16423)) (z := mj_m104) rfl rfl (by decide) (by decide) rfl
theorem s105_6 {d : Nat} {ls : mj_L} {st : List Value} {M : mj_H} : mj_Rn d mj_m105 6 ls st M = mq_k2 d mj_m105 ls M (mj_br (.ifCond .ne 5) 6 st) := mj_R2 (r := (.ifCond .ne 5, 3, 0, 0, 0)) rfl rfl
theorem s105_9 {d : Nat} {ls : mj_L} {st : List Value} {M : mj_H} : mj_Rn d mj_m105 9 ls st M = mj_Rn d mj_m105 10 ls (.int 0 :: st) M := mj_R0 (r := (.iconst 0, 1, 0, 0, 0)) rfl rfl
theorem s105_10 {d : Nat} {ls : mj_L} {st : List Value} {M : mj_H} : mj_Rn d mj_m105 10 ls st M = mq_k6 M (mj_re (some .boolean) (.ireturn) st) := mj_R6 (r := (.ireturn, 1, 0, 0, 0)) rfl rfl
theorem s105_11 {d : Nat} {ls : mj_L} {st : List Value} {M : mj_H} : mj_Rn d mj_m105 11 ls st M = mq_k0 d mj_m105 12 ls M (mj_ldi (mj_lk ls 1) st) := mj_R0 (r := (.iload_n 1, 1, 0, 0, 0)) rfl rfl
theorem s105_12 {d : Nat} {ls : mj_L} {st : List Value} {M : mj_H} : mj_Rn d mj_m105 12 ls st M = mj_Rn d mj_m105 13 ls (.int 1 :: st) M := mj_R0 (r := (.iconst 1, 1, 0, 0, 0)) rfl rfl
theorem s105_13 {d : Nat} {ls : mj_L} {st : List Value} {M : mj_H} : mj_Rn d mj_m105 13 ls st M = mq_k0 d mj_m105 14 ls M (mj_pu .iadd ls st) := mj_R0 (r := (.iadd, 1, 0, 0, 0)) rfl rfl
theorem s105_14 {d : Nat} {ls : mj_L} {st : List Value} {M : mj_H} : mj_Rn d mj_m105 14 ls st M = mq_k1 d mj_m105 16 M (mj_lo 6 (.istore 4) ls st) := mj_R1 (r := (.istore 4, 2, 0, 0, 0)) rfl rfl
theorem s105_16 {d : Nat} {ls : mj_L} {st : List Value} {M : mj_H} : mj_Rn d mj_m105 16 ls st M = mj_Rn d mj_m105 17 ls (.int 0 :: st) M := mj_R0 (r := (.iconst 0, 1, 0, 0, 0)) rfl rfl
theorem s105_17 {d : Nat} {ls : mj_L} {st : List Value} {M : mj_H} : mj_Rn d mj_m105 17 ls st M = mq_k1 d mj_m105 19 M (mj_lo 6 (.istore 5) ls st) := mj_R1 (r := (.istore 5, 2, 0, 0, 0)) rfl rfl
theorem s105_19 {d : Nat} {ls : mj_L} {st : List Value} {M : mj_H} : mj_Rn d mj_m105 19 ls st M = mq_k0 d mj_m105 21 ls M (mj_ldi (mj_lk ls 5) st) := mj_R0 (r := (.iload 5, 2, 0, 0, 0)) rfl rfl
theorem s105_21 {d : Nat} {ls : mj_L} {st : List Value} {M : mj_H} : mj_Rn d mj_m105 21 ls st M = mq_k0 d mj_m105 22 ls M (mj_lda (mj_lk ls 0) st) := mj_R0 (r := (.aload_n 0, 1, 0, 0, 0)) rfl rfl
theorem s105_22 {d : Nat} {ls : mj_L} {st : List Value} {M : mj_H} : mj_Rn d mj_m105 22 ls st M = mq_k0 d mj_m105 23 ls M (mj_ldi (mj_lk ls 1) st) := mj_R0 (r := (.iload_n 1, 1, 0, 0, 0)) rfl rfl
theorem s105_23 {d : Nat} {ls : mj_L} {st : List Value} {M : mj_H} : mj_Rn (d + 1) mj_m105 23 ls st M = mq_k5a (d + 1) mj_m105 26 ls M 88 (mq_cb 0 1 4 st M) := mj_R5e (r := (.invokevirtual 81, 3, 0, 88, 12489)) (z := mj_m88) rfl rfl (by decide) (by decide) rfl
theorem s105_26 {d : Nat} {ls : mj_L} {st : List Value} {M : mj_H} : mj_Rn d mj_m105 26 ls st M = mq_k2 d mj_m105 ls M (mj_br (.if_icmp .ge 60) 26 st) := mj_R2 (r := (.if_icmp .ge 60, 3, 0, 0, 0)) rfl rfl
theorem s105_29 {d : Nat} {ls : mj_L} {st : List Value} {M : mj_H} : mj_Rn d mj_m105 29 ls st M = mq_k0 d mj_m105 30 ls M (mj_lda (mj_lk ls 0) st) := mj_R0 (r := (.aload_n 0, 1, 0, 0, 0)) rfl rfl
theorem s105_30 {d : Nat} {ls : mj_L} {st : List Value} {M : mj_H} : mj_Rn d mj_m105 30 ls st M = mq_k0 d mj_m105 32 ls M (mj_ldi (mj_lk ls 4) st) := mj_R0 (r := (.iload 4, 2, 0, 0, 0)) rfl rfl
theorem s105_32 {d : Nat} {ls : mj_L} {st : List Value} {M : mj_H} : mj_Rn (d + 1) mj_m105 32 ls st M = mq_k5a (d + 1) mj_m105 35 ls M 84 (mq_cb 0 1 4 st M) := mj_R5e (r := (.invokevirtual 78, 3, 0, 84, 12472)) (z := mj_m84) rfl rfl (by decide) (by decide) rfl
theorem s105_35 {d : Nat} {ls : mj_L} {st : List Value} {M : mj_H} : mj_Rn d mj_m105 35 ls st M = mj_Rn d mj_m105 36 ls (.int 5 :: st) M := mj_R0 (r := (.iconst 5, 1, 0, 0, 0)) rfl rfl
theorem s105_36 {d : Nat} {ls : mj_L} {st : List Value} {M : mj_H} : mj_Rn d mj_m105 36 ls st M = mq_k2 d mj_m105 ls M (mj_br (.if_icmp .ne 34) 36 st) := mj_R2 (r := (.if_icmp .ne 34, 3, 0, 0, 0)) rfl rfl
theorem s105_39 {d : Nat} {ls : mj_L} {st : List Value} {M : mj_H} : mj_Rn d mj_m105 39 ls st M = mq_k0 d mj_m105 40 ls M (mj_lda (mj_lk ls 0) st) := mj_R0 (r := (.aload_n 0, 1, 0, 0, 0)) rfl rfl
theorem s105_40 {d : Nat} {ls : mj_L} {st : List Value} {M : mj_H} : mj_Rn d mj_m105 40 ls st M = mq_k0 d mj_m105 41 ls M (mj_lda (mj_lk ls 0) st) := mj_R0 (r := (.aload_n 0, 1, 0, 0, 0)) rfl rfl
theorem s105_41 {d : Nat} {ls : mj_L} {st : List Value} {M : mj_H} : mj_Rn d mj_m105 41 ls st M = mq_k0 d mj_m105 43 ls M (mj_ldi (mj_lk ls 4) st) := mj_R0 (r := (.iload 4, 2, 0, 0, 0)) rfl rfl
theorem s105_43 {d : Nat} {ls : mj_L} {st : List Value} {M : mj_H} : mj_Rn d mj_m105 43 ls st M = mq_k0 d mj_m105 44 ls M (mj_lda (mj_lk ls 2) st) := mj_R0 (r := (.aload_n 2, 1, 0, 0, 0)) rfl rfl
theorem s105_44 {d : Nat} {ls : mj_L} {st : List Value} {M : mj_H} : mj_Rn (d + 1) mj_m105 44 ls st M = mq_k5a (d + 1) mj_m105 47 ls M 90 (mq_cb 0 2 4 st M) := mj_R5e (r := (.invokevirtual 109, 3, 0, 90, 16424)) (z := mj_m90) rfl rfl (by decide) (by decide) rfl
theorem s105_47 {d : Nat} {ls : mj_L} {st : List Value} {M : mj_H} : mj_Rn d mj_m105 47 ls st M = mq_k0 d mj_m105 48 ls M (mj_ldi (mj_lk ls 3) st) := mj_R0 (r := (.iload_n 3, 1, 0, 0, 0)) rfl rfl
theorem s105_48 {d : Nat} {ls : mj_L} {st : List Value} {M : mj_H} : mj_Rn (d + 1) mj_m105 48 ls st M = mq_k5a (d + 1) mj_m105 51 ls M 104 (mq_cb 0 2 4 st M) := mj_R5e (r := (.invokevirtual 106, 3, 0, 104, 16423)) (z := mj_m104) rfl rfl (by decide) (by decide) rfl
theorem s105_51 {d : Nat} {ls : mj_L} {st : List Value} {M : mj_H} : mj_Rn d mj_m105 51 ls st M = mq_k2 d mj_m105 ls M (mj_br (.ifCond .eq 19) 51 st) := mj_R2 (r := (.ifCond .eq 19, 3, 0, 0, 0)) rfl rfl
theorem s105_54 {d : Nat} {ls : mj_L} {st : List Value} {M : mj_H} : mj_Rn d mj_m105 54 ls st M = mq_k0 d mj_m105 55 ls M (mj_lda (mj_lk ls 0) st) := mj_R0 (r := (.aload_n 0, 1, 0, 0, 0)) rfl rfl
theorem s105_55 {d : Nat} {ls : mj_L} {st : List Value} {M : mj_H} : mj_Rn d mj_m105 55 ls st M = mq_k0 d mj_m105 56 ls M (mj_lda (mj_lk ls 0) st) := mj_R0 (r := (.aload_n 0, 1, 0, 0, 0)) rfl rfl
theorem s105_56 {d : Nat} {ls : mj_L} {st : List Value} {M : mj_H} : mj_Rn d mj_m105 56 ls st M = mq_k0 d mj_m105 58 ls M (mj_ldi (mj_lk ls 4) st) := mj_R0 (r := (.iload 4, 2, 0, 0, 0)) rfl rfl
theorem s105_58 {d : Nat} {ls : mj_L} {st : List Value} {M : mj_H} : mj_Rn d mj_m105 58 ls st M = mj_Rn d mj_m105 60 ls (.ref 7 :: st) M := mj_R3 (r := (.ldc 113, 2, 2, 12, 16425)) rfl rfl
theorem s105_60 {d : Nat} {ls : mj_L} {st : List Value} {M : mj_H} : mj_Rn (d + 1) mj_m105 60 ls st M = mq_k5a (d + 1) mj_m105 63 ls M 90 (mq_cb 0 2 4 st M) := mj_R5e (r := (.invokevirtual 109, 3, 0, 90, 16424)) (z := mj_m90) rfl rfl (by decide) (by decide) rfl
theorem s105_63 {d : Nat} {ls : mj_L} {st : List Value} {M : mj_H} : mj_Rn d mj_m105 63 ls st M = mj_Rn d mj_m105 64 ls (.int 3 :: st) M := mj_R0 (r := (.iconst 3, 1, 0, 0, 0)) rfl rfl
theorem s105_64 {d : Nat} {ls : mj_L} {st : List Value} {M : mj_H} : mj_Rn (d + 1) mj_m105 64 ls st M = mq_k5a (d + 1) mj_m105 67 ls M 104 (mq_cb 0 2 4 st M) := mj_R5e (r := (.invokevirtual 106, 3, 0, 104, 16423)) (z := mj_m104) rfl rfl (by decide) (by decide) rfl
theorem s105_67 {d : Nat} {ls : mj_L} {st : List Value} {M : mj_H} : mj_Rn d mj_m105 67 ls st M = mq_k2 d mj_m105 ls M (mj_br (.ifCond .ne 5) 67 st) := mj_R2 (r := (.ifCond .ne 5, 3, 0, 0, 0)) rfl rfl
theorem s105_70 {d : Nat} {ls : mj_L} {st : List Value} {M : mj_H} : mj_Rn d mj_m105 70 ls st M = mj_Rn d mj_m105 71 ls (.int 0 :: st) M := mj_R0 (r := (.iconst 0, 1, 0, 0, 0)) rfl rfl
theorem s105_71 {d : Nat} {ls : mj_L} {st : List Value} {M : mj_H} : mj_Rn d mj_m105 71 ls st M = mq_k6 M (mj_re (some .boolean) (.ireturn) st) := mj_R6 (r := (.ireturn, 1, 0, 0, 0)) rfl rfl
theorem s105_72 {d : Nat} {ls : mj_L} {st : List Value} {M : mj_H} : mj_Rn d mj_m105 72 ls st M = mq_k0 d mj_m105 73 ls M (mj_lda (mj_lk ls 0) st) := mj_R0 (r := (.aload_n 0, 1, 0, 0, 0)) rfl rfl
theorem s105_73 {d : Nat} {ls : mj_L} {st : List Value} {M : mj_H} : mj_Rn d mj_m105 73 ls st M = mq_k0 d mj_m105 75 ls M (mj_ldi (mj_lk ls 4) st) := mj_R0 (r := (.iload 4, 2, 0, 0, 0)) rfl rfl
theorem s105_75 {d : Nat} {ls : mj_L} {st : List Value} {M : mj_H} : mj_Rn (d + 1) mj_m105 75 ls st M = mq_k5a (d + 1) mj_m105 78 ls M 89 (mq_cb 0 1 4 st M) := mj_R5e (r := (.invokevirtual 84, 3, 0, 89, 12493)) (z := mj_m89) rfl rfl (by decide) (by decide) rfl
theorem s105_78 {d : Nat} {ls : mj_L} {st : List Value} {M : mj_H} : mj_Rn d mj_m105 78 ls st M = mq_k1 d mj_m105 80 M (mj_lo 6 (.istore 4) ls st) := mj_R1 (r := (.istore 4, 2, 0, 0, 0)) rfl rfl
theorem s105_80 {d : Nat} {ls : mj_L} {st : List Value} {M : mj_H} : mj_Rn d mj_m105 80 ls st M = mq_k1 d mj_m105 83 M (mj_lo 6 (.iinc 5 1) ls st) := mj_R1 (r := (.iinc 5 1, 3, 0, 0, 0)) rfl rfl
theorem s105_83 {d : Nat} {ls : mj_L} {st : List Value} {M : mj_H} : mj_Rn d mj_m105 83 ls st M = mj_Rn d mj_m105 19 ls st M := mj_R2 (r := (.goto (-64), 3, 0, 0, 0)) rfl rfl
theorem s105_86 {d : Nat} {ls : mj_L} {st : List Value} {M : mj_H} : mj_Rn d mj_m105 86 ls st M = mj_Rn d mj_m105 87 ls (.int 1 :: st) M := mj_R0 (r := (.iconst 1, 1, 0, 0, 0)) rfl rfl
theorem s105_87 {d : Nat} {ls : mj_L} {st : List Value} {M : mj_H} : mj_Rn d mj_m105 87 ls st M = mq_k6 M (mj_re (some .boolean) (.ireturn) st) := mj_R6 (r := (.ireturn, 1, 0, 0, 0)) rfl rfl
/- 107 PasskeyHouse$Items.listIsWhole(ILjava/lang/String;)Z -/
theorem s107_0 {d : Nat} {ls : mj_L} {st : List Value} {M : mj_H} : mj_Rn d mj_m107 0 ls st M = mq_k0 d mj_m107 1 ls M (mj_ldi (mj_lk ls 1) st) := mj_R0 (r := (.iload_n 1, 1, 0, 0, 0)) rfl rfl
theorem s107_1 {d : Nat} {ls : mj_L} {st : List Value} {M : mj_H} : mj_Rn d mj_m107 1 ls st M = mj_Rn d mj_m107 2 ls (.int 1 :: st) M := mj_R0 (r := (.iconst 1, 1, 0, 0, 0)) rfl rfl
theorem s107_2 {d : Nat} {ls : mj_L} {st : List Value} {M : mj_H} : mj_Rn d mj_m107 2 ls st M = mq_k0 d mj_m107 3 ls M (mj_pu .iadd ls st) := mj_R0 (r := (.iadd, 1, 0, 0, 0)) rfl rfl
theorem s107_3 {d : Nat} {ls : mj_L} {st : List Value} {M : mj_H} : mj_Rn d mj_m107 3 ls st M = mq_k1 d mj_m107 4 M (mj_lo 5 (.istore 3) ls st) := (mj_R1 (r := (.istore_n 3, 1, 0, 0, 0)) rfl rfl).trans (congrArg (mq_k1 d mj_m107 4 M) (mq_sti (k := 3)))
theorem s107_4 {d : Nat} {ls : mj_L} {st : List Value} {M : mj_H} : mj_Rn d mj_m107 4 ls st M = mj_Rn d mj_m107 5 ls (.int 0 :: st) M := mj_R0 (r := (.iconst 0, 1, 0, 0, 0)) rfl rfl
theorem s107_5 {d : Nat} {ls : mj_L} {st : List Value} {M : mj_H} : mj_Rn d mj_m107 5 ls st M = mq_k1 d mj_m107 7 M (mj_lo 5 (.istore 4) ls st) := mj_R1 (r := (.istore 4, 2, 0, 0, 0)) rfl rfl
theorem s107_7 {d : Nat} {ls : mj_L} {st : List Value} {M : mj_H} : mj_Rn d mj_m107 7 ls st M = mq_k0 d mj_m107 9 ls M (mj_ldi (mj_lk ls 4) st) := mj_R0 (r := (.iload 4, 2, 0, 0, 0)) rfl rfl
theorem s107_9 {d : Nat} {ls : mj_L} {st : List Value} {M : mj_H} : mj_Rn d mj_m107 9 ls st M = mq_k0 d mj_m107 10 ls M (mj_lda (mj_lk ls 0) st) := mj_R0 (r := (.aload_n 0, 1, 0, 0, 0)) rfl rfl
theorem s107_10 {d : Nat} {ls : mj_L} {st : List Value} {M : mj_H} : mj_Rn d mj_m107 10 ls st M = mq_k0 d mj_m107 11 ls M (mj_ldi (mj_lk ls 1) st) := mj_R0 (r := (.iload_n 1, 1, 0, 0, 0)) rfl rfl
theorem s107_11 {d : Nat} {ls : mj_L} {st : List Value} {M : mj_H} : mj_Rn (d + 1) mj_m107 11 ls st M = mq_k5a (d + 1) mj_m107 14 ls M 88 (mq_cb 0 1 4 st M) := mj_R5e (r := (.invokevirtual 81, 3, 0, 88, 12489)) (z := mj_m88) rfl rfl (by decide) (by decide) rfl
theorem s107_14 {d : Nat} {ls : mj_L} {st : List Value} {M : mj_H} : mj_Rn d mj_m107 14 ls st M = mq_k2 d mj_m107 ls M (mj_br (.if_icmp .ge 38) 14 st) := mj_R2 (r := (.if_icmp .ge 38, 3, 0, 0, 0)) rfl rfl
theorem s107_17 {d : Nat} {ls : mj_L} {st : List Value} {M : mj_H} : mj_Rn d mj_m107 17 ls st M = mq_k0 d mj_m107 18 ls M (mj_lda (mj_lk ls 0) st) := mj_R0 (r := (.aload_n 0, 1, 0, 0, 0)) rfl rfl
theorem s107_18 {d : Nat} {ls : mj_L} {st : List Value} {M : mj_H} : mj_Rn d mj_m107 18 ls st M = mq_k0 d mj_m107 19 ls M (mj_ldi (mj_lk ls 3) st) := mj_R0 (r := (.iload_n 3, 1, 0, 0, 0)) rfl rfl
theorem s107_19 {d : Nat} {ls : mj_L} {st : List Value} {M : mj_H} : mj_Rn d mj_m107 19 ls st M = mq_k0 d mj_m107 20 ls M (mj_lda (mj_lk ls 2) st) := mj_R0 (r := (.aload_n 2, 1, 0, 0, 0)) rfl rfl
theorem s107_20 {d : Nat} {ls : mj_L} {st : List Value} {M : mj_H} : mj_Rn (d + 1) mj_m107 20 ls st M = mq_k5a (d + 1) mj_m107 23 ls M 90 (mq_cb 0 2 4 st M) := mj_R5e (r := (.invokevirtual 109, 3, 0, 90, 16424)) (z := mj_m90) rfl rfl (by decide) (by decide) rfl
theorem s107_23 {d : Nat} {ls : mj_L} {st : List Value} {M : mj_H} : mj_Rn d mj_m107 23 ls st M = mj_Rn d mj_m107 24 ls (.int (-1) :: st) M := mj_R0 (r := (.iconst (-1), 1, 0, 0, 0)) rfl rfl
theorem s107_24 {d : Nat} {ls : mj_L} {st : List Value} {M : mj_H} : mj_Rn d mj_m107 24 ls st M = mq_k2 d mj_m107 ls M (mj_br (.if_icmp .eq 14) 24 st) := mj_R2 (r := (.if_icmp .eq 14, 3, 0, 0, 0)) rfl rfl
theorem s107_27 {d : Nat} {ls : mj_L} {st : List Value} {M : mj_H} : mj_Rn d mj_m107 27 ls st M = mq_k0 d mj_m107 28 ls M (mj_lda (mj_lk ls 0) st) := mj_R0 (r := (.aload_n 0, 1, 0, 0, 0)) rfl rfl
theorem s107_28 {d : Nat} {ls : mj_L} {st : List Value} {M : mj_H} : mj_Rn d mj_m107 28 ls st M = mq_k0 d mj_m107 29 ls M (mj_ldi (mj_lk ls 3) st) := mj_R0 (r := (.iload_n 3, 1, 0, 0, 0)) rfl rfl
theorem s107_29 {d : Nat} {ls : mj_L} {st : List Value} {M : mj_H} : mj_Rn d mj_m107 29 ls st M = mj_Rn d mj_m107 31 ls (.ref 7 :: st) M := mj_R3 (r := (.ldc 113, 2, 2, 12, 16425)) rfl rfl
theorem s107_31 {d : Nat} {ls : mj_L} {st : List Value} {M : mj_H} : mj_Rn (d + 1) mj_m107 31 ls st M = mq_k5a (d + 1) mj_m107 34 ls M 90 (mq_cb 0 2 4 st M) := mj_R5e (r := (.invokevirtual 109, 3, 0, 90, 16424)) (z := mj_m90) rfl rfl (by decide) (by decide) rfl
theorem s107_34 {d : Nat} {ls : mj_L} {st : List Value} {M : mj_H} : mj_Rn d mj_m107 34 ls st M = mj_Rn d mj_m107 35 ls (.int (-1) :: st) M := mj_R0 (r := (.iconst (-1), 1, 0, 0, 0)) rfl rfl
theorem s107_35 {d : Nat} {ls : mj_L} {st : List Value} {M : mj_H} : mj_Rn d mj_m107 35 ls st M = mq_k2 d mj_m107 ls M (mj_br (.if_icmp .ne 5) 35 st) := mj_R2 (r := (.if_icmp .ne 5, 3, 0, 0, 0)) rfl rfl
theorem s107_38 {d : Nat} {ls : mj_L} {st : List Value} {M : mj_H} : mj_Rn d mj_m107 38 ls st M = mj_Rn d mj_m107 39 ls (.int 0 :: st) M := mj_R0 (r := (.iconst 0, 1, 0, 0, 0)) rfl rfl
theorem s107_39 {d : Nat} {ls : mj_L} {st : List Value} {M : mj_H} : mj_Rn d mj_m107 39 ls st M = mq_k6 M (mj_re (some .boolean) (.ireturn) st) := mj_R6 (r := (.ireturn, 1, 0, 0, 0)) rfl rfl
theorem s107_40 {d : Nat} {ls : mj_L} {st : List Value} {M : mj_H} : mj_Rn d mj_m107 40 ls st M = mq_k0 d mj_m107 41 ls M (mj_lda (mj_lk ls 0) st) := mj_R0 (r := (.aload_n 0, 1, 0, 0, 0)) rfl rfl
theorem s107_41 {d : Nat} {ls : mj_L} {st : List Value} {M : mj_H} : mj_Rn d mj_m107 41 ls st M = mq_k0 d mj_m107 42 ls M (mj_ldi (mj_lk ls 3) st) := mj_R0 (r := (.iload_n 3, 1, 0, 0, 0)) rfl rfl
theorem s107_42 {d : Nat} {ls : mj_L} {st : List Value} {M : mj_H} : mj_Rn (d + 1) mj_m107 42 ls st M = mq_k5a (d + 1) mj_m107 45 ls M 89 (mq_cb 0 1 4 st M) := mj_R5e (r := (.invokevirtual 84, 3, 0, 89, 12493)) (z := mj_m89) rfl rfl (by decide) (by decide) rfl
theorem s107_45 {d : Nat} {ls : mj_L} {st : List Value} {M : mj_H} : mj_Rn d mj_m107 45 ls st M = mq_k1 d mj_m107 46 M (mj_lo 5 (.istore 3) ls st) := (mj_R1 (r := (.istore_n 3, 1, 0, 0, 0)) rfl rfl).trans (congrArg (mq_k1 d mj_m107 46 M) (mq_sti (k := 3)))
theorem s107_46 {d : Nat} {ls : mj_L} {st : List Value} {M : mj_H} : mj_Rn d mj_m107 46 ls st M = mq_k1 d mj_m107 49 M (mj_lo 5 (.iinc 4 1) ls st) := mj_R1 (r := (.iinc 4 1, 3, 0, 0, 0)) rfl rfl
theorem s107_49 {d : Nat} {ls : mj_L} {st : List Value} {M : mj_H} : mj_Rn d mj_m107 49 ls st M = mj_Rn d mj_m107 7 ls st M := mj_R2 (r := (.goto (-42), 3, 0, 0, 0)) rfl rfl
theorem s107_52 {d : Nat} {ls : mj_L} {st : List Value} {M : mj_H} : mj_Rn d mj_m107 52 ls st M = mj_Rn d mj_m107 53 ls (.int 1 :: st) M := mj_R0 (r := (.iconst 1, 1, 0, 0, 0)) rfl rfl
theorem s107_53 {d : Nat} {ls : mj_L} {st : List Value} {M : mj_H} : mj_Rn d mj_m107 53 ls st M = mq_k6 M (mj_re (some .boolean) (.ireturn) st) := mj_R6 (r := (.ireturn, 1, 0, 0, 0)) rfl rfl
/- 108 PasskeyHouse$Items.isLong(III)Z -/
theorem s108_0 {d : Nat} {ls : mj_L} {st : List Value} {M : mj_H} : mj_Rn d mj_m108 0 ls st M = mq_k0 d mj_m108 1 ls M (mj_lda (mj_lk ls 0) st) := mj_R0 (r := (.aload_n 0, 1, 0, 0, 0)) rfl rfl
theorem s108_1 {d : Nat} {ls : mj_L} {st : List Value} {M : mj_H} : mj_Rn d mj_m108 1 ls st M = mq_k0 d mj_m108 2 ls M (mj_ldi (mj_lk ls 1) st) := mj_R0 (r := (.iload_n 1, 1, 0, 0, 0)) rfl rfl
theorem s108_2 {d : Nat} {ls : mj_L} {st : List Value} {M : mj_H} : mj_Rn (d + 1) mj_m108 2 ls st M = mq_k5a (d + 1) mj_m108 5 ls M 88 (mq_cb 0 1 4 st M) := mj_R5e (r := (.invokevirtual 81, 3, 0, 88, 12489)) (z := mj_m88) rfl rfl (by decide) (by decide) rfl
theorem s108_5 {d : Nat} {ls : mj_L} {st : List Value} {M : mj_H} : mj_Rn d mj_m108 5 ls st M = mq_k0 d mj_m108 6 ls M (mj_ldi (mj_lk ls 2) st) := mj_R0 (r := (.iload_n 2, 1, 0, 0, 0)) rfl rfl
theorem s108_6 {d : Nat} {ls : mj_L} {st : List Value} {M : mj_H} : mj_Rn d mj_m108 6 ls st M = mq_k2 d mj_m108 ls M (mj_br (.if_icmp .lt 16) 6 st) := mj_R2 (r := (.if_icmp .lt 16, 3, 0, 0, 0)) rfl rfl
theorem s108_9 {d : Nat} {ls : mj_L} {st : List Value} {M : mj_H} : mj_Rn d mj_m108 9 ls st M = mq_k0 d mj_m108 10 ls M (mj_lda (mj_lk ls 0) st) := mj_R0 (r := (.aload_n 0, 1, 0, 0, 0)) rfl rfl
theorem s108_10 {d : Nat} {ls : mj_L} {st : List Value} {M : mj_H} : mj_Rn d mj_m108 10 ls st M = mq_k0 d mj_m108 11 ls M (mj_ldi (mj_lk ls 1) st) := mj_R0 (r := (.iload_n 1, 1, 0, 0, 0)) rfl rfl
theorem s108_11 {d : Nat} {ls : mj_L} {st : List Value} {M : mj_H} : mj_Rn (d + 1) mj_m108 11 ls st M = mq_k5a (d + 1) mj_m108 14 ls M 88 (mq_cb 0 1 4 st M) := mj_R5e (r := (.invokevirtual 81, 3, 0, 88, 12489)) (z := mj_m88) rfl rfl (by decide) (by decide) rfl
theorem s108_14 {d : Nat} {ls : mj_L} {st : List Value} {M : mj_H} : mj_Rn d mj_m108 14 ls st M = mq_k0 d mj_m108 15 ls M (mj_ldi (mj_lk ls 3) st) := mj_R0 (r := (.iload_n 3, 1, 0, 0, 0)) rfl rfl
theorem s108_15 {d : Nat} {ls : mj_L} {st : List Value} {M : mj_H} : mj_Rn d mj_m108 15 ls st M = mq_k2 d mj_m108 ls M (mj_br (.if_icmp .gt 7) 15 st) := mj_R2 (r := (.if_icmp .gt 7, 3, 0, 0, 0)) rfl rfl
theorem s108_18 {d : Nat} {ls : mj_L} {st : List Value} {M : mj_H} : mj_Rn d mj_m108 18 ls st M = mj_Rn d mj_m108 19 ls (.int 1 :: st) M := mj_R0 (r := (.iconst 1, 1, 0, 0, 0)) rfl rfl
theorem s108_19 {d : Nat} {ls : mj_L} {st : List Value} {M : mj_H} : mj_Rn d mj_m108 19 ls st M = mj_Rn d mj_m108 23 ls st M := mj_R2 (r := (.goto 4, 3, 0, 0, 0)) rfl rfl
theorem s108_22 {d : Nat} {ls : mj_L} {st : List Value} {M : mj_H} : mj_Rn d mj_m108 22 ls st M = mj_Rn d mj_m108 23 ls (.int 0 :: st) M := mj_R0 (r := (.iconst 0, 1, 0, 0, 0)) rfl rfl
theorem s108_23 {d : Nat} {ls : mj_L} {st : List Value} {M : mj_H} : mj_Rn d mj_m108 23 ls st M = mq_k6 M (mj_re (some .boolean) (.ireturn) st) := mj_R6 (r := (.ireturn, 1, 0, 0, 0)) rfl rfl
/- 109 PasskeyHouse$Items.four(I)I -/
theorem s109_0 {d : Nat} {ls : mj_L} {st : List Value} {M : mj_H} : mj_Rn d mj_m109 0 ls st M = mq_k0 d mj_m109 1 ls M (mj_lda (mj_lk ls 0) st) := mj_R0 (r := (.aload_n 0, 1, 0, 0, 0)) rfl rfl
theorem s109_1 {d : Nat} {ls : mj_L} {st : List Value} {M : mj_H} : mj_Rn d mj_m109 1 ls st M = mq_k0 d mj_m109 2 ls M (mj_ldi (mj_lk ls 1) st) := mj_R0 (r := (.iload_n 1, 1, 0, 0, 0)) rfl rfl
theorem s109_2 {d : Nat} {ls : mj_L} {st : List Value} {M : mj_H} : mj_Rn (d + 1) mj_m109 2 ls st M = mq_k5a (d + 1) mj_m109 5 ls M 84 (mq_cb 0 1 4 st M) := mj_R5e (r := (.invokevirtual 78, 3, 0, 84, 12472)) (z := mj_m84) rfl rfl (by decide) (by decide) rfl
theorem s109_5 {d : Nat} {ls : mj_L} {st : List Value} {M : mj_H} : mj_Rn d mj_m109 5 ls st M = mj_Rn d mj_m109 6 ls (.int 2 :: st) M := mj_R0 (r := (.iconst 2, 1, 0, 0, 0)) rfl rfl
theorem s109_6 {d : Nat} {ls : mj_L} {st : List Value} {M : mj_H} : mj_Rn d mj_m109 6 ls st M = mq_k2 d mj_m109 ls M (mj_br (.if_icmp .ne 21) 6 st) := mj_R2 (r := (.if_icmp .ne 21, 3, 0, 0, 0)) rfl rfl
theorem s109_9 {d : Nat} {ls : mj_L} {st : List Value} {M : mj_H} : mj_Rn d mj_m109 9 ls st M = mq_k0 d mj_m109 10 ls M (mj_lda (mj_lk ls 0) st) := mj_R0 (r := (.aload_n 0, 1, 0, 0, 0)) rfl rfl
theorem s109_10 {d : Nat} {ls : mj_L} {st : List Value} {M : mj_H} : mj_Rn d mj_m109 10 ls st M = mq_k0 d mj_m109 11 ls M (mj_ldi (mj_lk ls 1) st) := mj_R0 (r := (.iload_n 1, 1, 0, 0, 0)) rfl rfl
theorem s109_11 {d : Nat} {ls : mj_L} {st : List Value} {M : mj_H} : mj_Rn (d + 1) mj_m109 11 ls st M = mq_k5a (d + 1) mj_m109 14 ls M 88 (mq_cb 0 1 4 st M) := mj_R5e (r := (.invokevirtual 81, 3, 0, 88, 12489)) (z := mj_m88) rfl rfl (by decide) (by decide) rfl
theorem s109_14 {d : Nat} {ls : mj_L} {st : List Value} {M : mj_H} : mj_Rn d mj_m109 14 ls st M = mj_Rn d mj_m109 15 ls (.int 4 :: st) M := mj_R0 (r := (.iconst 4, 1, 0, 0, 0)) rfl rfl
theorem s109_15 {d : Nat} {ls : mj_L} {st : List Value} {M : mj_H} : mj_Rn d mj_m109 15 ls st M = mq_k2 d mj_m109 ls M (mj_br (.if_icmp .ne 12) 15 st) := mj_R2 (r := (.if_icmp .ne 12, 3, 0, 0, 0)) rfl rfl
theorem s109_18 {d : Nat} {ls : mj_L} {st : List Value} {M : mj_H} : mj_Rn d mj_m109 18 ls st M = mq_k0 d mj_m109 19 ls M (mj_lda (mj_lk ls 0) st) := mj_R0 (r := (.aload_n 0, 1, 0, 0, 0)) rfl rfl
theorem s109_19 {d : Nat} {ls : mj_L} {st : List Value} {M : mj_H} : mj_Rn d mj_m109 19 ls st M = mq_k0 d mj_m109 20 ls M (mj_ldi (mj_lk ls 1) st) := mj_R0 (r := (.iload_n 1, 1, 0, 0, 0)) rfl rfl
theorem s109_20 {d : Nat} {ls : mj_L} {st : List Value} {M : mj_H} : mj_Rn (d + 1) mj_m109 20 ls st M = mq_k5a (d + 1) mj_m109 23 ls M 110 (mq_cb 0 1 4 st M) := mj_R5e (r := (.invokevirtual 103, 3, 0, 110, 16444)) (z := mj_m110) rfl rfl (by decide) (by decide) rfl
theorem s109_23 {d : Nat} {ls : mj_L} {st : List Value} {M : mj_H} : mj_Rn d mj_m109 23 ls st M = mq_k0 d mj_m109 24 ls M (mj_pu .l2i ls st) := mj_R0 (r := (.l2i, 1, 0, 0, 0)) rfl rfl
theorem s109_24 {d : Nat} {ls : mj_L} {st : List Value} {M : mj_H} : mj_Rn d mj_m109 24 ls st M = mj_Rn d mj_m109 28 ls st M := mj_R2 (r := (.goto 4, 3, 0, 0, 0)) rfl rfl
theorem s109_27 {d : Nat} {ls : mj_L} {st : List Value} {M : mj_H} : mj_Rn d mj_m109 27 ls st M = mj_Rn d mj_m109 28 ls (.int 0 :: st) M := mj_R0 (r := (.iconst 0, 1, 0, 0, 0)) rfl rfl
theorem s109_28 {d : Nat} {ls : mj_L} {st : List Value} {M : mj_H} : mj_Rn d mj_m109 28 ls st M = mq_k6 M (mj_re (some .int) (.ireturn) st) := mj_R6 (r := (.ireturn, 1, 0, 0, 0)) rfl rfl
/- 110 PasskeyHouse$Items.low(I)J -/
theorem s110_0 {d : Nat} {ls : mj_L} {st : List Value} {M : mj_H} : mj_Rn d mj_m110 0 ls st M = mq_k0 d mj_m110 1 ls M (mj_lda (mj_lk ls 0) st) := mj_R0 (r := (.aload_n 0, 1, 0, 0, 0)) rfl rfl
theorem s110_1 {d : Nat} {ls : mj_L} {st : List Value} {M : mj_H} : mj_Rn d mj_m110 1 ls st M = mq_k0 d mj_m110 4 ls M (mq_gf 4 5 st M) := (mj_R3 (r := (.getfield 32, 3, 4, 5, 8376)) rfl rfl).trans (congrArg (mq_k0 d mj_m110 4 ls M) mq_gf_eq)
theorem s110_4 {d : Nat} {ls : mj_L} {st : List Value} {M : mj_H} : mj_Rn d mj_m110 4 ls st M = mq_k0 d mj_m110 5 ls M (mj_lda (mj_lk ls 0) st) := mj_R0 (r := (.aload_n 0, 1, 0, 0, 0)) rfl rfl
theorem s110_5 {d : Nat} {ls : mj_L} {st : List Value} {M : mj_H} : mj_Rn d mj_m110 5 ls st M = mq_k0 d mj_m110 6 ls M (mj_ldi (mj_lk ls 1) st) := mj_R0 (r := (.iload_n 1, 1, 0, 0, 0)) rfl rfl
theorem s110_6 {d : Nat} {ls : mj_L} {st : List Value} {M : mj_H} : mj_Rn (d + 1) mj_m110 6 ls st M = mq_k5a (d + 1) mj_m110 9 ls M 94 (mq_cb 0 1 4 st M) := mj_R5e (r := (.invokevirtual 96, 3, 0, 94, 12516)) (z := mj_m94) rfl rfl (by decide) (by decide) rfl
theorem s110_9 {d : Nat} {ls : mj_L} {st : List Value} {M : mj_H} : mj_Rn d mj_m110 9 ls st M = mq_k0 d mj_m110 10 ls M (mj_lda (mj_lk ls 0) st) := mj_R0 (r := (.aload_n 0, 1, 0, 0, 0)) rfl rfl
theorem s110_10 {d : Nat} {ls : mj_L} {st : List Value} {M : mj_H} : mj_Rn d mj_m110 10 ls st M = mq_k0 d mj_m110 11 ls M (mj_ldi (mj_lk ls 1) st) := mj_R0 (r := (.iload_n 1, 1, 0, 0, 0)) rfl rfl
theorem s110_11 {d : Nat} {ls : mj_L} {st : List Value} {M : mj_H} : mj_Rn (d + 1) mj_m110 11 ls st M = mq_k5a (d + 1) mj_m110 14 ls M 88 (mq_cb 0 1 4 st M) := mj_R5e (r := (.invokevirtual 81, 3, 0, 88, 12489)) (z := mj_m88) rfl rfl (by decide) (by decide) rfl
theorem s110_14 {d : Nat} {ls : mj_L} {st : List Value} {M : mj_H} : mj_Rn (d + 1) mj_m110 14 ls st M = mq_k5a (d + 1) mj_m110 17 ls M 49 (mq_cb 0 2 1 st M) := mj_R5e (r := (.invokevirtual 68, 3, 0, 49, 12463)) (z := mj_m49) rfl rfl (by decide) (by decide) rfl
theorem s110_17 {d : Nat} {ls : mj_L} {st : List Value} {M : mj_H} : mj_Rn d mj_m110 17 ls st M = mq_k6 M (mj_re (some .long) (.lreturn) st) := mj_R6 (r := (.lreturn, 1, 0, 0, 0)) rfl rfl
/- 115 PasskeyHouse$Items.isPublicKey(I)Z -/
theorem s115_0 {d : Nat} {ls : mj_L} {st : List Value} {M : mj_H} : mj_Rn d mj_m115 0 ls st M = mq_k0 d mj_m115 1 ls M (mj_lda (mj_lk ls 0) st) := mj_R0 (r := (.aload_n 0, 1, 0, 0, 0)) rfl rfl
theorem s115_1 {d : Nat} {ls : mj_L} {st : List Value} {M : mj_H} : mj_Rn d mj_m115 1 ls st M = mq_k0 d mj_m115 2 ls M (mj_lda (mj_lk ls 0) st) := mj_R0 (r := (.aload_n 0, 1, 0, 0, 0)) rfl rfl
theorem s115_2 {d : Nat} {ls : mj_L} {st : List Value} {M : mj_H} : mj_Rn d mj_m115 2 ls st M = mq_k0 d mj_m115 3 ls M (mj_ldi (mj_lk ls 1) st) := mj_R0 (r := (.iload_n 1, 1, 0, 0, 0)) rfl rfl
theorem s115_3 {d : Nat} {ls : mj_L} {st : List Value} {M : mj_H} : mj_Rn d mj_m115 3 ls st M = mj_Rn d mj_m115 5 ls (.ref 7 :: st) M := mj_R3 (r := (.ldc 113, 2, 2, 12, 16425)) rfl rfl
theorem s115_5 {d : Nat} {ls : mj_L} {st : List Value} {M : mj_H} : mj_Rn (d + 1) mj_m115 5 ls st M = mq_k5a (d + 1) mj_m115 8 ls M 90 (mq_cb 0 2 4 st M) := mj_R5e (r := (.invokevirtual 109, 3, 0, 90, 16424)) (z := mj_m90) rfl rfl (by decide) (by decide) rfl
theorem s115_8 {d : Nat} {ls : mj_L} {st : List Value} {M : mj_H} : mj_Rn d mj_m115 8 ls st M = mj_Rn d mj_m115 10 ls (.ref 13 :: st) M := mj_R3 (r := (.ldc 115, 2, 2, 13, 16473)) rfl rfl
theorem s115_10 {d : Nat} {ls : mj_L} {st : List Value} {M : mj_H} : mj_Rn (d + 1) mj_m115 10 ls st M = mq_k5a (d + 1) mj_m115 13 ls M 91 (mq_cb 0 2 4 st M) := mj_R5e (r := (.invokevirtual 87, 3, 0, 91, 12502)) (z := mj_m91) rfl rfl (by decide) (by decide) rfl
theorem s115_13 {d : Nat} {ls : mj_L} {st : List Value} {M : mj_H} : mj_Rn d mj_m115 13 ls st M = mq_k6 M (mj_re (some .boolean) (.ireturn) st) := mj_R6 (r := (.ireturn, 1, 0, 0, 0)) rfl rfl
/- 120 PasskeyHouse$Items.isTrue(I)Z -/
theorem s120_0 {d : Nat} {ls : mj_L} {st : List Value} {M : mj_H} : mj_Rn d mj_m120 0 ls st M = mq_k0 d mj_m120 1 ls M (mj_lda (mj_lk ls 0) st) := mj_R0 (r := (.aload_n 0, 1, 0, 0, 0)) rfl rfl
theorem s120_1 {d : Nat} {ls : mj_L} {st : List Value} {M : mj_H} : mj_Rn d mj_m120 1 ls st M = mq_k0 d mj_m120 2 ls M (mj_ldi (mj_lk ls 1) st) := mj_R0 (r := (.iload_n 1, 1, 0, 0, 0)) rfl rfl
theorem s120_2 {d : Nat} {ls : mj_L} {st : List Value} {M : mj_H} : mj_Rn (d + 1) mj_m120 2 ls st M = mq_k5a (d + 1) mj_m120 5 ls M 84 (mq_cb 0 1 4 st M) := mj_R5e (r := (.invokevirtual 78, 3, 0, 84, 12472)) (z := mj_m84) rfl rfl (by decide) (by decide) rfl
theorem s120_5 {d : Nat} {ls : mj_L} {st : List Value} {M : mj_H} : mj_Rn d mj_m120 5 ls st M = mj_Rn d mj_m120 7 ls (.int 7 :: st) M := mj_R0 (r := (.bipush 7, 2, 0, 0, 0)) rfl rfl
theorem s120_7 {d : Nat} {ls : mj_L} {st : List Value} {M : mj_H} : mj_Rn d mj_m120 7 ls st M = mq_k2 d mj_m120 ls M (mj_br (.if_icmp .ne 17) 7 st) := mj_R2 (r := (.if_icmp .ne 17, 3, 0, 0, 0)) rfl rfl
theorem s120_10 {d : Nat} {ls : mj_L} {st : List Value} {M : mj_H} : mj_Rn d mj_m120 10 ls st M = mq_k0 d mj_m120 11 ls M (mj_lda (mj_lk ls 0) st) := mj_R0 (r := (.aload_n 0, 1, 0, 0, 0)) rfl rfl
theorem s120_11 {d : Nat} {ls : mj_L} {st : List Value} {M : mj_H} : mj_Rn d mj_m120 11 ls st M = mq_k0 d mj_m120 12 ls M (mj_ldi (mj_lk ls 1) st) := mj_R0 (r := (.iload_n 1, 1, 0, 0, 0)) rfl rfl
theorem s120_12 {d : Nat} {ls : mj_L} {st : List Value} {M : mj_H} : mj_Rn (d + 1) mj_m120 12 ls st M = mq_k5a (d + 1) mj_m120 15 ls M 88 (mq_cb 0 1 4 st M) := mj_R5e (r := (.invokevirtual 81, 3, 0, 88, 12489)) (z := mj_m88) rfl rfl (by decide) (by decide) rfl
theorem s120_15 {d : Nat} {ls : mj_L} {st : List Value} {M : mj_H} : mj_Rn d mj_m120 15 ls st M = mj_Rn d mj_m120 17 ls (.int 21 :: st) M := mj_R0 (r := (.bipush 21, 2, 0, 0, 0)) rfl rfl
theorem s120_17 {d : Nat} {ls : mj_L} {st : List Value} {M : mj_H} : mj_Rn d mj_m120 17 ls st M = mq_k2 d mj_m120 ls M (mj_br (.if_icmp .ne 7) 17 st) := mj_R2 (r := (.if_icmp .ne 7, 3, 0, 0, 0)) rfl rfl
theorem s120_20 {d : Nat} {ls : mj_L} {st : List Value} {M : mj_H} : mj_Rn d mj_m120 20 ls st M = mj_Rn d mj_m120 21 ls (.int 1 :: st) M := mj_R0 (r := (.iconst 1, 1, 0, 0, 0)) rfl rfl
theorem s120_21 {d : Nat} {ls : mj_L} {st : List Value} {M : mj_H} : mj_Rn d mj_m120 21 ls st M = mj_Rn d mj_m120 25 ls st M := mj_R2 (r := (.goto 4, 3, 0, 0, 0)) rfl rfl
theorem s120_24 {d : Nat} {ls : mj_L} {st : List Value} {M : mj_H} : mj_Rn d mj_m120 24 ls st M = mj_Rn d mj_m120 25 ls (.int 0 :: st) M := mj_R0 (r := (.iconst 0, 1, 0, 0, 0)) rfl rfl
theorem s120_25 {d : Nat} {ls : mj_L} {st : List Value} {M : mj_H} : mj_Rn d mj_m120 25 ls st M = mq_k6 M (mj_re (some .boolean) (.ireturn) st) := mj_R6 (r := (.ireturn, 1, 0, 0, 0)) rfl rfl
/- 138 PasskeyHouse$Items.isFalse(I)Z -/
theorem s138_0 {d : Nat} {ls : mj_L} {st : List Value} {M : mj_H} : mj_Rn d mj_m138 0 ls st M = mq_k0 d mj_m138 1 ls M (mj_lda (mj_lk ls 0) st) := mj_R0 (r := (.aload_n 0, 1, 0, 0, 0)) rfl rfl
theorem s138_1 {d : Nat} {ls : mj_L} {st : List Value} {M : mj_H} : mj_Rn d mj_m138 1 ls st M = mq_k0 d mj_m138 2 ls M (mj_ldi (mj_lk ls 1) st) := mj_R0 (r := (.iload_n 1, 1, 0, 0, 0)) rfl rfl
theorem s138_2 {d : Nat} {ls : mj_L} {st : List Value} {M : mj_H} : mj_Rn (d + 1) mj_m138 2 ls st M = mq_k5a (d + 1) mj_m138 5 ls M 84 (mq_cb 0 1 4 st M) := mj_R5e (r := (.invokevirtual 78, 3, 0, 84, 12472)) (z := mj_m84) rfl rfl (by decide) (by decide) rfl
theorem s138_5 {d : Nat} {ls : mj_L} {st : List Value} {M : mj_H} : mj_Rn d mj_m138 5 ls st M = mj_Rn d mj_m138 7 ls (.int 7 :: st) M := mj_R0 (r := (.bipush 7, 2, 0, 0, 0)) rfl rfl
theorem s138_7 {d : Nat} {ls : mj_L} {st : List Value} {M : mj_H} : mj_Rn d mj_m138 7 ls st M = mq_k2 d mj_m138 ls M (mj_br (.if_icmp .ne 17) 7 st) := mj_R2 (r := (.if_icmp .ne 17, 3, 0, 0, 0)) rfl rfl
theorem s138_10 {d : Nat} {ls : mj_L} {st : List Value} {M : mj_H} : mj_Rn d mj_m138 10 ls st M = mq_k0 d mj_m138 11 ls M (mj_lda (mj_lk ls 0) st) := mj_R0 (r := (.aload_n 0, 1, 0, 0, 0)) rfl rfl
theorem s138_11 {d : Nat} {ls : mj_L} {st : List Value} {M : mj_H} : mj_Rn d mj_m138 11 ls st M = mq_k0 d mj_m138 12 ls M (mj_ldi (mj_lk ls 1) st) := mj_R0 (r := (.iload_n 1, 1, 0, 0, 0)) rfl rfl
theorem s138_12 {d : Nat} {ls : mj_L} {st : List Value} {M : mj_H} : mj_Rn (d + 1) mj_m138 12 ls st M = mq_k5a (d + 1) mj_m138 15 ls M 88 (mq_cb 0 1 4 st M) := mj_R5e (r := (.invokevirtual 81, 3, 0, 88, 12489)) (z := mj_m88) rfl rfl (by decide) (by decide) rfl
theorem s138_15 {d : Nat} {ls : mj_L} {st : List Value} {M : mj_H} : mj_Rn d mj_m138 15 ls st M = mj_Rn d mj_m138 17 ls (.int 20 :: st) M := mj_R0 (r := (.bipush 20, 2, 0, 0, 0)) rfl rfl
theorem s138_17 {d : Nat} {ls : mj_L} {st : List Value} {M : mj_H} : mj_Rn d mj_m138 17 ls st M = mq_k2 d mj_m138 ls M (mj_br (.if_icmp .ne 7) 17 st) := mj_R2 (r := (.if_icmp .ne 7, 3, 0, 0, 0)) rfl rfl
theorem s138_20 {d : Nat} {ls : mj_L} {st : List Value} {M : mj_H} : mj_Rn d mj_m138 20 ls st M = mj_Rn d mj_m138 21 ls (.int 1 :: st) M := mj_R0 (r := (.iconst 1, 1, 0, 0, 0)) rfl rfl
theorem s138_21 {d : Nat} {ls : mj_L} {st : List Value} {M : mj_H} : mj_Rn d mj_m138 21 ls st M = mj_Rn d mj_m138 25 ls st M := mj_R2 (r := (.goto 4, 3, 0, 0, 0)) rfl rfl
theorem s138_24 {d : Nat} {ls : mj_L} {st : List Value} {M : mj_H} : mj_Rn d mj_m138 24 ls st M = mj_Rn d mj_m138 25 ls (.int 0 :: st) M := mj_R0 (r := (.iconst 0, 1, 0, 0, 0)) rfl rfl
theorem s138_25 {d : Nat} {ls : mj_L} {st : List Value} {M : mj_H} : mj_Rn d mj_m138 25 ls st M = mq_k6 M (mj_re (some .boolean) (.ireturn) st) := mj_R6 (r := (.ireturn, 1, 0, 0, 0)) rfl rfl
theorem c88 {d : Nat} {a0 : Nat} {x1 : Int32} {M : mj_H} : mj_V (d + 1) 88 [.ref a0, .int x1] M = mj_Rn d mj_m88 0 [(0, .ref a0), (1, .int x1)] [] M := mj_V_go rfl (Nat.le_of_ble_eq_true rfl)
theorem c89 {d : Nat} {a0 : Nat} {x1 : Int32} {M : mj_H} : mj_V (d + 1) 89 [.ref a0, .int x1] M = mj_Rn d mj_m89 0 [(0, .ref a0), (1, .int x1)] [] M := mj_V_go rfl (Nat.le_of_ble_eq_true rfl)
theorem c94 {d : Nat} {a0 : Nat} {x1 : Int32} {M : mj_H} : mj_V (d + 1) 94 [.ref a0, .int x1] M = mj_Rn d mj_m94 0 [(0, .ref a0), (1, .int x1)] [] M := mj_V_go rfl (Nat.le_of_ble_eq_true rfl)
theorem c87 {d : Nat} {a0 : Nat} {x1 : Int32} {x2 : Int32} {M : mj_H} : mj_V (d + 1) 87 [.ref a0, .int x1, .int x2] M = mj_Rn d mj_m87 0 [(0, .ref a0), (1, .int x1), (2, .int x2)] [] M := mj_V_go rfl (Nat.le_of_ble_eq_true rfl)
theorem c90 {d : Nat} {a0 : Nat} {x1 : Int32} {a2 : Nat} {M : mj_H} : mj_V (d + 1) 90 [.ref a0, .int x1, .ref a2] M = mj_Rn d mj_m90 0 [(0, .ref a0), (1, .int x1), (2, .ref a2)] [] M := mj_V_go rfl (Nat.le_of_ble_eq_true rfl)
theorem c91 {d : Nat} {a0 : Nat} {x1 : Int32} {a2 : Nat} {M : mj_H} : mj_V (d + 1) 91 [.ref a0, .int x1, .ref a2] M = mj_Rn d mj_m91 0 [(0, .ref a0), (1, .int x1), (2, .ref a2)] [] M := mj_V_go rfl (Nat.le_of_ble_eq_true rfl)
theorem c104 {d : Nat} {a0 : Nat} {x1 : Int32} {x2 : Int32} {M : mj_H} : mj_V (d + 1) 104 [.ref a0, .int x1, .int x2] M = mj_Rn d mj_m104 0 [(0, .ref a0), (1, .int x1), (2, .int x2)] [] M := mj_V_go rfl (Nat.le_of_ble_eq_true rfl)
theorem c105 {d : Nat} {a0 : Nat} {x1 : Int32} {a2 : Nat} {x3 : Int32} {M : mj_H} : mj_V (d + 1) 105 [.ref a0, .int x1, .ref a2, .int x3] M = mj_Rn d mj_m105 0 [(0, .ref a0), (1, .int x1), (2, .ref a2), (3, .int x3)] [] M := mj_V_go rfl (Nat.le_of_ble_eq_true rfl)
theorem c107 {d : Nat} {a0 : Nat} {x1 : Int32} {a2 : Nat} {M : mj_H} : mj_V (d + 1) 107 [.ref a0, .int x1, .ref a2] M = mj_Rn d mj_m107 0 [(0, .ref a0), (1, .int x1), (2, .ref a2)] [] M := mj_V_go rfl (Nat.le_of_ble_eq_true rfl)
theorem c108 {d : Nat} {a0 : Nat} {x1 : Int32} {x2 : Int32} {x3 : Int32} {M : mj_H} : mj_V (d + 1) 108 [.ref a0, .int x1, .int x2, .int x3] M = mj_Rn d mj_m108 0 [(0, .ref a0), (1, .int x1), (2, .int x2), (3, .int x3)] [] M := mj_V_go rfl (Nat.le_of_ble_eq_true rfl)
theorem c109 {d : Nat} {a0 : Nat} {x1 : Int32} {M : mj_H} : mj_V (d + 1) 109 [.ref a0, .int x1] M = mj_Rn d mj_m109 0 [(0, .ref a0), (1, .int x1)] [] M := mj_V_go rfl (Nat.le_of_ble_eq_true rfl)
theorem c110 {d : Nat} {a0 : Nat} {x1 : Int32} {M : mj_H} : mj_V (d + 1) 110 [.ref a0, .int x1] M = mj_Rn d mj_m110 0 [(0, .ref a0), (1, .int x1)] [] M := mj_V_go rfl (Nat.le_of_ble_eq_true rfl)
theorem c115 {d : Nat} {a0 : Nat} {x1 : Int32} {M : mj_H} : mj_V (d + 1) 115 [.ref a0, .int x1] M = mj_Rn d mj_m115 0 [(0, .ref a0), (1, .int x1)] [] M := mj_V_go rfl (Nat.le_of_ble_eq_true rfl)
theorem c120 {d : Nat} {a0 : Nat} {x1 : Int32} {M : mj_H} : mj_V (d + 1) 120 [.ref a0, .int x1] M = mj_Rn d mj_m120 0 [(0, .ref a0), (1, .int x1)] [] M := mj_V_go rfl (Nat.le_of_ble_eq_true rfl)
theorem c138 {d : Nat} {a0 : Nat} {x1 : Int32} {M : mj_H} : mj_V (d + 1) 138 [.ref a0, .int x1] M = mj_Rn d mj_m138 0 [(0, .ref a0), (1, .int x1)] [] M := mj_V_go rfl (Nat.le_of_ble_eq_true rfl)
def oS (ms : List Int32) : Option Nat → Int32
  | none => -1
  | some p => nI (cbS ms p)
def oV (ms : List Int32) : Option Nat → Int32
  | none => 0
  | some p => nI (cbV ms p)
section IQ
variable {d n : Nat} {M : mj_H} {ms S V H E N : List Int32} {i : Int32} {o : Option Nat}
theorem q_sort (h : iT M ms n S V H E N) (hi : iA (tbA S V H E N) ms n i o) : mj_V (d + 1) 84 [.ref 36, .int i] M = some (some (.int (oS ms o)), M) := by
  cases o with
  | none =>
    cases hi
    simp (disch := (first | omega | decide)) [c84, s84_0, s84_1, s84_4, s84_5, s84_6, s84_9, s84_12, s84_13, s84_14, s84_17, s84_18, s84_21, s84_22, s84_25, s84_26, s84_29, s84_30, s84_31, mq_k0s, mq_k1s, mq_k2s, mq_k4s, mq_k5s, mq_k5n, mq_k5as, mq_k6s, mj_pu, mj_lo, mj_br, mj_hr, mj_hw, mq_gf, mq_len, mq_al, mq_pf, mq_ok, mj_re, mq_lkm, mq_lkn, mj_ldi, mj_ldl, mj_lda, mj_ii, mj_ll, mj_li, mj_i1, ms_1, ms_2, f1_n, f1_i, f1_r, f1_u, f1_l, f2_n, f2_i, f2_r, f2_u, f2_l, mj_tg, mj_c1, mj_c2, mj_ar, mj_aw, mq_cb, mq_oi, mj_rm, Value.category, -getElem?_pos, List.getElem?_cons_zero, decide_eq_true, decide_eq_false, nl_lt, nl_le, ln_lt, ln_le, nl_eq, ln_eq, nl_add, ln_add, nl_sub, ln_mul, nI_sub, nI_mul, nI_add, nI_lt_iff, nI_le_iff, nI_inj, nI_num, mq_ix, nI_1, show (-1 : Int32) < 0 from by decide, oS, narrow]
  | some p =>
    obtain ⟨r, k, q, j, hr, rfl, hx, hj⟩ := hi
    obtain ⟨he, hk, hn, -⟩ := h.at hx hj
    exact i_sortOf h.u hn hk he.2.1
theorem q_val (h : iT M ms n S V H E N) (hi : iA (tbA S V H E N) ms n i o) : mj_V (d + 1) 88 [.ref 36, .int i] M = some (some (.int (oV ms o)), M) := by
  cases o with
  | none =>
    cases hi
    simp (disch := (first | omega | decide)) [c88, s88_0, s88_1, s88_4, s88_5, s88_6, s88_9, s88_12, s88_13, s88_14, s88_17, s88_18, s88_21, s88_22, s88_25, s88_26, s88_29, s88_30, s88_31, mq_k0s, mq_k1s, mq_k2s, mq_k4s, mq_k5s, mq_k5n, mq_k5as, mq_k6s, mj_pu, mj_lo, mj_br, mj_hr, mj_hw, mq_gf, mq_len, mq_al, mq_pf, mq_ok, mj_re, mq_lkm, mq_lkn, mj_ldi, mj_ldl, mj_lda, mj_ii, mj_ll, mj_li, mj_i1, ms_1, ms_2, f1_n, f1_i, f1_r, f1_u, f1_l, f2_n, f2_i, f2_r, f2_u, f2_l, mj_tg, mj_c1, mj_c2, mj_ar, mj_aw, mq_cb, mq_oi, mj_rm, Value.category, -getElem?_pos, List.getElem?_cons_zero, decide_eq_true, decide_eq_false, nl_lt, nl_le, ln_lt, ln_le, nl_eq, ln_eq, nl_add, ln_add, nl_sub, ln_mul, nI_sub, nI_mul, nI_add, nI_lt_iff, nI_le_iff, nI_inj, nI_num, mq_ix, nI_1, show (-1 : Int32) < 0 from by decide, oV, narrow]
  | some p =>
    obtain ⟨r, k, q, j, hr, rfl, hx, hj⟩ := hi
    obtain ⟨he, hk, hn, -⟩ := h.at hx hj
    have k1 : (V.map Value.int).length = 400 := by rw [List.length_map, h.u.ln.2.1]
    have a1 := h.u.aV
    have b1 := ai_at he.2.2.1
    generalize V.map Value.int = Z1 at *
    simp (disch := (first | omega | decide)) [c88, s88_0, s88_1, s88_4, s88_5, s88_6, s88_9, s88_12, s88_13, s88_14, s88_17, s88_18, s88_21, s88_22, s88_25, s88_26, s88_29, s88_30, s88_31, mq_k0s, mq_k1s, mq_k2s, mq_k4s, mq_k5s, mq_k5n, mq_k5as, mq_k6s, mj_pu, mj_lo, mj_br, mj_hr, mj_hw, mq_gf, mq_len, mq_al, mq_pf, mq_ok, mj_re, mq_lkm, mq_lkn, mj_ldi, mj_ldl, mj_lda, mj_ii, mj_ll, mj_li, mj_i1, ms_1, ms_2, f1_n, f1_i, f1_r, f1_u, f1_l, f2_n, f2_i, f2_r, f2_u, f2_l, mj_tg, mj_c1, mj_c2, mj_ar, mj_aw, mq_cb, mq_oi, mj_rm, Value.category, -getElem?_pos, List.getElem?_cons_zero, decide_eq_true, decide_eq_false, nl_lt, nl_le, ln_lt, ln_le, nl_eq, ln_eq, nl_add, ln_add, nl_sub, ln_mul, nI_sub, nI_mul, nI_add, nI_lt_iff, nI_le_iff, nI_inj, nI_num, mq_ix, nI_1, h.u.ob, a1, k1, b1, oV, narrow]
theorem q_next (h : iT M ms n S V H E N) {r p k q j : Nat} (hx : Nx (tbA S V H E N) ms r p k q j) (hj : j ≤ n) : mj_V (d + 1) 89 [.ref 36, .int (nI k)] M = some (some (.int (nI j)), M) := by
  obtain ⟨he, hk, hn, -⟩ := h.at hx hj
  have k1 : (N.map Value.int).length = 400 := by rw [List.length_map, h.u.ln.2.2.2.2]
  have a1 := h.u.aN
  have b1 := ai_at he.2.2.2.2
  generalize N.map Value.int = Z1 at *
  simp (disch := (first | omega | decide)) [c89, s89_0, s89_1, s89_4, s89_5, s89_6, s89_9, s89_12, s89_13, s89_14, s89_17, s89_18, s89_21, s89_22, s89_25, s89_28, s89_29, s89_32, s89_33, s89_34, mq_k0s, mq_k1s, mq_k2s, mq_k4s, mq_k5s, mq_k5n, mq_k5as, mq_k6s, mj_pu, mj_lo, mj_br, mj_hr, mj_hw, mq_gf, mq_len, mq_al, mq_pf, mq_ok, mj_re, mq_lkm, mq_lkn, mj_ldi, mj_ldl, mj_lda, mj_ii, mj_ll, mj_li, mj_i1, ms_1, ms_2, f1_n, f1_i, f1_r, f1_u, f1_l, f2_n, f2_i, f2_r, f2_u, f2_l, mj_tg, mj_c1, mj_c2, mj_ar, mj_aw, mq_cb, mq_oi, mj_rm, Value.category, -getElem?_pos, List.getElem?_cons_zero, decide_eq_true, decide_eq_false, nl_lt, nl_le, ln_lt, ln_le, nl_eq, ln_eq, nl_add, ln_add, nl_sub, ln_mul, nI_sub, nI_mul, nI_add, nI_lt_iff, nI_le_iff, nI_inj, nI_num, mq_ix, nI_1, h.u.ob, a1, k1, b1, narrow]
theorem q_cont (h : iT M ms n S V H E N) {p : Nat} (hi : iA (tbA S V H E N) ms n i (some p)) (hs : cbS ms p = 2 ∨ cbS ms p = 3) : mj_V (d + 1) 94 [.ref 36, .int i] M = some (some (.int (nI (cbC ms p))), M) ∧ cbC ms p + cbV ms p ≤ ms.length := by
  obtain ⟨r, k, q, j, hr, rfl, hx, hj⟩ := hi
  obtain ⟨he, hk, hn, -, hok, hq⟩ := h.at hx hj
  have k1 : (E.map Value.int).length = 400 := by rw [List.length_map, h.u.ln.2.2.2.1]
  have k2 : (V.map Value.int).length = 400 := by rw [List.length_map, h.u.ln.2.1]
  have a1 := h.u.aE
  have a2 := h.u.aV
  have b1 := ai_at he.2.2.2.1
  have b2 := ai_at he.2.2.1
  have hl := (Nd_leaf hx.2 (by omega)).2
  rw [if_pos hs] at hl
  have hlen := hok.2.2.2.2.2.2.2 hs
  refine ⟨?_, hlen⟩
  have e1 : nI q - nI (cbV ms p) = nI (cbC ms p) := by rw [hl, nI_sub (by omega)]; congr 1; omega
  generalize E.map Value.int = Z1 at *
  generalize V.map Value.int = Z2 at *
  simp only [] at b1 b2
  simp (disch := (first | omega | decide)) [-nI_sub, c94, s94_0, s94_1, s94_4, s94_5, s94_6, s94_9, s94_12, s94_13, s94_14, s94_17, s94_18, s94_21, s94_22, s94_25, s94_26, s94_29, s94_30, s94_31, s94_32, s94_35, s94_36, s94_37, s94_38, mq_k0s, mq_k1s, mq_k2s, mq_k6s, mj_pu, mj_br, mq_gf, mq_len, mq_al, mj_re, mq_lkm, mq_lkn, mj_ldi, mj_lda, mj_ii, mj_tg, mj_c1, mj_c2, mj_ar, Value.category, -getElem?_pos, List.getElem?_cons_zero, decide_eq_true, decide_eq_false, nl_lt, nl_le, nI_lt_iff, nI_le_iff, nI_num, mq_ix, h.u.ob, a1, a2, k1, k2, b1, b2, e1, narrow]
theorem l_says {a : Nat} {t : List Int32} {p : Nat} (h : iT M ms n S V H E N) (hg : sg M a t) (hc : cbC ms p + t.length ≤ ms.length) : ∀ (m k : Nat), k + m = t.length →
    mj_Rn (d + 4) mj_m91 32 [(4, .int (nI k)), (3, .int (nI (cbC ms p))), (0, .ref 36), (1, .int i), (2, .ref a)] [] M = some (some (.int (if (ms.drop (cbC ms p + k)).take m = t.drop k then 1 else 0)), M) := by
  have hsh := hg.sh
  have hcap := h.b.len
  have h8 := h.b.2.2.2.2.1
  have h28 := h.b.2.2.2.2.2.1
  have hl := v_length (d := d + 2) hg
  intro m
  induction m with
  | zero =>
    intro k hk
    rw [List.take_zero, List.drop_eq_nil_of_le (by omega), if_pos rfl]
    simp (disch := (first | omega | decide)) [s91_0, s91_1, s91_2, s91_5, s91_6, s91_9, s91_10, s91_11, s91_14, s91_15, s91_18, s91_21, s91_22, s91_23, s91_24, s91_25, s91_28, s91_29, s91_30, s91_32, s91_34, s91_35, s91_38, s91_41, s91_42, s91_45, s91_46, s91_48, s91_49, s91_52, s91_53, s91_55, s91_58, s91_61, s91_62, s91_63, s91_66, s91_69, s91_70, mq_k0s, mq_k1s, mq_k2s, mq_k4s, mq_k5s, mq_k5n, mq_k5as, mq_k6s, mj_pu, mj_lo, mj_br, mj_hr, mj_hw, mq_gf, mq_len, mq_al, mq_pf, mq_ok, mj_re, mq_lkm, mq_lkn, mj_ldi, mj_ldl, mj_lda, mj_ii, mj_ll, mj_li, mj_i1, ms_1, ms_2, f1_n, f1_i, f1_r, f1_u, f1_l, f2_n, f2_i, f2_r, f2_u, f2_l, mj_tg, mj_c1, mj_c2, mj_ar, mj_aw, mq_cb, mq_oi, mj_rm, Value.category, -getElem?_pos, List.getElem?_cons_zero, decide_eq_true, decide_eq_false, nl_lt, nl_le, ln_lt, ln_le, nl_eq, ln_eq, nl_add, ln_add, nl_sub, ln_mul, nI_sub, nI_mul, nI_add, nI_lt_iff, nI_le_iff, nI_inj, nI_num, mq_ix, nI_1, hg.ob, hl, narrow_b1]
  | succ m ih =>
    intro k hk
    have r := ih (k + 1) (by omega)
    have hkt : k < t.length := by omega
    have hkm : cbC ms p + k < ms.length := by omega
    have v1 := v_item (d := d + 3) h.b (nI (cbC ms p + k))
    rw [bt_at_nI (by omega)] at v1
    have hgd : ms.getD (cbC ms p + k) (-1) = ms[cbC ms p + k] := by simp [List.getD, hkm]
    rw [hgd] at v1
    have v2 := v_charAt (d := d) hg hkt
    have e1 : (ms.drop (cbC ms p + k)).take (m + 1) = ms[cbC ms p + k] :: (ms.drop (cbC ms p + (k + 1))).take m := by rw [List.drop_eq_getElem_cons hkm]; rfl
    rw [e1, List.drop_eq_getElem_cons hkt]
    generalize ms[cbC ms p + k] = x at *
    generalize t[k] = y at *
    rw [s91_32]
    by_cases hxy : x = y
    · subst hxy
      simp (disch := (first | omega | decide)) [s91_0, s91_1, s91_2, s91_5, s91_6, s91_9, s91_10, s91_11, s91_14, s91_15, s91_18, s91_21, s91_22, s91_23, s91_24, s91_25, s91_28, s91_29, s91_30, s91_34, s91_35, s91_38, s91_41, s91_42, s91_45, s91_46, s91_48, s91_49, s91_52, s91_53, s91_55, s91_58, s91_61, s91_62, s91_63, s91_66, s91_69, s91_70, mq_k0s, mq_k1s, mq_k2s, mq_k4s, mq_k5s, mq_k5n, mq_k5as, mq_k6s, mj_pu, mj_lo, mj_br, mj_hr, mj_hw, mq_gf, mq_len, mq_al, mq_pf, mq_ok, mj_re, mq_lkm, mq_lkn, mj_ldi, mj_ldl, mj_lda, mj_ii, mj_ll, mj_li, mj_i1, ms_1, ms_2, f1_n, f1_i, f1_r, f1_u, f1_l, f2_n, f2_i, f2_r, f2_u, f2_l, mj_tg, mj_c1, mj_c2, mj_ar, mj_aw, mq_cb, mq_oi, mj_rm, Value.category, -getElem?_pos, List.getElem?_cons_zero, decide_eq_true, decide_eq_false, nl_lt, nl_le, ln_lt, ln_le, nl_eq, ln_eq, nl_add, ln_add, nl_sub, ln_mul, nI_sub, nI_mul, nI_add, nI_lt_iff, nI_le_iff, nI_inj, nI_num, mq_ix, nI_1, hg.ob, hl, h.u.ob, h28, v1, v2]
      refine mq_wk ?_ r
      simp [mq_sub, mj_lk]
    · simp (disch := (first | omega | decide)) [s91_0, s91_1, s91_2, s91_5, s91_6, s91_9, s91_10, s91_11, s91_14, s91_15, s91_18, s91_21, s91_22, s91_23, s91_24, s91_25, s91_28, s91_29, s91_30, s91_34, s91_35, s91_38, s91_41, s91_42, s91_45, s91_46, s91_48, s91_49, s91_52, s91_53, s91_55, s91_58, s91_61, s91_62, s91_63, s91_66, s91_69, s91_70, mq_k0s, mq_k1s, mq_k2s, mq_k4s, mq_k5s, mq_k5n, mq_k5as, mq_k6s, mj_pu, mj_lo, mj_br, mj_hr, mj_hw, mq_gf, mq_len, mq_al, mq_pf, mq_ok, mj_re, mq_lkm, mq_lkn, mj_ldi, mj_ldl, mj_lda, mj_ii, mj_ll, mj_li, mj_i1, ms_1, ms_2, f1_n, f1_i, f1_r, f1_u, f1_l, f2_n, f2_i, f2_r, f2_u, f2_l, mj_tg, mj_c1, mj_c2, mj_ar, mj_aw, mq_cb, mq_oi, mj_rm, Value.category, -getElem?_pos, List.getElem?_cons_zero, decide_eq_true, decide_eq_false, nl_lt, nl_le, ln_lt, ln_le, nl_eq, ln_eq, nl_add, ln_add, nl_sub, ln_mul, nI_sub, nI_mul, nI_add, nI_lt_iff, nI_le_iff, nI_inj, nI_num, mq_ix, nI_1, hg.ob, hl, h.u.ob, h28, v1, v2, hxy, narrow_b0]
def oT (ms t : List Int32) : Option Nat → Bool
  | none => false
  | some p => cbTx ms t p
theorem q_says {a : Nat} {t : List Int32} (h : iT M ms n S V H E N) (hi : iA (tbA S V H E N) ms n i o) (hg : sg M a t) : mj_V (d + 5) 91 [.ref 36, .int i, .ref a] M = some (some (.int (if oT ms t o then 1 else 0)), M) := by
  have hs := q_sort (d := d + 3) h hi
  have hv := q_val (d := d + 3) h hi
  have hl := v_length (d := d + 2) hg
  have hsh := hg.sh
  have hcap := h.b.len
  cases o with
  | none =>
    simp (disch := (first | omega | decide)) [c91, s91_0, s91_1, s91_2, s91_5, s91_6, s91_9, s91_10, s91_11, s91_14, s91_15, s91_18, s91_21, s91_22, s91_23, s91_24, s91_25, s91_28, s91_29, s91_30, s91_34, s91_35, s91_38, s91_41, s91_42, s91_45, s91_46, s91_48, s91_49, s91_52, s91_53, s91_55, s91_58, s91_61, s91_62, s91_63, s91_66, s91_69, s91_70, mq_k0s, mq_k1s, mq_k2s, mq_k4s, mq_k5s, mq_k5n, mq_k5as, mq_k6s, mj_pu, mj_lo, mj_br, mj_hr, mj_hw, mq_gf, mq_len, mq_al, mq_pf, mq_ok, mj_re, mq_lkm, mq_lkn, mj_ldi, mj_ldl, mj_lda, mj_ii, mj_ll, mj_li, mj_i1, ms_1, ms_2, f1_n, f1_i, f1_r, f1_u, f1_l, f2_n, f2_i, f2_r, f2_u, f2_l, mj_tg, mj_c1, mj_c2, mj_ar, mj_aw, mq_cb, mq_oi, mj_rm, Value.category, -getElem?_pos, List.getElem?_cons_zero, decide_eq_true, decide_eq_false, nl_lt, nl_le, ln_lt, ln_le, nl_eq, ln_eq, nl_add, ln_add, nl_sub, ln_mul, nI_sub, nI_mul, nI_add, nI_lt_iff, nI_le_iff, nI_inj, nI_num, mq_ix, nI_1, h.u.ob, hs, oS, oT, narrow_b0]
  | some p =>
    have hB := ms_by h.b.2.2.2.2.1 p
    have hS8 : cbS ms p < 8 := by unfold cbS; omega
    have hok : cbOk ms p := by obtain ⟨r, k, q, j, hr, rfl, hx, hj⟩ := hi; exact cbI_ok hx.1
    have hv31 := hok.2.2.2.2.2.1
    show mj_V _ _ _ _ = some (some (.int (if cbTx ms t p = true then 1 else 0)), M)
    simp only [oS, oV] at hs hv
    by_cases h3 : cbS ms p = 3
    · by_cases hvl : cbV ms p = t.length
      · obtain ⟨hc, hlen⟩ := q_cont (d := d + 3) h hi (Or.inr h3)
        have r := l_says (d := d) (i := i) h hg (p := p) (by omega) t.length 0 (by omega)
        simp only [Nat.add_zero, nI_0, List.drop_zero] at r
        rw [h3] at hs
        rw [hvl] at hv
        have e1 : cbTx ms t p = decide ((ms.drop (cbC ms p)).take t.length = t) := by unfold cbTx; simp [h3, hvl]
        rw [e1]
        simp only [decide_eq_true_eq]
        simp (disch := (first | omega | decide)) [c91, s91_0, s91_1, s91_2, s91_5, s91_6, s91_9, s91_10, s91_11, s91_14, s91_15, s91_18, s91_21, s91_22, s91_23, s91_24, s91_25, s91_28, s91_29, s91_30, s91_34, s91_35, s91_38, s91_41, s91_42, s91_45, s91_46, s91_48, s91_49, s91_52, s91_53, s91_55, s91_58, s91_61, s91_62, s91_63, s91_66, s91_69, s91_70, mq_k0s, mq_k1s, mq_k2s, mq_k4s, mq_k5s, mq_k5n, mq_k5as, mq_k6s, mj_pu, mj_lo, mj_br, mj_hr, mj_hw, mq_gf, mq_len, mq_al, mq_pf, mq_ok, mj_re, mq_lkm, mq_lkn, mj_ldi, mj_ldl, mj_lda, mj_ii, mj_ll, mj_li, mj_i1, ms_1, ms_2, f1_n, f1_i, f1_r, f1_u, f1_l, f2_n, f2_i, f2_r, f2_u, f2_l, mj_tg, mj_c1, mj_c2, mj_ar, mj_aw, mq_cb, mq_oi, mj_rm, Value.category, -getElem?_pos, List.getElem?_cons_zero, decide_eq_true, decide_eq_false, nl_lt, nl_le, ln_lt, ln_le, nl_eq, ln_eq, nl_add, ln_add, nl_sub, ln_mul, nI_sub, nI_mul, nI_add, nI_lt_iff, nI_le_iff, nI_inj, nI_num, mq_ix, nI_1, h.u.ob, hs, hv, hg.ob, hl, hc]
        exact r
      · have e1 : cbTx ms t p = false := by unfold cbTx; simp [hvl]
        rw [e1]
        rw [h3] at hs
        simp (disch := (first | omega | decide)) [c91, s91_0, s91_1, s91_2, s91_5, s91_6, s91_9, s91_10, s91_11, s91_14, s91_15, s91_18, s91_21, s91_22, s91_23, s91_24, s91_25, s91_28, s91_29, s91_30, s91_34, s91_35, s91_38, s91_41, s91_42, s91_45, s91_46, s91_48, s91_49, s91_52, s91_53, s91_55, s91_58, s91_61, s91_62, s91_63, s91_66, s91_69, s91_70, mq_k0s, mq_k1s, mq_k2s, mq_k4s, mq_k5s, mq_k5n, mq_k5as, mq_k6s, mj_pu, mj_lo, mj_br, mj_hr, mj_hw, mq_gf, mq_len, mq_al, mq_pf, mq_ok, mj_re, mq_lkm, mq_lkn, mj_ldi, mj_ldl, mj_lda, mj_ii, mj_ll, mj_li, mj_i1, ms_1, ms_2, f1_n, f1_i, f1_r, f1_u, f1_l, f2_n, f2_i, f2_r, f2_u, f2_l, mj_tg, mj_c1, mj_c2, mj_ar, mj_aw, mq_cb, mq_oi, mj_rm, Value.category, -getElem?_pos, List.getElem?_cons_zero, decide_eq_true, decide_eq_false, nl_lt, nl_le, ln_lt, ln_le, nl_eq, ln_eq, nl_add, ln_add, nl_sub, ln_mul, nI_sub, nI_mul, nI_add, nI_lt_iff, nI_le_iff, nI_inj, nI_num, mq_ix, nI_1, h.u.ob, hs, hv, hg.ob, hl, hvl, narrow_b0]
    · have e1 : cbTx ms t p = false := by unfold cbTx; simp [h3]
      rw [e1]
      simp (disch := (first | omega | decide)) [c91, s91_0, s91_1, s91_2, s91_5, s91_6, s91_9, s91_10, s91_11, s91_14, s91_15, s91_18, s91_21, s91_22, s91_23, s91_24, s91_25, s91_28, s91_29, s91_30, s91_34, s91_35, s91_38, s91_41, s91_42, s91_45, s91_46, s91_48, s91_49, s91_52, s91_53, s91_55, s91_58, s91_61, s91_62, s91_63, s91_66, s91_69, s91_70, mq_k0s, mq_k1s, mq_k2s, mq_k4s, mq_k5s, mq_k5n, mq_k5as, mq_k6s, mj_pu, mj_lo, mj_br, mj_hr, mj_hw, mq_gf, mq_len, mq_al, mq_pf, mq_ok, mj_re, mq_lkm, mq_lkn, mj_ldi, mj_ldl, mj_lda, mj_ii, mj_ll, mj_li, mj_i1, ms_1, ms_2, f1_n, f1_i, f1_r, f1_u, f1_l, f2_n, f2_i, f2_r, f2_u, f2_l, mj_tg, mj_c1, mj_c2, mj_ar, mj_aw, mq_cb, mq_oi, mj_rm, Value.category, -getElem?_pos, List.getElem?_cons_zero, decide_eq_true, decide_eq_false, nl_lt, nl_le, ln_lt, ln_le, nl_eq, ln_eq, nl_add, ln_add, nl_sub, ln_mul, nI_sub, nI_mul, nI_add, nI_lt_iff, nI_le_iff, nI_inj, nI_num, mq_ix, nI_1, h.u.ob, hs, h3, narrow_b0]
/-- the search among pairs, in the class -/
theorem l_member {num : Nat} (hnum : num < 100) (h : iT M ms n S V H E N) {r m0 : Nat} (hr : r ≤ 4) (hm0 : m0 < 2 ^ 31) : ∀ (m t p k q j : Nat), t + m = m0 → Pr (Nx (tbA S V H E N) ms r) ms m p k q j → j ≤ n → ∃ x, mj_Rn (d + 1) mj_m87 27 [(5, .int (nI t)), (4, .int (nI k)), (3, .int (nI m0)), (0, .ref 36), (1, .int i), (2, .int (nI num))] [] M = some (some (.int x), M) ∧ iA (tbA S V H E N) ms n x (cbMem ms (cbIs ms num) m p) := by
  intro m
  induction m with
  | zero =>
    intro t p k q j ht _ _
    refine ⟨-1, ?_, rfl⟩
    simp (disch := (first | omega | decide)) [s87_0, s87_1, s87_2, s87_5, s87_6, s87_9, s87_10, s87_11, s87_14, s87_17, s87_18, s87_19, s87_20, s87_21, s87_22, s87_24, s87_25, s87_27, s87_29, s87_30, s87_33, s87_34, s87_36, s87_39, s87_42, s87_43, s87_45, s87_48, s87_49, s87_52, s87_54, s87_55, s87_56, s87_57, s87_58, s87_60, s87_61, s87_62, s87_65, s87_67, s87_70, s87_73, s87_74, mq_k0s, mq_k1s, mq_k2s, mq_k4s, mq_k5s, mq_k5n, mq_k5as, mq_k6s, mj_pu, mj_lo, mj_br, mj_hr, mj_hw, mq_gf, mq_len, mq_al, mq_pf, mq_ok, mj_re, mq_lkm, mq_lkn, mj_ldi, mj_ldl, mj_lda, mj_ii, mj_ll, mj_li, mj_i1, ms_1, ms_2, f1_n, f1_i, f1_r, f1_u, f1_l, f2_n, f2_i, f2_r, f2_u, f2_l, mj_tg, mj_c1, mj_c2, mj_ar, mj_aw, mq_cb, mq_oi, mj_rm, Value.category, -getElem?_pos, List.getElem?_cons_zero, decide_eq_true, decide_eq_false, nl_lt, nl_le, ln_lt, ln_le, nl_eq, ln_eq, nl_add, ln_add, nl_sub, ln_mul, nI_sub, nI_mul, nI_add, nI_lt_iff, nI_le_iff, nI_inj, nI_num, mq_ix, nI_1, narrow]
  | succ m ih =>
    intro t p k q j ht hp hj
    obtain ⟨q1, q2, j2, hks, hx1, hx2, hp2⟩ := hp
    have hlt1 := (Nd_lt _ _ _ _ _ hx1.2).1
    have hlt2 := (Nd_lt _ _ _ _ _ hx2.2).1
    have hle : j2 ≤ j := by
      have : ∀ (m p k q j : Nat), Pr (Nx (tbA S V H E N) ms r) ms m p k q j → k ≤ j := by
        intro m
        induction m with
        | zero => intro p k q j h; rw [h.2]; exact Nat.le_refl _
        | succ m ih2 =>
          intro p k q j h
          obtain ⟨a1, a2, a3, -, x1, x2, x3⟩ := h
          have y1 := (Nd_lt _ _ _ _ _ x1.2).1
          have y2 := (Nd_lt _ _ _ _ _ x2.2).1
          have := ih2 _ _ _ _ x3
          omega
      exact this _ _ _ _ _ hp2
    have i1 : iA (tbA S V H E N) ms n (nI k) (some p) := ⟨r, k, q1, k + 1, hr, rfl, hx1, by omega⟩
    have hs := q_sort (d := d) h i1
    have hv := q_val (d := d) h i1
    have hnx := q_next (d := d) h hx2 (by omega)
    have hok := cbI_ok hx1.1
    have hB := ms_by h.b.2.2.2.2.1 p
    have hS8 : cbS ms p < 8 := by unfold cbS; omega
    have hv31 := hok.2.2.2.2.2.1
    obtain ⟨he, hkn, hn, -⟩ := h.at hx1 (by omega)
    simp only [oS, oV] at hs hv
    have eE1 : cbE ms p = q1 := cbE_eq hx1.1 hr
    have eE2 : cbE ms q1 = q2 := cbE_eq hx2.1 hr
    unfold cbMem
    rw [eE1, eE2]
    rw [s87_27]
    by_cases hhit : cbS ms p = 0 ∧ cbV ms p = num
    · have e1 : cbIs ms num p = true := by unfold cbIs; simp [hhit]
      rw [if_pos e1]
      rw [hhit.1] at hs
      rw [hhit.2] at hv
      refine ⟨nI (k + 1), ?_, ⟨r, k + 1, q2, j2, hr, rfl, hx2, by omega⟩⟩
      simp (disch := (first | omega | decide)) [s87_0, s87_1, s87_2, s87_5, s87_6, s87_9, s87_10, s87_11, s87_14, s87_17, s87_18, s87_19, s87_20, s87_21, s87_22, s87_24, s87_25, s87_29, s87_30, s87_33, s87_34, s87_36, s87_39, s87_42, s87_43, s87_45, s87_48, s87_49, s87_52, s87_54, s87_55, s87_56, s87_57, s87_58, s87_60, s87_61, s87_62, s87_65, s87_67, s87_70, s87_73, s87_74, mq_k0s, mq_k1s, mq_k2s, mq_k4s, mq_k5s, mq_k5n, mq_k5as, mq_k6s, mj_pu, mj_lo, mj_br, mj_hr, mj_hw, mq_gf, mq_len, mq_al, mq_pf, mq_ok, mj_re, mq_lkm, mq_lkn, mj_ldi, mj_ldl, mj_lda, mj_ii, mj_ll, mj_li, mj_i1, ms_1, ms_2, f1_n, f1_i, f1_r, f1_u, f1_l, f2_n, f2_i, f2_r, f2_u, f2_l, mj_tg, mj_c1, mj_c2, mj_ar, mj_aw, mq_cb, mq_oi, mj_rm, Value.category, -getElem?_pos, List.getElem?_cons_zero, decide_eq_true, decide_eq_false, nl_lt, nl_le, ln_lt, ln_le, nl_eq, ln_eq, nl_add, ln_add, nl_sub, ln_mul, nI_sub, nI_mul, nI_add, nI_lt_iff, nI_le_iff, nI_inj, nI_num, mq_ix, nI_1, h.u.ob, hs, hv, narrow]
    · have e1 : cbIs ms num p = false := by unfold cbIs; simp; omega
      rw [e1]
      obtain ⟨x, r1, r2⟩ := ih (t + 1) _ _ _ _ (by omega) hp2 hj
      refine ⟨x, ?_, r2⟩
      by_cases h0 : cbS ms p = 0
      · rw [h0] at hs
        have h1 : ¬ cbV ms p = num := fun z => hhit ⟨h0, z⟩
        simp (disch := (first | omega | decide)) [s87_0, s87_1, s87_2, s87_5, s87_6, s87_9, s87_10, s87_11, s87_14, s87_17, s87_18, s87_19, s87_20, s87_21, s87_22, s87_24, s87_25, s87_29, s87_30, s87_33, s87_34, s87_36, s87_39, s87_42, s87_43, s87_45, s87_48, s87_49, s87_52, s87_54, s87_55, s87_56, s87_57, s87_58, s87_60, s87_61, s87_62, s87_65, s87_67, s87_70, s87_73, s87_74, mq_k0s, mq_k1s, mq_k2s, mq_k4s, mq_k5s, mq_k5n, mq_k5as, mq_k6s, mj_pu, mj_lo, mj_br, mj_hr, mj_hw, mq_gf, mq_len, mq_al, mq_pf, mq_ok, mj_re, mq_lkm, mq_lkn, mj_ldi, mj_ldl, mj_lda, mj_ii, mj_ll, mj_li, mj_i1, ms_1, ms_2, f1_n, f1_i, f1_r, f1_u, f1_l, f2_n, f2_i, f2_r, f2_u, f2_l, mj_tg, mj_c1, mj_c2, mj_ar, mj_aw, mq_cb, mq_oi, mj_rm, Value.category, -getElem?_pos, List.getElem?_cons_zero, decide_eq_true, decide_eq_false, nl_lt, nl_le, ln_lt, ln_le, nl_eq, ln_eq, nl_add, ln_add, nl_sub, ln_mul, nI_sub, nI_mul, nI_add, nI_lt_iff, nI_le_iff, nI_inj, nI_num, mq_ix, nI_1, h.u.ob, hs, hv, h1, hnx]
        refine mq_wk ?_ r1
        simp [mq_sub, mj_lk]
      · simp (disch := (first | omega | decide)) [s87_0, s87_1, s87_2, s87_5, s87_6, s87_9, s87_10, s87_11, s87_14, s87_17, s87_18, s87_19, s87_20, s87_21, s87_22, s87_24, s87_25, s87_29, s87_30, s87_33, s87_34, s87_36, s87_39, s87_42, s87_43, s87_45, s87_48, s87_49, s87_52, s87_54, s87_55, s87_56, s87_57, s87_58, s87_60, s87_61, s87_62, s87_65, s87_67, s87_70, s87_73, s87_74, mq_k0s, mq_k1s, mq_k2s, mq_k4s, mq_k5s, mq_k5n, mq_k5as, mq_k6s, mj_pu, mj_lo, mj_br, mj_hr, mj_hw, mq_gf, mq_len, mq_al, mq_pf, mq_ok, mj_re, mq_lkm, mq_lkn, mj_ldi, mj_ldl, mj_lda, mj_ii, mj_ll, mj_li, mj_i1, ms_1, ms_2, f1_n, f1_i, f1_r, f1_u, f1_l, f2_n, f2_i, f2_r, f2_u, f2_l, mj_tg, mj_c1, mj_c2, mj_ar, mj_aw, mq_cb, mq_oi, mj_rm, Value.category, -getElem?_pos, List.getElem?_cons_zero, decide_eq_true, decide_eq_false, nl_lt, nl_le, ln_lt, ln_le, nl_eq, ln_eq, nl_add, ln_add, nl_sub, ln_mul, nI_sub, nI_mul, nI_add, nI_lt_iff, nI_le_iff, nI_inj, nI_num, mq_ix, nI_1, h.u.ob, hs, h0, hnx]
        refine mq_wk ?_ r1
        simp [mq_sub, mj_lk]
theorem q_member {num : Nat} (hnum : num < 100) (h : iT M ms n S V H E N) (hi : iA (tbA S V H E N) ms n i o) : ∃ x, mj_V (d + 2) 87 [.ref 36, .int i, .int (nI num)] M = some (some (.int x), M) ∧ iA (tbA S V H E N) ms n x (cbMb ms (cbIs ms num) o) := by
  have hs := q_sort (d := d) h hi
  have hv := q_val (d := d) h hi
  cases o with
  | none =>
    cases hi
    refine ⟨-1, ?_, rfl⟩
    simp (disch := (first | omega | decide)) [c87, s87_0, s87_1, s87_2, s87_5, s87_6, s87_9, s87_10, s87_11, s87_14, s87_17, s87_18, s87_19, s87_20, s87_21, s87_22, s87_24, s87_25, s87_27, s87_29, s87_30, s87_33, s87_34, s87_36, s87_39, s87_42, s87_43, s87_45, s87_48, s87_49, s87_52, s87_54, s87_55, s87_56, s87_57, s87_58, s87_60, s87_61, s87_62, s87_65, s87_67, s87_70, s87_73, s87_74, mq_k0s, mq_k1s, mq_k2s, mq_k4s, mq_k5s, mq_k5n, mq_k5as, mq_k6s, mj_pu, mj_lo, mj_br, mj_hr, mj_hw, mq_gf, mq_len, mq_al, mq_pf, mq_ok, mj_re, mq_lkm, mq_lkn, mj_ldi, mj_ldl, mj_lda, mj_ii, mj_ll, mj_li, mj_i1, ms_1, ms_2, f1_n, f1_i, f1_r, f1_u, f1_l, f2_n, f2_i, f2_r, f2_u, f2_l, mj_tg, mj_c1, mj_c2, mj_ar, mj_aw, mq_cb, mq_oi, mj_rm, Value.category, -getElem?_pos, List.getElem?_cons_zero, decide_eq_true, decide_eq_false, nl_lt, nl_le, ln_lt, ln_le, nl_eq, ln_eq, nl_add, ln_add, nl_sub, ln_mul, nI_sub, nI_mul, nI_add, nI_lt_iff, nI_le_iff, nI_inj, nI_num, mq_ix, nI_1, h.u.ob, hs, oS, show (-1 : Int32) + 1 = 0 from by decide, narrow]
  | some p =>
    have hB := ms_by h.b.2.2.2.2.1 p
    have hS8 : cbS ms p < 8 := by unfold cbS; omega
    simp only [oS, oV] at hs hv
    unfold cbMb
    by_cases h5 : cbS ms p = 5
    · obtain ⟨r, k, q, j, hr, rfl, hx, hj⟩ := hi
      obtain ⟨r', rfl, hp⟩ := Nx_map hx h5
      have hv31 := (cbI_ok hx.1).2.2.2.2.2.1
      obtain ⟨x, r1, r2⟩ := l_member (d := d) (i := nI k) hnum h (r := r') (m0 := cbV ms p) (by omega) hv31 (cbV ms p) 0 _ _ _ _ (by omega) hp hj
      refine ⟨x, ?_, by simpa [h5] using r2⟩
      rw [h5] at hs
      rw [nI_0] at r1
      simp (disch := (first | omega | decide)) [c87, s87_0, s87_1, s87_2, s87_5, s87_6, s87_9, s87_10, s87_11, s87_14, s87_17, s87_18, s87_19, s87_20, s87_21, s87_22, s87_24, s87_25, s87_29, s87_30, s87_33, s87_34, s87_36, s87_39, s87_42, s87_43, s87_45, s87_48, s87_49, s87_52, s87_54, s87_55, s87_56, s87_57, s87_58, s87_60, s87_61, s87_62, s87_65, s87_67, s87_70, s87_73, s87_74, mq_k0s, mq_k1s, mq_k2s, mq_k4s, mq_k5s, mq_k5n, mq_k5as, mq_k6s, mj_pu, mj_lo, mj_br, mj_hr, mj_hw, mq_gf, mq_len, mq_al, mq_pf, mq_ok, mj_re, mq_lkm, mq_lkn, mj_ldi, mj_ldl, mj_lda, mj_ii, mj_ll, mj_li, mj_i1, ms_1, ms_2, f1_n, f1_i, f1_r, f1_u, f1_l, f2_n, f2_i, f2_r, f2_u, f2_l, mj_tg, mj_c1, mj_c2, mj_ar, mj_aw, mq_cb, mq_oi, mj_rm, Value.category, -getElem?_pos, List.getElem?_cons_zero, decide_eq_true, decide_eq_false, nl_lt, nl_le, ln_lt, ln_le, nl_eq, ln_eq, nl_add, ln_add, nl_sub, ln_mul, nI_sub, nI_mul, nI_add, nI_lt_iff, nI_le_iff, nI_inj, nI_num, mq_ix, nI_1, h.u.ob, hs, hv]
      refine mq_wk ?_ r1
      simp [mq_sub, mj_lk]
    · refine ⟨-1, ?_, by simp [h5, iA]⟩
      simp (disch := (first | omega | decide)) [c87, s87_0, s87_1, s87_2, s87_5, s87_6, s87_9, s87_10, s87_11, s87_14, s87_17, s87_18, s87_19, s87_20, s87_21, s87_22, s87_24, s87_25, s87_27, s87_29, s87_30, s87_33, s87_34, s87_36, s87_39, s87_42, s87_43, s87_45, s87_48, s87_49, s87_52, s87_54, s87_55, s87_56, s87_57, s87_58, s87_60, s87_61, s87_62, s87_65, s87_67, s87_70, s87_73, s87_74, mq_k0s, mq_k1s, mq_k2s, mq_k4s, mq_k5s, mq_k5n, mq_k5as, mq_k6s, mj_pu, mj_lo, mj_br, mj_hr, mj_hw, mq_gf, mq_len, mq_al, mq_pf, mq_ok, mj_re, mq_lkm, mq_lkn, mj_ldi, mj_ldl, mj_lda, mj_ii, mj_ll, mj_li, mj_i1, ms_1, ms_2, f1_n, f1_i, f1_r, f1_u, f1_l, f2_n, f2_i, f2_r, f2_u, f2_l, mj_tg, mj_c1, mj_c2, mj_ar, mj_aw, mq_cb, mq_oi, mj_rm, Value.category, -getElem?_pos, List.getElem?_cons_zero, decide_eq_true, decide_eq_false, nl_lt, nl_le, ln_lt, ln_le, nl_eq, ln_eq, nl_add, ln_add, nl_sub, ln_mul, nI_sub, nI_mul, nI_add, nI_lt_iff, nI_le_iff, nI_inj, nI_num, mq_ix, nI_1, h.u.ob, hs, h5, narrow]
theorem l_named {a : Nat} {t : List Int32} (h : iT M ms n S V H E N) (hg : sg M a t) {r m0 : Nat} (hr : r ≤ 4) (hm0 : m0 < 2 ^ 31) : ∀ (m u p k q j : Nat), u + m = m0 → Pr (Nx (tbA S V H E N) ms r) ms m p k q j → j ≤ n → ∃ x, mj_Rn (d + 5) mj_m90 27 [(5, .int (nI u)), (4, .int (nI k)), (3, .int (nI m0)), (0, .ref 36), (1, .int i), (2, .ref a)] [] M = some (some (.int x), M) ∧ iA (tbA S V H E N) ms n x (cbMem ms (cbTx ms t) m p) := by
  intro m
  induction m with
  | zero =>
    intro u p k q j ht _ _
    refine ⟨-1, ?_, rfl⟩
    simp (disch := (first | omega | decide)) [s90_0, s90_1, s90_2, s90_5, s90_6, s90_9, s90_10, s90_11, s90_14, s90_17, s90_18, s90_19, s90_20, s90_21, s90_22, s90_24, s90_25, s90_27, s90_29, s90_30, s90_33, s90_34, s90_36, s90_37, s90_40, s90_43, s90_45, s90_46, s90_47, s90_48, s90_49, s90_51, s90_52, s90_53, s90_56, s90_58, s90_61, s90_64, s90_65, mq_k0s, mq_k1s, mq_k2s, mq_k4s, mq_k5s, mq_k5n, mq_k5as, mq_k6s, mj_pu, mj_lo, mj_br, mj_hr, mj_hw, mq_gf, mq_len, mq_al, mq_pf, mq_ok, mj_re, mq_lkm, mq_lkn, mj_ldi, mj_ldl, mj_lda, mj_ii, mj_ll, mj_li, mj_i1, ms_1, ms_2, f1_n, f1_i, f1_r, f1_u, f1_l, f2_n, f2_i, f2_r, f2_u, f2_l, mj_tg, mj_c1, mj_c2, mj_ar, mj_aw, mq_cb, mq_oi, mj_rm, Value.category, -getElem?_pos, List.getElem?_cons_zero, decide_eq_true, decide_eq_false, nl_lt, nl_le, ln_lt, ln_le, nl_eq, ln_eq, nl_add, ln_add, nl_sub, ln_mul, nI_sub, nI_mul, nI_add, nI_lt_iff, nI_le_iff, nI_inj, nI_num, mq_ix, nI_1, narrow]
  | succ m ih =>
    intro u p k q j ht hp hj
    obtain ⟨q1, q2, j2, hks, hx1, hx2, hp2⟩ := hp
    have hlt1 := (Nd_lt _ _ _ _ _ hx1.2).1
    have hlt2 := (Nd_lt _ _ _ _ _ hx2.2).1
    have hle : j2 ≤ j := by
      have : ∀ (m p k q j : Nat), Pr (Nx (tbA S V H E N) ms r) ms m p k q j → k ≤ j := by
        intro m
        induction m with
        | zero => intro p k q j h; rw [h.2]; exact Nat.le_refl _
        | succ m ih2 =>
          intro p k q j h
          obtain ⟨a1, a2, a3, -, x1, x2, x3⟩ := h
          have y1 := (Nd_lt _ _ _ _ _ x1.2).1
          have y2 := (Nd_lt _ _ _ _ _ x2.2).1
          have := ih2 _ _ _ _ x3
          omega
      exact this _ _ _ _ _ hp2
    have i1 : iA (tbA S V H E N) ms n (nI k) (some p) := ⟨r, k, q1, k + 1, hr, rfl, hx1, by omega⟩
    have hsy := q_says (d := d) h i1 hg
    have hnx := q_next (d := d + 4) h hx2 (by omega)
    obtain ⟨he, hkn, hn, -⟩ := h.at hx1 (by omega)
    have eE1 : cbE ms p = q1 := cbE_eq hx1.1 hr
    have eE2 : cbE ms q1 = q2 := cbE_eq hx2.1 hr
    unfold cbMem
    rw [eE1, eE2]
    rw [s90_27]
    have hsy : mj_V (d + 5) 91 [.ref 36, .int (nI k), .ref a] M = some (some (.int (if cbTx ms t p = true then 1 else 0)), M) := hsy
    by_cases hhit : cbTx ms t p = true
    · rw [if_pos hhit] at hsy
      rw [if_pos hhit]
      refine ⟨nI (k + 1), ?_, ⟨r, k + 1, q2, j2, hr, rfl, hx2, by omega⟩⟩
      simp (disch := (first | omega | decide)) [s90_0, s90_1, s90_2, s90_5, s90_6, s90_9, s90_10, s90_11, s90_14, s90_17, s90_18, s90_19, s90_20, s90_21, s90_22, s90_24, s90_25, s90_29, s90_30, s90_33, s90_34, s90_36, s90_37, s90_40, s90_43, s90_45, s90_46, s90_47, s90_48, s90_49, s90_51, s90_52, s90_53, s90_56, s90_58, s90_61, s90_64, s90_65, mq_k0s, mq_k1s, mq_k2s, mq_k4s, mq_k5s, mq_k5n, mq_k5as, mq_k6s, mj_pu, mj_lo, mj_br, mj_hr, mj_hw, mq_gf, mq_len, mq_al, mq_pf, mq_ok, mj_re, mq_lkm, mq_lkn, mj_ldi, mj_ldl, mj_lda, mj_ii, mj_ll, mj_li, mj_i1, ms_1, ms_2, f1_n, f1_i, f1_r, f1_u, f1_l, f2_n, f2_i, f2_r, f2_u, f2_l, mj_tg, mj_c1, mj_c2, mj_ar, mj_aw, mq_cb, mq_oi, mj_rm, Value.category, -getElem?_pos, List.getElem?_cons_zero, decide_eq_true, decide_eq_false, nl_lt, nl_le, ln_lt, ln_le, nl_eq, ln_eq, nl_add, ln_add, nl_sub, ln_mul, nI_sub, nI_mul, nI_add, nI_lt_iff, nI_le_iff, nI_inj, nI_num, mq_ix, nI_1, h.u.ob, hsy, narrow]
    · rw [if_neg hhit] at hsy
      rw [if_neg hhit]
      obtain ⟨x, r1, r2⟩ := ih (u + 1) _ _ _ _ (by omega) hp2 hj
      refine ⟨x, ?_, r2⟩
      simp (disch := (first | omega | decide)) [s90_0, s90_1, s90_2, s90_5, s90_6, s90_9, s90_10, s90_11, s90_14, s90_17, s90_18, s90_19, s90_20, s90_21, s90_22, s90_24, s90_25, s90_29, s90_30, s90_33, s90_34, s90_36, s90_37, s90_40, s90_43, s90_45, s90_46, s90_47, s90_48, s90_49, s90_51, s90_52, s90_53, s90_56, s90_58, s90_61, s90_64, s90_65, mq_k0s, mq_k1s, mq_k2s, mq_k4s, mq_k5s, mq_k5n, mq_k5as, mq_k6s, mj_pu, mj_lo, mj_br, mj_hr, mj_hw, mq_gf, mq_len, mq_al, mq_pf, mq_ok, mj_re, mq_lkm, mq_lkn, mj_ldi, mj_ldl, mj_lda, mj_ii, mj_ll, mj_li, mj_i1, ms_1, ms_2, f1_n, f1_i, f1_r, f1_u, f1_l, f2_n, f2_i, f2_r, f2_u, f2_l, mj_tg, mj_c1, mj_c2, mj_ar, mj_aw, mq_cb, mq_oi, mj_rm, Value.category, -getElem?_pos, List.getElem?_cons_zero, decide_eq_true, decide_eq_false, nl_lt, nl_le, ln_lt, ln_le, nl_eq, ln_eq, nl_add, ln_add, nl_sub, ln_mul, nI_sub, nI_mul, nI_add, nI_lt_iff, nI_le_iff, nI_inj, nI_num, mq_ix, nI_1, h.u.ob, hsy, hnx]
      refine mq_wk ?_ r1
      simp [mq_sub, mj_lk]
theorem q_named {a : Nat} {t : List Int32} (h : iT M ms n S V H E N) (hi : iA (tbA S V H E N) ms n i o) (hg : sg M a t) : ∃ x, mj_V (d + 6) 90 [.ref 36, .int i, .ref a] M = some (some (.int x), M) ∧ iA (tbA S V H E N) ms n x (cbMb ms (cbTx ms t) o) := by
  have hs := q_sort (d := d + 4) h hi
  have hv := q_val (d := d + 4) h hi
  cases o with
  | none =>
    cases hi
    refine ⟨-1, ?_, rfl⟩
    simp (disch := (first | omega | decide)) [c90, s90_0, s90_1, s90_2, s90_5, s90_6, s90_9, s90_10, s90_11, s90_14, s90_17, s90_18, s90_19, s90_20, s90_21, s90_22, s90_24, s90_25, s90_27, s90_29, s90_30, s90_33, s90_34, s90_36, s90_37, s90_40, s90_43, s90_45, s90_46, s90_47, s90_48, s90_49, s90_51, s90_52, s90_53, s90_56, s90_58, s90_61, s90_64, s90_65, mq_k0s, mq_k1s, mq_k2s, mq_k4s, mq_k5s, mq_k5n, mq_k5as, mq_k6s, mj_pu, mj_lo, mj_br, mj_hr, mj_hw, mq_gf, mq_len, mq_al, mq_pf, mq_ok, mj_re, mq_lkm, mq_lkn, mj_ldi, mj_ldl, mj_lda, mj_ii, mj_ll, mj_li, mj_i1, ms_1, ms_2, f1_n, f1_i, f1_r, f1_u, f1_l, f2_n, f2_i, f2_r, f2_u, f2_l, mj_tg, mj_c1, mj_c2, mj_ar, mj_aw, mq_cb, mq_oi, mj_rm, Value.category, -getElem?_pos, List.getElem?_cons_zero, decide_eq_true, decide_eq_false, nl_lt, nl_le, ln_lt, ln_le, nl_eq, ln_eq, nl_add, ln_add, nl_sub, ln_mul, nI_sub, nI_mul, nI_add, nI_lt_iff, nI_le_iff, nI_inj, nI_num, mq_ix, nI_1, h.u.ob, hs, oS, show (-1 : Int32) + 1 = 0 from by decide, narrow]
  | some p =>
    have hB := ms_by h.b.2.2.2.2.1 p
    have hS8 : cbS ms p < 8 := by unfold cbS; omega
    simp only [oS, oV] at hs hv
    unfold cbMb
    by_cases h5 : cbS ms p = 5
    · obtain ⟨r, k, q, j, hr, rfl, hx, hj⟩ := hi
      obtain ⟨r', rfl, hp⟩ := Nx_map hx h5
      have hv31 := (cbI_ok hx.1).2.2.2.2.2.1
      obtain ⟨x, r1, r2⟩ := l_named (d := d) (i := nI k) h hg (r := r') (m0 := cbV ms p) (by omega) hv31 (cbV ms p) 0 _ _ _ _ (by omega) hp hj
      refine ⟨x, ?_, by simpa [h5] using r2⟩
      rw [h5] at hs
      rw [nI_0] at r1
      simp (disch := (first | omega | decide)) [c90, s90_0, s90_1, s90_2, s90_5, s90_6, s90_9, s90_10, s90_11, s90_14, s90_17, s90_18, s90_19, s90_20, s90_21, s90_22, s90_24, s90_25, s90_29, s90_30, s90_33, s90_34, s90_36, s90_37, s90_40, s90_43, s90_45, s90_46, s90_47, s90_48, s90_49, s90_51, s90_52, s90_53, s90_56, s90_58, s90_61, s90_64, s90_65, mq_k0s, mq_k1s, mq_k2s, mq_k4s, mq_k5s, mq_k5n, mq_k5as, mq_k6s, mj_pu, mj_lo, mj_br, mj_hr, mj_hw, mq_gf, mq_len, mq_al, mq_pf, mq_ok, mj_re, mq_lkm, mq_lkn, mj_ldi, mj_ldl, mj_lda, mj_ii, mj_ll, mj_li, mj_i1, ms_1, ms_2, f1_n, f1_i, f1_r, f1_u, f1_l, f2_n, f2_i, f2_r, f2_u, f2_l, mj_tg, mj_c1, mj_c2, mj_ar, mj_aw, mq_cb, mq_oi, mj_rm, Value.category, -getElem?_pos, List.getElem?_cons_zero, decide_eq_true, decide_eq_false, nl_lt, nl_le, ln_lt, ln_le, nl_eq, ln_eq, nl_add, ln_add, nl_sub, ln_mul, nI_sub, nI_mul, nI_add, nI_lt_iff, nI_le_iff, nI_inj, nI_num, mq_ix, nI_1, h.u.ob, hs, hv]
      refine mq_wk ?_ r1
      simp [mq_sub, mj_lk]
    · refine ⟨-1, ?_, by simp [h5, iA]⟩
      simp (disch := (first | omega | decide)) [c90, s90_0, s90_1, s90_2, s90_5, s90_6, s90_9, s90_10, s90_11, s90_14, s90_17, s90_18, s90_19, s90_20, s90_21, s90_22, s90_24, s90_25, s90_27, s90_29, s90_30, s90_33, s90_34, s90_36, s90_37, s90_40, s90_43, s90_45, s90_46, s90_47, s90_48, s90_49, s90_51, s90_52, s90_53, s90_56, s90_58, s90_61, s90_64, s90_65, mq_k0s, mq_k1s, mq_k2s, mq_k4s, mq_k5s, mq_k5n, mq_k5as, mq_k6s, mj_pu, mj_lo, mj_br, mj_hr, mj_hw, mq_gf, mq_len, mq_al, mq_pf, mq_ok, mj_re, mq_lkm, mq_lkn, mj_ldi, mj_ldl, mj_lda, mj_ii, mj_ll, mj_li, mj_i1, ms_1, ms_2, f1_n, f1_i, f1_r, f1_u, f1_l, f2_n, f2_i, f2_r, f2_u, f2_l, mj_tg, mj_c1, mj_c2, mj_ar, mj_aw, mq_cb, mq_oi, mj_rm, Value.category, -getElem?_pos, List.getElem?_cons_zero, decide_eq_true, decide_eq_false, nl_lt, nl_le, ln_lt, ln_le, nl_eq, ln_eq, nl_add, ln_add, nl_sub, ln_mul, nI_sub, nI_mul, nI_add, nI_lt_iff, nI_le_iff, nI_inj, nI_num, mq_ix, nI_1, h.u.ob, hs, h5, narrow]
end IQ
end
/- 67.items7 -/
section
set_option maxRecDepth 512
/-! Class: Items, tests of items and lists. -/
def oFit (ms : List Int32) (s : Nat) : Option Nat → Bool
  | none => true
  | some p => decide (cbS ms p = s) || (decide (s = 8) && decide (cbS ms p ≤ 1))
def oVn (ms : List Int32) : Option Nat → Nat
  | none => 0
  | some p => cbV ms p
def oSim (ms : List Int32) (v : Nat) : Option Nat → Bool
  | none => false
  | some p => decide (cbS ms p = 7) && decide (cbV ms p = v)
/-- the bytes of an item -/
def oBy (ms : List Int32) : Option Nat → List Int32
  | none => []
  | some p => (ms.drop (cbC ms p)).take (cbV ms p)
def o4 (ms : List Int32) : Option Nat → Int32
  | none => 0
  | some p => if cbS ms p = 2 ∧ cbV ms p = 4 then (bt_lo ((ms.drop (cbC ms p)).take 4)).toInt32 else 0
def cbAll (ms : List Int32) (f : Nat → Bool) : Nat → Nat → Bool
  | 0, _ => true
  | n + 1, p => f p && cbAll ms f n (cbE ms p)
def ty_ : List Int32 := [116, 121, 112, 101]
def pk_ : List Int32 := [112, 117, 98, 108, 105, 99, 45, 107, 101, 121]
def cbNm (ms t : List Int32) (o : Option Nat) : Option Nat := cbMb ms (cbTx ms t) o
def lfF (ms t : List Int32) (s e : Nat) : Bool := decide (cbS ms e = 5) && (oFit ms s (cbNm ms t (some e)) && oFit ms 3 (cbNm ms ty_ (some e)))
def lwF (ms t : List Int32) (e : Nat) : Bool := !(cbNm ms t (some e)).isNone && !(cbNm ms ty_ (some e)).isNone
def cbLf (ms t : List Int32) (s : Nat) : Option Nat → Bool
  | none => true
  | some p => decide (cbS ms p = 4) && cbAll ms (lfF ms t s) (cbV ms p) (cbC ms p)
def cbLw (ms t : List Int32) : Option Nat → Bool
  | none => true
  | some p => cbAll ms (lwF ms t) (cbV ms p) (cbC ms p)
section IQ
variable {d n : Nat} {M : mj_H} {ms S V H E N : List Int32} {i : Int32} {o : Option Nat}
theorem iA.neg (h : iT M ms n S V H E N) (hi : iA (tbA S V H E N) ms n i o) : (i = -1) ↔ o = none := by
  cases o with
  | none => cases hi; simp
  | some p =>
    obtain ⟨r, k, q, j, hr, rfl, hx, hj⟩ := hi
    obtain ⟨-, hk, hn, -⟩ := h.at hx hj
    rw [nI_m1 (by omega)]; simp
theorem q_fits {s : Nat} (hs9 : s < 9) (h : iT M ms n S V H E N) (hi : iA (tbA S V H E N) ms n i o) : mj_V (d + 2) 104 [.ref 36, .int i, .int (nI s)] M = some (some (.int (if oFit ms s o then 1 else 0)), M) := by
  have hs := q_sort (d := d) h hi
  have hn := iA.neg h hi
  cases o with
  | none =>
    cases hi
    simp (disch := (first | omega | decide)) [c104, s104_0, s104_1, s104_2, s104_5, s104_6, s104_7, s104_8, s104_11, s104_12, s104_13, s104_16, s104_17, s104_19, s104_22, s104_23, s104_26, s104_27, s104_28, s104_31, s104_32, s104_35, s104_36, mq_k0s, mq_k1s, mq_k2s, mq_k4s, mq_k5s, mq_k5n, mq_k5as, mq_k6s, mj_pu, mj_lo, mj_br, mj_hr, mj_hw, mq_gf, mq_len, mq_al, mq_pf, mq_ok, mj_re, mq_lkm, mq_lkn, mj_ldi, mj_ldl, mj_lda, mj_ii, mj_ll, mj_li, mj_i1, ms_1, ms_2, f1_n, f1_i, f1_r, f1_u, f1_l, f2_n, f2_i, f2_r, f2_u, f2_l, mj_tg, mj_c1, mj_c2, mj_ar, mj_aw, mq_cb, mq_oi, mj_rm, Value.category, -getElem?_pos, List.getElem?_cons_zero, decide_eq_true, decide_eq_false, nl_lt, nl_le, ln_lt, ln_le, nl_eq, ln_eq, nl_add, ln_add, nl_sub, ln_mul, nI_sub, nI_mul, nI_add, nI_lt_iff, nI_le_iff, nI_inj, nI_num, mq_ix, nI_1, h.u.ob, hs, oS, oFit, narrow_b1]
  | some p =>
    have hB := ms_by h.b.2.2.2.2.1 p
    have hS8 : cbS ms p < 8 := by unfold cbS; omega
    have hne : ¬ i = -1 := fun z => by have := hn.mp z; cases this
    simp only [oS] at hs
    show mj_V _ _ _ _ = some (some (.int (if (decide (cbS ms p = s) || (decide (s = 8) && decide (cbS ms p ≤ 1))) = true then 1 else 0)), M)
    by_cases h1 : cbS ms p = s
    · simp (disch := (first | omega | decide)) [c104, s104_0, s104_1, s104_2, s104_5, s104_6, s104_7, s104_8, s104_11, s104_12, s104_13, s104_16, s104_17, s104_19, s104_22, s104_23, s104_26, s104_27, s104_28, s104_31, s104_32, s104_35, s104_36, mq_k0s, mq_k1s, mq_k2s, mq_k4s, mq_k5s, mq_k5n, mq_k5as, mq_k6s, mj_pu, mj_lo, mj_br, mj_hr, mj_hw, mq_gf, mq_len, mq_al, mq_pf, mq_ok, mj_re, mq_lkm, mq_lkn, mj_ldi, mj_ldl, mj_lda, mj_ii, mj_ll, mj_li, mj_i1, ms_1, ms_2, f1_n, f1_i, f1_r, f1_u, f1_l, f2_n, f2_i, f2_r, f2_u, f2_l, mj_tg, mj_c1, mj_c2, mj_ar, mj_aw, mq_cb, mq_oi, mj_rm, Value.category, -getElem?_pos, List.getElem?_cons_zero, decide_eq_true, decide_eq_false, nl_lt, nl_le, ln_lt, ln_le, nl_eq, ln_eq, nl_add, ln_add, nl_sub, ln_mul, nI_sub, nI_mul, nI_add, nI_lt_iff, nI_le_iff, nI_inj, nI_num, mq_ix, nI_1, h.u.ob, hs, hne, h1, narrow_b1]
    · by_cases h8 : s = 8
      · subst h8
        by_cases h0 : cbS ms p = 0
        · rw [h0] at hs
          simp (disch := (first | omega | decide)) [c104, s104_0, s104_1, s104_2, s104_5, s104_6, s104_7, s104_8, s104_11, s104_12, s104_13, s104_16, s104_17, s104_19, s104_22, s104_23, s104_26, s104_27, s104_28, s104_31, s104_32, s104_35, s104_36, mq_k0s, mq_k1s, mq_k2s, mq_k4s, mq_k5s, mq_k5n, mq_k5as, mq_k6s, mj_pu, mj_lo, mj_br, mj_hr, mj_hw, mq_gf, mq_len, mq_al, mq_pf, mq_ok, mj_re, mq_lkm, mq_lkn, mj_ldi, mj_ldl, mj_lda, mj_ii, mj_ll, mj_li, mj_i1, ms_1, ms_2, f1_n, f1_i, f1_r, f1_u, f1_l, f2_n, f2_i, f2_r, f2_u, f2_l, mj_tg, mj_c1, mj_c2, mj_ar, mj_aw, mq_cb, mq_oi, mj_rm, Value.category, -getElem?_pos, List.getElem?_cons_zero, decide_eq_true, decide_eq_false, nl_lt, nl_le, ln_lt, ln_le, nl_eq, ln_eq, nl_add, ln_add, nl_sub, ln_mul, nI_sub, nI_mul, nI_add, nI_lt_iff, nI_le_iff, nI_inj, nI_num, mq_ix, nI_1, h.u.ob, hs, hne, h0, narrow_b1]
        · by_cases h2 : cbS ms p = 1
          · rw [h2] at hs
            simp (disch := (first | omega | decide)) [c104, s104_0, s104_1, s104_2, s104_5, s104_6, s104_7, s104_8, s104_11, s104_12, s104_13, s104_16, s104_17, s104_19, s104_22, s104_23, s104_26, s104_27, s104_28, s104_31, s104_32, s104_35, s104_36, mq_k0s, mq_k1s, mq_k2s, mq_k4s, mq_k5s, mq_k5n, mq_k5as, mq_k6s, mj_pu, mj_lo, mj_br, mj_hr, mj_hw, mq_gf, mq_len, mq_al, mq_pf, mq_ok, mj_re, mq_lkm, mq_lkn, mj_ldi, mj_ldl, mj_lda, mj_ii, mj_ll, mj_li, mj_i1, ms_1, ms_2, f1_n, f1_i, f1_r, f1_u, f1_l, f2_n, f2_i, f2_r, f2_u, f2_l, mj_tg, mj_c1, mj_c2, mj_ar, mj_aw, mq_cb, mq_oi, mj_rm, Value.category, -getElem?_pos, List.getElem?_cons_zero, decide_eq_true, decide_eq_false, nl_lt, nl_le, ln_lt, ln_le, nl_eq, ln_eq, nl_add, ln_add, nl_sub, ln_mul, nI_sub, nI_mul, nI_add, nI_lt_iff, nI_le_iff, nI_inj, nI_num, mq_ix, nI_1, h.u.ob, hs, hne, h2, narrow_b1]
          · simp (disch := (first | omega | decide)) [c104, s104_0, s104_1, s104_2, s104_5, s104_6, s104_7, s104_8, s104_11, s104_12, s104_13, s104_16, s104_17, s104_19, s104_22, s104_23, s104_26, s104_27, s104_28, s104_31, s104_32, s104_35, s104_36, mq_k0s, mq_k1s, mq_k2s, mq_k4s, mq_k5s, mq_k5n, mq_k5as, mq_k6s, mj_pu, mj_lo, mj_br, mj_hr, mj_hw, mq_gf, mq_len, mq_al, mq_pf, mq_ok, mj_re, mq_lkm, mq_lkn, mj_ldi, mj_ldl, mj_lda, mj_ii, mj_ll, mj_li, mj_i1, ms_1, ms_2, f1_n, f1_i, f1_r, f1_u, f1_l, f2_n, f2_i, f2_r, f2_u, f2_l, mj_tg, mj_c1, mj_c2, mj_ar, mj_aw, mq_cb, mq_oi, mj_rm, Value.category, -getElem?_pos, List.getElem?_cons_zero, decide_eq_true, decide_eq_false, nl_lt, nl_le, ln_lt, ln_le, nl_eq, ln_eq, nl_add, ln_add, nl_sub, ln_mul, nI_sub, nI_mul, nI_add, nI_lt_iff, nI_le_iff, nI_inj, nI_num, mq_ix, nI_1, h.u.ob, hs, hne, h0, h2, h1, show ¬ cbS ms p ≤ 1 by omega, narrow_b0]
      · simp (disch := (first | omega | decide)) [c104, s104_0, s104_1, s104_2, s104_5, s104_6, s104_7, s104_8, s104_11, s104_12, s104_13, s104_16, s104_17, s104_19, s104_22, s104_23, s104_26, s104_27, s104_28, s104_31, s104_32, s104_35, s104_36, mq_k0s, mq_k1s, mq_k2s, mq_k4s, mq_k5s, mq_k5n, mq_k5as, mq_k6s, mj_pu, mj_lo, mj_br, mj_hr, mj_hw, mq_gf, mq_len, mq_al, mq_pf, mq_ok, mj_re, mq_lkm, mq_lkn, mj_ldi, mj_ldl, mj_lda, mj_ii, mj_ll, mj_li, mj_i1, ms_1, ms_2, f1_n, f1_i, f1_r, f1_u, f1_l, f2_n, f2_i, f2_r, f2_u, f2_l, mj_tg, mj_c1, mj_c2, mj_ar, mj_aw, mq_cb, mq_oi, mj_rm, Value.category, -getElem?_pos, List.getElem?_cons_zero, decide_eq_true, decide_eq_false, nl_lt, nl_le, ln_lt, ln_le, nl_eq, ln_eq, nl_add, ln_add, nl_sub, ln_mul, nI_sub, nI_mul, nI_add, nI_lt_iff, nI_le_iff, nI_inj, nI_num, mq_ix, nI_1, h.u.ob, hs, hne, h1, h8, narrow_b0]
theorem oVn_lt (h : iT M ms n S V H E N) (hi : iA (tbA S V H E N) ms n i o) : oVn ms o < 2 ^ 31 := by
  cases o with
  | none => simp [oVn]
  | some p =>
    obtain ⟨r, k, q, j, hr, rfl, hx, hj⟩ := hi
    exact (cbI_ok hx.1).2.2.2.2.2.1
theorem oV_n : oV ms o = nI (oVn ms o) := by cases o <;> rfl
theorem q_long {a b : Nat} (ha : a < 100) (hb : b < 100) (h : iT M ms n S V H E N) (hi : iA (tbA S V H E N) ms n i o) : mj_V (d + 2) 108 [.ref 36, .int i, .int (nI a), .int (nI b)] M = some (some (.int (if a ≤ oVn ms o ∧ oVn ms o ≤ b then 1 else 0)), M) := by
  have hv := q_val (d := d) h hi
  have hl := oVn_lt h hi
  rw [oV_n] at hv
  by_cases h1 : oVn ms o < a
  · simp (disch := (first | omega | decide)) [c108, s108_0, s108_1, s108_2, s108_5, s108_6, s108_9, s108_10, s108_11, s108_14, s108_15, s108_18, s108_19, s108_22, s108_23, mq_k0s, mq_k1s, mq_k2s, mq_k4s, mq_k5s, mq_k5n, mq_k5as, mq_k6s, mj_pu, mj_lo, mj_br, mj_hr, mj_hw, mq_gf, mq_len, mq_al, mq_pf, mq_ok, mj_re, mq_lkm, mq_lkn, mj_ldi, mj_ldl, mj_lda, mj_ii, mj_ll, mj_li, mj_i1, ms_1, ms_2, f1_n, f1_i, f1_r, f1_u, f1_l, f2_n, f2_i, f2_r, f2_u, f2_l, mj_tg, mj_c1, mj_c2, mj_ar, mj_aw, mq_cb, mq_oi, mj_rm, Value.category, -getElem?_pos, List.getElem?_cons_zero, decide_eq_true, decide_eq_false, nl_lt, nl_le, ln_lt, ln_le, nl_eq, ln_eq, nl_add, ln_add, nl_sub, ln_mul, nI_sub, nI_mul, nI_add, nI_lt_iff, nI_le_iff, nI_inj, nI_num, mq_ix, nI_1, h.u.ob, hv, h1, show ¬ a ≤ oVn ms o by omega, narrow_b0]
  · by_cases h2 : oVn ms o ≤ b
    · simp (disch := (first | omega | decide)) [c108, s108_0, s108_1, s108_2, s108_5, s108_6, s108_9, s108_10, s108_11, s108_14, s108_15, s108_18, s108_19, s108_22, s108_23, mq_k0s, mq_k1s, mq_k2s, mq_k4s, mq_k5s, mq_k5n, mq_k5as, mq_k6s, mj_pu, mj_lo, mj_br, mj_hr, mj_hw, mq_gf, mq_len, mq_al, mq_pf, mq_ok, mj_re, mq_lkm, mq_lkn, mj_ldi, mj_ldl, mj_lda, mj_ii, mj_ll, mj_li, mj_i1, ms_1, ms_2, f1_n, f1_i, f1_r, f1_u, f1_l, f2_n, f2_i, f2_r, f2_u, f2_l, mj_tg, mj_c1, mj_c2, mj_ar, mj_aw, mq_cb, mq_oi, mj_rm, Value.category, -getElem?_pos, List.getElem?_cons_zero, decide_eq_true, decide_eq_false, nl_lt, nl_le, ln_lt, ln_le, nl_eq, ln_eq, nl_add, ln_add, nl_sub, ln_mul, nI_sub, nI_mul, nI_add, nI_lt_iff, nI_le_iff, nI_inj, nI_num, mq_ix, nI_1, h.u.ob, hv, h1, h2, show a ≤ oVn ms o by omega, narrow_b1]
    · simp (disch := (first | omega | decide)) [c108, s108_0, s108_1, s108_2, s108_5, s108_6, s108_9, s108_10, s108_11, s108_14, s108_15, s108_18, s108_19, s108_22, s108_23, mq_k0s, mq_k1s, mq_k2s, mq_k4s, mq_k5s, mq_k5n, mq_k5as, mq_k6s, mj_pu, mj_lo, mj_br, mj_hr, mj_hw, mq_gf, mq_len, mq_al, mq_pf, mq_ok, mj_re, mq_lkm, mq_lkn, mj_ldi, mj_ldl, mj_lda, mj_ii, mj_ll, mj_li, mj_i1, ms_1, ms_2, f1_n, f1_i, f1_r, f1_u, f1_l, f2_n, f2_i, f2_r, f2_u, f2_l, mj_tg, mj_c1, mj_c2, mj_ar, mj_aw, mq_cb, mq_oi, mj_rm, Value.category, -getElem?_pos, List.getElem?_cons_zero, decide_eq_true, decide_eq_false, nl_lt, nl_le, ln_lt, ln_le, nl_eq, ln_eq, nl_add, ln_add, nl_sub, ln_mul, nI_sub, nI_mul, nI_add, nI_lt_iff, nI_le_iff, nI_inj, nI_num, mq_ix, nI_1, h.u.ob, hv, h1, h2, show a ≤ oVn ms o by omega, narrow_b0]
theorem q_sim (h : iT M ms n S V H E N) (hi : iA (tbA S V H E N) ms n i o) : mj_V (d + 2) 120 [.ref 36, .int i] M = some (some (.int (if oSim ms 21 o then 1 else 0)), M) ∧ mj_V (d + 2) 138 [.ref 36, .int i] M = some (some (.int (if oSim ms 20 o then 1 else 0)), M) := by
  have hs := q_sort (d := d) h hi
  have hv := q_val (d := d) h hi
  have hl := oVn_lt h hi
  rw [oV_n] at hv
  cases o with
  | none =>
    simp only [oS] at hs
    exact ⟨by simp (disch := (first | omega | decide)) [c120, s120_0, s120_1, s120_2, s120_5, s120_7, s120_10, s120_11, s120_12, s120_15, s120_17, s120_20, s120_21, s120_24, s120_25, mq_k0s, mq_k1s, mq_k2s, mq_k4s, mq_k5s, mq_k5n, mq_k5as, mq_k6s, mj_pu, mj_lo, mj_br, mj_hr, mj_hw, mq_gf, mq_len, mq_al, mq_pf, mq_ok, mj_re, mq_lkm, mq_lkn, mj_ldi, mj_ldl, mj_lda, mj_ii, mj_ll, mj_li, mj_i1, ms_1, ms_2, f1_n, f1_i, f1_r, f1_u, f1_l, f2_n, f2_i, f2_r, f2_u, f2_l, mj_tg, mj_c1, mj_c2, mj_ar, mj_aw, mq_cb, mq_oi, mj_rm, Value.category, -getElem?_pos, List.getElem?_cons_zero, decide_eq_true, decide_eq_false, nl_lt, nl_le, ln_lt, ln_le, nl_eq, ln_eq, nl_add, ln_add, nl_sub, ln_mul, nI_sub, nI_mul, nI_add, nI_lt_iff, nI_le_iff, nI_inj, nI_num, mq_ix, nI_1, h.u.ob, hs, oSim, narrow_b0], by simp (disch := (first | omega | decide)) [c138, s138_0, s138_1, s138_2, s138_5, s138_7, s138_10, s138_11, s138_12, s138_15, s138_17, s138_20, s138_21, s138_24, s138_25, mq_k0s, mq_k1s, mq_k2s, mq_k4s, mq_k5s, mq_k5n, mq_k5as, mq_k6s, mj_pu, mj_lo, mj_br, mj_hr, mj_hw, mq_gf, mq_len, mq_al, mq_pf, mq_ok, mj_re, mq_lkm, mq_lkn, mj_ldi, mj_ldl, mj_lda, mj_ii, mj_ll, mj_li, mj_i1, ms_1, ms_2, f1_n, f1_i, f1_r, f1_u, f1_l, f2_n, f2_i, f2_r, f2_u, f2_l, mj_tg, mj_c1, mj_c2, mj_ar, mj_aw, mq_cb, mq_oi, mj_rm, Value.category, -getElem?_pos, List.getElem?_cons_zero, decide_eq_true, decide_eq_false, nl_lt, nl_le, ln_lt, ln_le, nl_eq, ln_eq, nl_add, ln_add, nl_sub, ln_mul, nI_sub, nI_mul, nI_add, nI_lt_iff, nI_le_iff, nI_inj, nI_num, mq_ix, nI_1, h.u.ob, hs, oSim, narrow_b0]⟩
  | some p =>
    have hB := ms_by h.b.2.2.2.2.1 p
    have hS8 : cbS ms p < 8 := by unfold cbS; omega
    simp only [oS, oVn] at hs hv hl
    by_cases h7 : cbS ms p = 7
    · rw [h7] at hs
      constructor
      · by_cases h2 : cbV ms p = 21
        · rw [h2] at hv
          simp (disch := (first | omega | decide)) [c120, s120_0, s120_1, s120_2, s120_5, s120_7, s120_10, s120_11, s120_12, s120_15, s120_17, s120_20, s120_21, s120_24, s120_25, mq_k0s, mq_k1s, mq_k2s, mq_k4s, mq_k5s, mq_k5n, mq_k5as, mq_k6s, mj_pu, mj_lo, mj_br, mj_hr, mj_hw, mq_gf, mq_len, mq_al, mq_pf, mq_ok, mj_re, mq_lkm, mq_lkn, mj_ldi, mj_ldl, mj_lda, mj_ii, mj_ll, mj_li, mj_i1, ms_1, ms_2, f1_n, f1_i, f1_r, f1_u, f1_l, f2_n, f2_i, f2_r, f2_u, f2_l, mj_tg, mj_c1, mj_c2, mj_ar, mj_aw, mq_cb, mq_oi, mj_rm, Value.category, -getElem?_pos, List.getElem?_cons_zero, decide_eq_true, decide_eq_false, nl_lt, nl_le, ln_lt, ln_le, nl_eq, ln_eq, nl_add, ln_add, nl_sub, ln_mul, nI_sub, nI_mul, nI_add, nI_lt_iff, nI_le_iff, nI_inj, nI_num, mq_ix, nI_1, h.u.ob, hs, hv, oSim, h7, h2, narrow_b1]
        · simp (disch := (first | omega | decide)) [c120, s120_0, s120_1, s120_2, s120_5, s120_7, s120_10, s120_11, s120_12, s120_15, s120_17, s120_20, s120_21, s120_24, s120_25, mq_k0s, mq_k1s, mq_k2s, mq_k4s, mq_k5s, mq_k5n, mq_k5as, mq_k6s, mj_pu, mj_lo, mj_br, mj_hr, mj_hw, mq_gf, mq_len, mq_al, mq_pf, mq_ok, mj_re, mq_lkm, mq_lkn, mj_ldi, mj_ldl, mj_lda, mj_ii, mj_ll, mj_li, mj_i1, ms_1, ms_2, f1_n, f1_i, f1_r, f1_u, f1_l, f2_n, f2_i, f2_r, f2_u, f2_l, mj_tg, mj_c1, mj_c2, mj_ar, mj_aw, mq_cb, mq_oi, mj_rm, Value.category, -getElem?_pos, List.getElem?_cons_zero, decide_eq_true, decide_eq_false, nl_lt, nl_le, ln_lt, ln_le, nl_eq, ln_eq, nl_add, ln_add, nl_sub, ln_mul, nI_sub, nI_mul, nI_add, nI_lt_iff, nI_le_iff, nI_inj, nI_num, mq_ix, nI_1, h.u.ob, hs, hv, oSim, h7, h2, narrow_b0]
      · by_cases h2 : cbV ms p = 20
        · rw [h2] at hv
          simp (disch := (first | omega | decide)) [c138, s138_0, s138_1, s138_2, s138_5, s138_7, s138_10, s138_11, s138_12, s138_15, s138_17, s138_20, s138_21, s138_24, s138_25, mq_k0s, mq_k1s, mq_k2s, mq_k4s, mq_k5s, mq_k5n, mq_k5as, mq_k6s, mj_pu, mj_lo, mj_br, mj_hr, mj_hw, mq_gf, mq_len, mq_al, mq_pf, mq_ok, mj_re, mq_lkm, mq_lkn, mj_ldi, mj_ldl, mj_lda, mj_ii, mj_ll, mj_li, mj_i1, ms_1, ms_2, f1_n, f1_i, f1_r, f1_u, f1_l, f2_n, f2_i, f2_r, f2_u, f2_l, mj_tg, mj_c1, mj_c2, mj_ar, mj_aw, mq_cb, mq_oi, mj_rm, Value.category, -getElem?_pos, List.getElem?_cons_zero, decide_eq_true, decide_eq_false, nl_lt, nl_le, ln_lt, ln_le, nl_eq, ln_eq, nl_add, ln_add, nl_sub, ln_mul, nI_sub, nI_mul, nI_add, nI_lt_iff, nI_le_iff, nI_inj, nI_num, mq_ix, nI_1, h.u.ob, hs, hv, oSim, h7, h2, narrow_b1]
        · simp (disch := (first | omega | decide)) [c138, s138_0, s138_1, s138_2, s138_5, s138_7, s138_10, s138_11, s138_12, s138_15, s138_17, s138_20, s138_21, s138_24, s138_25, mq_k0s, mq_k1s, mq_k2s, mq_k4s, mq_k5s, mq_k5n, mq_k5as, mq_k6s, mj_pu, mj_lo, mj_br, mj_hr, mj_hw, mq_gf, mq_len, mq_al, mq_pf, mq_ok, mj_re, mq_lkm, mq_lkn, mj_ldi, mj_ldl, mj_lda, mj_ii, mj_ll, mj_li, mj_i1, ms_1, ms_2, f1_n, f1_i, f1_r, f1_u, f1_l, f2_n, f2_i, f2_r, f2_u, f2_l, mj_tg, mj_c1, mj_c2, mj_ar, mj_aw, mq_cb, mq_oi, mj_rm, Value.category, -getElem?_pos, List.getElem?_cons_zero, decide_eq_true, decide_eq_false, nl_lt, nl_le, ln_lt, ln_le, nl_eq, ln_eq, nl_add, ln_add, nl_sub, ln_mul, nI_sub, nI_mul, nI_add, nI_lt_iff, nI_le_iff, nI_inj, nI_num, mq_ix, nI_1, h.u.ob, hs, hv, oSim, h7, h2, narrow_b0]
    · constructor
      · simp (disch := (first | omega | decide)) [c120, s120_0, s120_1, s120_2, s120_5, s120_7, s120_10, s120_11, s120_12, s120_15, s120_17, s120_20, s120_21, s120_24, s120_25, mq_k0s, mq_k1s, mq_k2s, mq_k4s, mq_k5s, mq_k5n, mq_k5as, mq_k6s, mj_pu, mj_lo, mj_br, mj_hr, mj_hw, mq_gf, mq_len, mq_al, mq_pf, mq_ok, mj_re, mq_lkm, mq_lkn, mj_ldi, mj_ldl, mj_lda, mj_ii, mj_ll, mj_li, mj_i1, ms_1, ms_2, f1_n, f1_i, f1_r, f1_u, f1_l, f2_n, f2_i, f2_r, f2_u, f2_l, mj_tg, mj_c1, mj_c2, mj_ar, mj_aw, mq_cb, mq_oi, mj_rm, Value.category, -getElem?_pos, List.getElem?_cons_zero, decide_eq_true, decide_eq_false, nl_lt, nl_le, ln_lt, ln_le, nl_eq, ln_eq, nl_add, ln_add, nl_sub, ln_mul, nI_sub, nI_mul, nI_add, nI_lt_iff, nI_le_iff, nI_inj, nI_num, mq_ix, nI_1, h.u.ob, hs, oSim, h7, narrow_b0]
      · simp (disch := (first | omega | decide)) [c138, s138_0, s138_1, s138_2, s138_5, s138_7, s138_10, s138_11, s138_12, s138_15, s138_17, s138_20, s138_21, s138_24, s138_25, mq_k0s, mq_k1s, mq_k2s, mq_k4s, mq_k5s, mq_k5n, mq_k5as, mq_k6s, mj_pu, mj_lo, mj_br, mj_hr, mj_hw, mq_gf, mq_len, mq_al, mq_pf, mq_ok, mj_re, mq_lkm, mq_lkn, mj_ldi, mj_ldl, mj_lda, mj_ii, mj_ll, mj_li, mj_i1, ms_1, ms_2, f1_n, f1_i, f1_r, f1_u, f1_l, f2_n, f2_i, f2_r, f2_u, f2_l, mj_tg, mj_c1, mj_c2, mj_ar, mj_aw, mq_cb, mq_oi, mj_rm, Value.category, -getElem?_pos, List.getElem?_cons_zero, decide_eq_true, decide_eq_false, nl_lt, nl_le, ln_lt, ln_le, nl_eq, ln_eq, nl_add, ln_add, nl_sub, ln_mul, nI_sub, nI_mul, nI_add, nI_lt_iff, nI_le_iff, nI_inj, nI_num, mq_ix, nI_1, h.u.ob, hs, oSim, h7, narrow_b0]
/-- the number of a string of bytes -/
theorem q_low {p : Nat} (h : iT M ms n S V H E N) (hi : iA (tbA S V H E N) ms n i (some p)) (hs : cbS ms p = 2 ∨ cbS ms p = 3) : mj_V (d + 2) 110 [.ref 36, .int i] M = some (some (.long (bt_lo (oBy ms (some p)))), M) := by
  obtain ⟨hc, hlen⟩ := q_cont (d := d) h hi hs
  have hv := q_val (d := d) h hi
  have hcap := h.b.len
  obtain ⟨w, w1, w2⟩ := v_low (d := d) h.b (p := cbC ms p) (n := cbV ms p) (by omega)
  rw [w2 hlen] at w1
  have h28 := h.b.2.2.2.2.2.1
  simp only [oV] at hv
  simp (disch := (first | omega | decide)) [c110, s110_0, s110_1, s110_4, s110_5, s110_6, s110_9, s110_10, s110_11, s110_14, s110_17, mq_k0s, mq_k1s, mq_k2s, mq_k4s, mq_k5s, mq_k5n, mq_k5as, mq_k6s, mj_pu, mj_lo, mj_br, mj_hr, mj_hw, mq_gf, mq_len, mq_al, mq_pf, mq_ok, mj_re, mq_lkm, mq_lkn, mj_ldi, mj_ldl, mj_lda, mj_ii, mj_ll, mj_li, mj_i1, ms_1, ms_2, f1_n, f1_i, f1_r, f1_u, f1_l, f2_n, f2_i, f2_r, f2_u, f2_l, mj_tg, mj_c1, mj_c2, mj_ar, mj_aw, mq_cb, mq_oi, mj_rm, Value.category, -getElem?_pos, List.getElem?_cons_zero, decide_eq_true, decide_eq_false, nl_lt, nl_le, ln_lt, ln_le, nl_eq, ln_eq, nl_add, ln_add, nl_sub, ln_mul, nI_sub, nI_mul, nI_add, nI_lt_iff, nI_le_iff, nI_inj, nI_num, mq_ix, nI_1, h.u.ob, hc, hv, h28, w1, oBy]
theorem q_four (h : iT M ms n S V H E N) (hi : iA (tbA S V H E N) ms n i o) : mj_V (d + 3) 109 [.ref 36, .int i] M = some (some (.int (o4 ms o)), M) := by
  have hs := q_sort (d := d + 1) h hi
  have hv := q_val (d := d + 1) h hi
  have hl := oVn_lt h hi
  rw [oV_n] at hv
  cases o with
  | none =>
    simp only [oS] at hs
    simp (disch := (first | omega | decide)) [c109, s109_0, s109_1, s109_2, s109_5, s109_6, s109_9, s109_10, s109_11, s109_14, s109_15, s109_18, s109_19, s109_20, s109_23, s109_24, s109_27, s109_28, mq_k0s, mq_k1s, mq_k2s, mq_k4s, mq_k5s, mq_k5n, mq_k5as, mq_k6s, mj_pu, mj_lo, mj_br, mj_hr, mj_hw, mq_gf, mq_len, mq_al, mq_pf, mq_ok, mj_re, mq_lkm, mq_lkn, mj_ldi, mj_ldl, mj_lda, mj_ii, mj_ll, mj_li, mj_i1, ms_1, ms_2, f1_n, f1_i, f1_r, f1_u, f1_l, f2_n, f2_i, f2_r, f2_u, f2_l, mj_tg, mj_c1, mj_c2, mj_ar, mj_aw, mq_cb, mq_oi, mj_rm, Value.category, -getElem?_pos, List.getElem?_cons_zero, decide_eq_true, decide_eq_false, nl_lt, nl_le, ln_lt, ln_le, nl_eq, ln_eq, nl_add, ln_add, nl_sub, ln_mul, nI_sub, nI_mul, nI_add, nI_lt_iff, nI_le_iff, nI_inj, nI_num, mq_ix, nI_1, h.u.ob, hs, o4, narrow]
  | some p =>
    have hB := ms_by h.b.2.2.2.2.1 p
    have hS8 : cbS ms p < 8 := by unfold cbS; omega
    simp only [oS, oVn] at hs hv hl
    by_cases h2 : cbS ms p = 2
    · by_cases h4 : cbV ms p = 4
      · have hlo := q_low (d := d) h hi (Or.inl h2)
        rw [h2] at hs
        rw [h4] at hv
        simp only [oBy, h4] at hlo
        simp (disch := (first | omega | decide)) [c109, s109_0, s109_1, s109_2, s109_5, s109_6, s109_9, s109_10, s109_11, s109_14, s109_15, s109_18, s109_19, s109_20, s109_23, s109_24, s109_27, s109_28, mq_k0s, mq_k1s, mq_k2s, mq_k4s, mq_k5s, mq_k5n, mq_k5as, mq_k6s, mj_pu, mj_lo, mj_br, mj_hr, mj_hw, mq_gf, mq_len, mq_al, mq_pf, mq_ok, mj_re, mq_lkm, mq_lkn, mj_ldi, mj_ldl, mj_lda, mj_ii, mj_ll, mj_li, mj_i1, ms_1, ms_2, f1_n, f1_i, f1_r, f1_u, f1_l, f2_n, f2_i, f2_r, f2_u, f2_l, mj_tg, mj_c1, mj_c2, mj_ar, mj_aw, mq_cb, mq_oi, mj_rm, Value.category, -getElem?_pos, List.getElem?_cons_zero, decide_eq_true, decide_eq_false, nl_lt, nl_le, ln_lt, ln_le, nl_eq, ln_eq, nl_add, ln_add, nl_sub, ln_mul, nI_sub, nI_mul, nI_add, nI_lt_iff, nI_le_iff, nI_inj, nI_num, mq_ix, nI_1, h.u.ob, hs, hv, hlo, o4, h2, h4, narrow]
      · rw [h2] at hs
        simp (disch := (first | omega | decide)) [c109, s109_0, s109_1, s109_2, s109_5, s109_6, s109_9, s109_10, s109_11, s109_14, s109_15, s109_18, s109_19, s109_20, s109_23, s109_24, s109_27, s109_28, mq_k0s, mq_k1s, mq_k2s, mq_k4s, mq_k5s, mq_k5n, mq_k5as, mq_k6s, mj_pu, mj_lo, mj_br, mj_hr, mj_hw, mq_gf, mq_len, mq_al, mq_pf, mq_ok, mj_re, mq_lkm, mq_lkn, mj_ldi, mj_ldl, mj_lda, mj_ii, mj_ll, mj_li, mj_i1, ms_1, ms_2, f1_n, f1_i, f1_r, f1_u, f1_l, f2_n, f2_i, f2_r, f2_u, f2_l, mj_tg, mj_c1, mj_c2, mj_ar, mj_aw, mq_cb, mq_oi, mj_rm, Value.category, -getElem?_pos, List.getElem?_cons_zero, decide_eq_true, decide_eq_false, nl_lt, nl_le, ln_lt, ln_le, nl_eq, ln_eq, nl_add, ln_add, nl_sub, ln_mul, nI_sub, nI_mul, nI_add, nI_lt_iff, nI_le_iff, nI_inj, nI_num, mq_ix, nI_1, h.u.ob, hs, hv, o4, h2, h4, narrow]
    · simp (disch := (first | omega | decide)) [c109, s109_0, s109_1, s109_2, s109_5, s109_6, s109_9, s109_10, s109_11, s109_14, s109_15, s109_18, s109_19, s109_20, s109_23, s109_24, s109_27, s109_28, mq_k0s, mq_k1s, mq_k2s, mq_k4s, mq_k5s, mq_k5n, mq_k5as, mq_k6s, mj_pu, mj_lo, mj_br, mj_hr, mj_hw, mq_gf, mq_len, mq_al, mq_pf, mq_ok, mj_re, mq_lkm, mq_lkn, mj_ldi, mj_ldl, mj_lda, mj_ii, mj_ll, mj_li, mj_i1, ms_1, ms_2, f1_n, f1_i, f1_r, f1_u, f1_l, f2_n, f2_i, f2_r, f2_u, f2_l, mj_tg, mj_c1, mj_c2, mj_ar, mj_aw, mq_cb, mq_oi, mj_rm, Value.category, -getElem?_pos, List.getElem?_cons_zero, decide_eq_true, decide_eq_false, nl_lt, nl_le, ln_lt, ln_le, nl_eq, ln_eq, nl_add, ln_add, nl_sub, ln_mul, nI_sub, nI_mul, nI_add, nI_lt_iff, nI_le_iff, nI_inj, nI_num, mq_ix, nI_1, h.u.ob, hs, o4, h2, narrow]
theorem q_pk (h : iT M ms n S V H E N) (hi : iA (tbA S V H E N) ms n i o) (hty : sg M 7 ty_) (hpk : sg M 13 pk_) : mj_V (d + 7) 115 [.ref 36, .int i] M = some (some (.int (if oT ms pk_ (cbNm ms ty_ o) then 1 else 0)), M) := by
  obtain ⟨x, r1, r2⟩ := q_named (d := d) h hi hty
  have r3 := q_says (d := d + 1) h r2 hpk
  have e : ∀ b : Bool, narrow .boolean (.int (if b = true then 1 else 0)) = .int (if b = true then 1 else 0) := by
    intro b; cases b
    · exact narrow_b0
    · exact narrow_b1
  unfold cbNm
  simp (disch := (first | omega | decide)) [c115, s115_0, s115_1, s115_2, s115_3, s115_5, s115_8, s115_10, s115_13, mq_k0s, mq_k1s, mq_k2s, mq_k4s, mq_k5s, mq_k5n, mq_k5as, mq_k6s, mj_pu, mj_lo, mj_br, mj_hr, mj_hw, mq_gf, mq_len, mq_al, mq_pf, mq_ok, mj_re, mq_lkm, mq_lkn, mj_ldi, mj_ldl, mj_lda, mj_ii, mj_ll, mj_li, mj_i1, ms_1, ms_2, f1_n, f1_i, f1_r, f1_u, f1_l, f2_n, f2_i, f2_r, f2_u, f2_l, mj_tg, mj_c1, mj_c2, mj_ar, mj_aw, mq_cb, mq_oi, mj_rm, Value.category, -getElem?_pos, List.getElem?_cons_zero, decide_eq_true, decide_eq_false, nl_lt, nl_le, ln_lt, ln_le, nl_eq, ln_eq, nl_add, ln_add, nl_sub, ln_mul, nI_sub, nI_mul, nI_add, nI_lt_iff, nI_le_iff, nI_inj, nI_num, mq_ix, nI_1, h.u.ob, r1, r3, e]
/-- loops over the entries of a list -/
theorem Ch_le {r : Nat} {tb : Nat → Ent} : ∀ (m p k q j : Nat), Ch (Nx tb ms r) m p k q j → k ≤ j := by
  intro m p k q j h
  exact Nat.le_trans (Nat.le_add_right _ _) (Ch_lt (fun p i q j z => Nd_lt _ _ _ _ _ z.2) _ _ _ _ _ h).1
theorem l_lf {a s : Nat} {t : List Int32} (hs9 : s < 9) (h : iT M ms n S V H E N) (hg : sg M a t) (hty : sg M 7 ty_) {r m0 : Nat} (hr : r ≤ 4) (hm0 : m0 < 2 ^ 31) (hv : mj_V (d + 7) 88 [.ref 36, .int i] M = some (some (.int (nI m0)), M)) : ∀ (m u p k q j : Nat), u + m = m0 → Ch (Nx (tbA S V H E N) ms r) m p k q j → j ≤ n → mj_Rn (d + 7) mj_m105 19 [(5, .int (nI u)), (4, .int (nI k)), (0, .ref 36), (1, .int i), (2, .ref a), (3, .int (nI s))] [] M = some (some (.int (if cbAll ms (lfF ms t s) m p then 1 else 0)), M) := by
  intro m
  induction m with
  | zero =>
    intro u p k q j hu _ _
    simp (disch := (first | omega | decide)) [s105_0, s105_1, s105_2, s105_3, s105_6, s105_9, s105_10, s105_11, s105_12, s105_13, s105_14, s105_16, s105_17, s105_19, s105_21, s105_22, s105_23, s105_26, s105_29, s105_30, s105_32, s105_35, s105_36, s105_39, s105_40, s105_41, s105_43, s105_44, s105_47, s105_48, s105_51, s105_54, s105_55, s105_56, s105_58, s105_60, s105_63, s105_64, s105_67, s105_70, s105_71, s105_72, s105_73, s105_75, s105_78, s105_80, s105_83, s105_86, s105_87, mq_k0s, mq_k1s, mq_k2s, mq_k4s, mq_k5s, mq_k5n, mq_k5as, mq_k6s, mj_pu, mj_lo, mj_br, mj_hr, mj_hw, mq_gf, mq_len, mq_al, mq_pf, mq_ok, mj_re, mq_lkm, mq_lkn, mj_ldi, mj_ldl, mj_lda, mj_ii, mj_ll, mj_li, mj_i1, ms_1, ms_2, f1_n, f1_i, f1_r, f1_u, f1_l, f2_n, f2_i, f2_r, f2_u, f2_l, mj_tg, mj_c1, mj_c2, mj_ar, mj_aw, mq_cb, mq_oi, mj_rm, Value.category, -getElem?_pos, List.getElem?_cons_zero, decide_eq_true, decide_eq_false, nl_lt, nl_le, ln_lt, ln_le, nl_eq, ln_eq, nl_add, ln_add, nl_sub, ln_mul, nI_sub, nI_mul, nI_add, nI_lt_iff, nI_le_iff, nI_inj, nI_num, mq_ix, nI_1, h.u.ob, hv, cbAll, narrow_b1]
  | succ m ih =>
    intro u p k q j hu hc hj
    obtain ⟨q1, j1, hx, hc2⟩ := hc
    have hle := Ch_le _ _ _ _ _ hc2
    have i1 : iA (tbA S V H E N) ms n (nI k) (some p) := ⟨r, k, q1, j1, hr, rfl, hx, by omega⟩
    have hs := q_sort (d := d + 6) h i1
    obtain ⟨x, v1, x1⟩ := q_named (d := d + 1) h i1 hg
    obtain ⟨y, v2, y1⟩ := q_named (d := d + 1) h i1 hty
    have f1 := q_fits (d := d + 5) hs9 h x1
    have f2 := q_fits (d := d + 5) (s := 3) (by decide) h y1
    have hnx := q_next (d := d + 6) h hx (by omega)
    have r1 := ih (u + 1) _ _ _ _ (by omega) hc2 hj
    have hB := ms_by h.b.2.2.2.2.1 p
    have hS8 : cbS ms p < 8 := by unfold cbS; omega
    simp only [oS] at hs
    rw [cbAll, cbE_eq hx.1 hr]
    rw [show cbMb ms (cbTx ms t) (some p) = cbNm ms t (some p) from rfl] at f1
    rw [show cbMb ms (cbTx ms ty_) (some p) = cbNm ms ty_ (some p) from rfl, show nI 3 = 3 from rfl] at f2
    rw [show lfF ms t s p = (decide (cbS ms p = 5) && (oFit ms s (cbNm ms t (some p)) && oFit ms 3 (cbNm ms ty_ (some p)))) from rfl]
    rw [s105_19]
    by_cases h5 : cbS ms p = 5
    · rw [h5] at hs
      cases h6 : oFit ms s (cbNm ms t (some p)) with
      | false =>
        rw [h6] at f1
        simp at f1
        simp (disch := (first | omega | decide)) [s105_0, s105_1, s105_2, s105_3, s105_6, s105_9, s105_10, s105_11, s105_12, s105_13, s105_14, s105_16, s105_17, s105_21, s105_22, s105_23, s105_26, s105_29, s105_30, s105_32, s105_35, s105_36, s105_39, s105_40, s105_41, s105_43, s105_44, s105_47, s105_48, s105_51, s105_54, s105_55, s105_56, s105_58, s105_60, s105_63, s105_64, s105_67, s105_70, s105_71, s105_72, s105_73, s105_75, s105_78, s105_80, s105_83, s105_86, s105_87, mq_k0s, mq_k1s, mq_k2s, mq_k4s, mq_k5s, mq_k5n, mq_k5as, mq_k6s, mj_pu, mj_lo, mj_br, mj_hr, mj_hw, mq_gf, mq_len, mq_al, mq_pf, mq_ok, mj_re, mq_lkm, mq_lkn, mj_ldi, mj_ldl, mj_lda, mj_ii, mj_ll, mj_li, mj_i1, ms_1, ms_2, f1_n, f1_i, f1_r, f1_u, f1_l, f2_n, f2_i, f2_r, f2_u, f2_l, mj_tg, mj_c1, mj_c2, mj_ar, mj_aw, mq_cb, mq_oi, mj_rm, Value.category, -getElem?_pos, List.getElem?_cons_zero, decide_eq_true, decide_eq_false, nl_lt, nl_le, ln_lt, ln_le, nl_eq, ln_eq, nl_add, ln_add, nl_sub, ln_mul, nI_sub, nI_mul, nI_add, nI_lt_iff, nI_le_iff, nI_inj, nI_num, mq_ix, nI_1, h.u.ob, hv, hs, v1, f1, h5, h6, narrow_b0]
      | true =>
        rw [h6] at f1
        simp at f1
        cases h7 : oFit ms 3 (cbNm ms ty_ (some p)) with
        | false =>
          rw [h7] at f2
          simp at f2
          simp (disch := (first | omega | decide)) [s105_0, s105_1, s105_2, s105_3, s105_6, s105_9, s105_10, s105_11, s105_12, s105_13, s105_14, s105_16, s105_17, s105_21, s105_22, s105_23, s105_26, s105_29, s105_30, s105_32, s105_35, s105_36, s105_39, s105_40, s105_41, s105_43, s105_44, s105_47, s105_48, s105_51, s105_54, s105_55, s105_56, s105_58, s105_60, s105_63, s105_64, s105_67, s105_70, s105_71, s105_72, s105_73, s105_75, s105_78, s105_80, s105_83, s105_86, s105_87, mq_k0s, mq_k1s, mq_k2s, mq_k4s, mq_k5s, mq_k5n, mq_k5as, mq_k6s, mj_pu, mj_lo, mj_br, mj_hr, mj_hw, mq_gf, mq_len, mq_al, mq_pf, mq_ok, mj_re, mq_lkm, mq_lkn, mj_ldi, mj_ldl, mj_lda, mj_ii, mj_ll, mj_li, mj_i1, ms_1, ms_2, f1_n, f1_i, f1_r, f1_u, f1_l, f2_n, f2_i, f2_r, f2_u, f2_l, mj_tg, mj_c1, mj_c2, mj_ar, mj_aw, mq_cb, mq_oi, mj_rm, Value.category, -getElem?_pos, List.getElem?_cons_zero, decide_eq_true, decide_eq_false, nl_lt, nl_le, ln_lt, ln_le, nl_eq, ln_eq, nl_add, ln_add, nl_sub, ln_mul, nI_sub, nI_mul, nI_add, nI_lt_iff, nI_le_iff, nI_inj, nI_num, mq_ix, nI_1, h.u.ob, hv, hs, v1, f1, v2, f2, h5, h6, h7, narrow_b0]
        | true =>
          rw [h7] at f2
          simp at f2
          simp only [h5, h6, h7, decide_true, Bool.true_and]
          simp (disch := (first | omega | decide)) [s105_0, s105_1, s105_2, s105_3, s105_6, s105_9, s105_10, s105_11, s105_12, s105_13, s105_14, s105_16, s105_17, s105_21, s105_22, s105_23, s105_26, s105_29, s105_30, s105_32, s105_35, s105_36, s105_39, s105_40, s105_41, s105_43, s105_44, s105_47, s105_48, s105_51, s105_54, s105_55, s105_56, s105_58, s105_60, s105_63, s105_64, s105_67, s105_70, s105_71, s105_72, s105_73, s105_75, s105_78, s105_80, s105_83, s105_86, s105_87, mq_k0s, mq_k1s, mq_k2s, mq_k4s, mq_k5s, mq_k5n, mq_k5as, mq_k6s, mj_pu, mj_lo, mj_br, mj_hr, mj_hw, mq_gf, mq_len, mq_al, mq_pf, mq_ok, mj_re, mq_lkm, mq_lkn, mj_ldi, mj_ldl, mj_lda, mj_ii, mj_ll, mj_li, mj_i1, ms_1, ms_2, f1_n, f1_i, f1_r, f1_u, f1_l, f2_n, f2_i, f2_r, f2_u, f2_l, mj_tg, mj_c1, mj_c2, mj_ar, mj_aw, mq_cb, mq_oi, mj_rm, Value.category, -getElem?_pos, List.getElem?_cons_zero, decide_eq_true, decide_eq_false, nl_lt, nl_le, ln_lt, ln_le, nl_eq, ln_eq, nl_add, ln_add, nl_sub, ln_mul, nI_sub, nI_mul, nI_add, nI_lt_iff, nI_le_iff, nI_inj, nI_num, mq_ix, nI_1, h.u.ob, hv, hs, v1, f1, v2, f2, hnx]
          refine mq_wk ?_ r1
          simp [mq_sub, mj_lk]
    · simp (disch := (first | omega | decide)) [s105_0, s105_1, s105_2, s105_3, s105_6, s105_9, s105_10, s105_11, s105_12, s105_13, s105_14, s105_16, s105_17, s105_21, s105_22, s105_23, s105_26, s105_29, s105_30, s105_32, s105_35, s105_36, s105_39, s105_40, s105_41, s105_43, s105_44, s105_47, s105_48, s105_51, s105_54, s105_55, s105_56, s105_58, s105_60, s105_63, s105_64, s105_67, s105_70, s105_71, s105_72, s105_73, s105_75, s105_78, s105_80, s105_83, s105_86, s105_87, mq_k0s, mq_k1s, mq_k2s, mq_k4s, mq_k5s, mq_k5n, mq_k5as, mq_k6s, mj_pu, mj_lo, mj_br, mj_hr, mj_hw, mq_gf, mq_len, mq_al, mq_pf, mq_ok, mj_re, mq_lkm, mq_lkn, mj_ldi, mj_ldl, mj_lda, mj_ii, mj_ll, mj_li, mj_i1, ms_1, ms_2, f1_n, f1_i, f1_r, f1_u, f1_l, f2_n, f2_i, f2_r, f2_u, f2_l, mj_tg, mj_c1, mj_c2, mj_ar, mj_aw, mq_cb, mq_oi, mj_rm, Value.category, -getElem?_pos, List.getElem?_cons_zero, decide_eq_true, decide_eq_false, nl_lt, nl_le, ln_lt, ln_le, nl_eq, ln_eq, nl_add, ln_add, nl_sub, ln_mul, nI_sub, nI_mul, nI_add, nI_lt_iff, nI_le_iff, nI_inj, nI_num, mq_ix, nI_1, h.u.ob, hv, hs, h5, narrow_b0]
theorem q_lf {a s : Nat} {t : List Int32} (hs9 : s < 9) (h : iT M ms n S V H E N) (hi : iA (tbA S V H E N) ms n i o) (hg : sg M a t) (hty : sg M 7 ty_) : mj_V (d + 8) 105 [.ref 36, .int i, .ref a, .int (nI s)] M = some (some (.int (if cbLf ms t s o then 1 else 0)), M) := by
  have hv := q_val (d := d + 6) h hi
  have hf := q_fits (d := d + 5) (s := 4) (by decide) h hi
  rw [show nI 4 = 4 from rfl] at hf
  have hl := oVn_lt h hi
  rw [oV_n] at hv
  cases o with
  | none =>
    cases hi
    simp only [oFit, oVn] at hf hv
    simp at hf
    simp (disch := (first | omega | decide)) [c105, s105_0, s105_1, s105_2, s105_3, s105_6, s105_9, s105_10, s105_11, s105_12, s105_13, s105_14, s105_16, s105_17, s105_19, s105_21, s105_22, s105_23, s105_26, s105_29, s105_30, s105_32, s105_35, s105_36, s105_39, s105_40, s105_41, s105_43, s105_44, s105_47, s105_48, s105_51, s105_54, s105_55, s105_56, s105_58, s105_60, s105_63, s105_64, s105_67, s105_70, s105_71, s105_72, s105_73, s105_75, s105_78, s105_80, s105_83, s105_86, s105_87, mq_k0s, mq_k1s, mq_k2s, mq_k4s, mq_k5s, mq_k5n, mq_k5as, mq_k6s, mj_pu, mj_lo, mj_br, mj_hr, mj_hw, mq_gf, mq_len, mq_al, mq_pf, mq_ok, mj_re, mq_lkm, mq_lkn, mj_ldi, mj_ldl, mj_lda, mj_ii, mj_ll, mj_li, mj_i1, ms_1, ms_2, f1_n, f1_i, f1_r, f1_u, f1_l, f2_n, f2_i, f2_r, f2_u, f2_l, mj_tg, mj_c1, mj_c2, mj_ar, mj_aw, mq_cb, mq_oi, mj_rm, Value.category, -getElem?_pos, List.getElem?_cons_zero, decide_eq_true, decide_eq_false, nl_lt, nl_le, ln_lt, ln_le, nl_eq, ln_eq, nl_add, ln_add, nl_sub, ln_mul, nI_sub, nI_mul, nI_add, nI_lt_iff, nI_le_iff, nI_inj, nI_num, mq_ix, nI_1, h.u.ob, hf, hv, cbLf, narrow_b1]
  | some p =>
    by_cases h4 : cbS ms p = 4
    · obtain ⟨r, k, q, j, hr, rfl, hx, hj⟩ := hi
      obtain ⟨r', rfl, hc⟩ := Nx_arr hx h4
      have r1 := l_lf (d := d) (i := nI k) hs9 h hg hty (r := r') (m0 := cbV ms p) (by omega) hl hv (cbV ms p) 0 _ _ _ _ (by omega) hc hj
      simp only [oFit, h4] at hf
      simp at hf
      simp only [cbLf, h4, decide_true, Bool.true_and]
      rw [nI_0] at r1
      simp (disch := (first | omega | decide)) [c105, s105_0, s105_1, s105_2, s105_3, s105_6, s105_9, s105_10, s105_11, s105_12, s105_13, s105_14, s105_16, s105_17, s105_21, s105_22, s105_23, s105_26, s105_29, s105_30, s105_32, s105_35, s105_36, s105_39, s105_40, s105_41, s105_43, s105_44, s105_47, s105_48, s105_51, s105_54, s105_55, s105_56, s105_58, s105_60, s105_63, s105_64, s105_67, s105_70, s105_71, s105_72, s105_73, s105_75, s105_78, s105_80, s105_83, s105_86, s105_87, mq_k0s, mq_k1s, mq_k2s, mq_k4s, mq_k5s, mq_k5n, mq_k5as, mq_k6s, mj_pu, mj_lo, mj_br, mj_hr, mj_hw, mq_gf, mq_len, mq_al, mq_pf, mq_ok, mj_re, mq_lkm, mq_lkn, mj_ldi, mj_ldl, mj_lda, mj_ii, mj_ll, mj_li, mj_i1, ms_1, ms_2, f1_n, f1_i, f1_r, f1_u, f1_l, f2_n, f2_i, f2_r, f2_u, f2_l, mj_tg, mj_c1, mj_c2, mj_ar, mj_aw, mq_cb, mq_oi, mj_rm, Value.category, -getElem?_pos, List.getElem?_cons_zero, decide_eq_true, decide_eq_false, nl_lt, nl_le, ln_lt, ln_le, nl_eq, ln_eq, nl_add, ln_add, nl_sub, ln_mul, nI_sub, nI_mul, nI_add, nI_lt_iff, nI_le_iff, nI_inj, nI_num, mq_ix, nI_1, h.u.ob, hf]
      refine mq_wk ?_ r1
      simp [mq_sub, mj_lk]
    · simp only [oFit, h4] at hf
      simp at hf
      simp (disch := (first | omega | decide)) [c105, s105_0, s105_1, s105_2, s105_3, s105_6, s105_9, s105_10, s105_11, s105_12, s105_13, s105_14, s105_16, s105_17, s105_21, s105_22, s105_23, s105_26, s105_29, s105_30, s105_32, s105_35, s105_36, s105_39, s105_40, s105_41, s105_43, s105_44, s105_47, s105_48, s105_51, s105_54, s105_55, s105_56, s105_58, s105_60, s105_63, s105_64, s105_67, s105_70, s105_71, s105_72, s105_73, s105_75, s105_78, s105_80, s105_83, s105_86, s105_87, mq_k0s, mq_k1s, mq_k2s, mq_k4s, mq_k5s, mq_k5n, mq_k5as, mq_k6s, mj_pu, mj_lo, mj_br, mj_hr, mj_hw, mq_gf, mq_len, mq_al, mq_pf, mq_ok, mj_re, mq_lkm, mq_lkn, mj_ldi, mj_ldl, mj_lda, mj_ii, mj_ll, mj_li, mj_i1, ms_1, ms_2, f1_n, f1_i, f1_r, f1_u, f1_l, f2_n, f2_i, f2_r, f2_u, f2_l, mj_tg, mj_c1, mj_c2, mj_ar, mj_aw, mq_cb, mq_oi, mj_rm, Value.category, -getElem?_pos, List.getElem?_cons_zero, decide_eq_true, decide_eq_false, nl_lt, nl_le, ln_lt, ln_le, nl_eq, ln_eq, nl_add, ln_add, nl_sub, ln_mul, nI_sub, nI_mul, nI_add, nI_lt_iff, nI_le_iff, nI_inj, nI_num, mq_ix, nI_1, h.u.ob, hf, cbLf, h4, narrow_b0]
theorem l_lw {a : Nat} {t : List Int32} (h : iT M ms n S V H E N) (hg : sg M a t) (hty : sg M 7 ty_) {r m0 : Nat} (hr : r ≤ 4) (hm0 : m0 < 2 ^ 31) (hv : mj_V (d + 6) 88 [.ref 36, .int i] M = some (some (.int (nI m0)), M)) : ∀ (m u p k q j : Nat), u + m = m0 → Ch (Nx (tbA S V H E N) ms r) m p k q j → j ≤ n → mj_Rn (d + 6) mj_m107 7 [(4, .int (nI u)), (3, .int (nI k)), (0, .ref 36), (1, .int i), (2, .ref a)] [] M = some (some (.int (if cbAll ms (lwF ms t) m p then 1 else 0)), M) := by
  intro m
  induction m with
  | zero =>
    intro u p k q j hu _ _
    simp (disch := (first | omega | decide)) [s107_0, s107_1, s107_2, s107_3, s107_4, s107_5, s107_7, s107_9, s107_10, s107_11, s107_14, s107_17, s107_18, s107_19, s107_20, s107_23, s107_24, s107_27, s107_28, s107_29, s107_31, s107_34, s107_35, s107_38, s107_39, s107_40, s107_41, s107_42, s107_45, s107_46, s107_49, s107_52, s107_53, mq_k0s, mq_k1s, mq_k2s, mq_k4s, mq_k5s, mq_k5n, mq_k5as, mq_k6s, mj_pu, mj_lo, mj_br, mj_hr, mj_hw, mq_gf, mq_len, mq_al, mq_pf, mq_ok, mj_re, mq_lkm, mq_lkn, mj_ldi, mj_ldl, mj_lda, mj_ii, mj_ll, mj_li, mj_i1, ms_1, ms_2, f1_n, f1_i, f1_r, f1_u, f1_l, f2_n, f2_i, f2_r, f2_u, f2_l, mj_tg, mj_c1, mj_c2, mj_ar, mj_aw, mq_cb, mq_oi, mj_rm, Value.category, -getElem?_pos, List.getElem?_cons_zero, decide_eq_true, decide_eq_false, nl_lt, nl_le, ln_lt, ln_le, nl_eq, ln_eq, nl_add, ln_add, nl_sub, ln_mul, nI_sub, nI_mul, nI_add, nI_lt_iff, nI_le_iff, nI_inj, nI_num, mq_ix, nI_1, h.u.ob, hv, cbAll, narrow_b1]
  | succ m ih =>
    intro u p k q j hu hc hj
    obtain ⟨q1, j1, hx, hc2⟩ := hc
    have hle := Ch_le _ _ _ _ _ hc2
    have i1 : iA (tbA S V H E N) ms n (nI k) (some p) := ⟨r, k, q1, j1, hr, rfl, hx, by omega⟩
    obtain ⟨x, v1, x1⟩ := q_named (d := d) h i1 hg
    obtain ⟨y, v2, y1⟩ := q_named (d := d) h i1 hty
    have n1 := iA.neg h x1
    have n2 := iA.neg h y1
    have hnx := q_next (d := d + 5) h hx (by omega)
    have r1 := ih (u + 1) _ _ _ _ (by omega) hc2 hj
    rw [cbAll, cbE_eq hx.1 hr]
    rw [show cbMb ms (cbTx ms t) (some p) = cbNm ms t (some p) from rfl] at n1
    rw [show cbMb ms (cbTx ms ty_) (some p) = cbNm ms ty_ (some p) from rfl] at n2
    rw [show lwF ms t p = (!(cbNm ms t (some p)).isNone && !(cbNm ms ty_ (some p)).isNone) from rfl]
    rw [s107_7]
    cases h6 : cbNm ms t (some p) with
    | none =>
      have z1 := n1.mpr h6
      simp (disch := (first | omega | decide)) [s107_0, s107_1, s107_2, s107_3, s107_4, s107_5, s107_9, s107_10, s107_11, s107_14, s107_17, s107_18, s107_19, s107_20, s107_23, s107_24, s107_27, s107_28, s107_29, s107_31, s107_34, s107_35, s107_38, s107_39, s107_40, s107_41, s107_42, s107_45, s107_46, s107_49, s107_52, s107_53, mq_k0s, mq_k1s, mq_k2s, mq_k4s, mq_k5s, mq_k5n, mq_k5as, mq_k6s, mj_pu, mj_lo, mj_br, mj_hr, mj_hw, mq_gf, mq_len, mq_al, mq_pf, mq_ok, mj_re, mq_lkm, mq_lkn, mj_ldi, mj_ldl, mj_lda, mj_ii, mj_ll, mj_li, mj_i1, ms_1, ms_2, f1_n, f1_i, f1_r, f1_u, f1_l, f2_n, f2_i, f2_r, f2_u, f2_l, mj_tg, mj_c1, mj_c2, mj_ar, mj_aw, mq_cb, mq_oi, mj_rm, Value.category, -getElem?_pos, List.getElem?_cons_zero, decide_eq_true, decide_eq_false, nl_lt, nl_le, ln_lt, ln_le, nl_eq, ln_eq, nl_add, ln_add, nl_sub, ln_mul, nI_sub, nI_mul, nI_add, nI_lt_iff, nI_le_iff, nI_inj, nI_num, mq_ix, nI_1, h.u.ob, hv, v1, z1, narrow_b0]
    | some p1 =>
      have z1 : ¬ x = -1 := fun z => by have := n1.mp z; rw [h6] at this; cases this
      cases h7 : cbNm ms ty_ (some p) with
      | none =>
        have z2 := n2.mpr h7
        simp (disch := (first | omega | decide)) [s107_0, s107_1, s107_2, s107_3, s107_4, s107_5, s107_9, s107_10, s107_11, s107_14, s107_17, s107_18, s107_19, s107_20, s107_23, s107_24, s107_27, s107_28, s107_29, s107_31, s107_34, s107_35, s107_38, s107_39, s107_40, s107_41, s107_42, s107_45, s107_46, s107_49, s107_52, s107_53, mq_k0s, mq_k1s, mq_k2s, mq_k4s, mq_k5s, mq_k5n, mq_k5as, mq_k6s, mj_pu, mj_lo, mj_br, mj_hr, mj_hw, mq_gf, mq_len, mq_al, mq_pf, mq_ok, mj_re, mq_lkm, mq_lkn, mj_ldi, mj_ldl, mj_lda, mj_ii, mj_ll, mj_li, mj_i1, ms_1, ms_2, f1_n, f1_i, f1_r, f1_u, f1_l, f2_n, f2_i, f2_r, f2_u, f2_l, mj_tg, mj_c1, mj_c2, mj_ar, mj_aw, mq_cb, mq_oi, mj_rm, Value.category, -getElem?_pos, List.getElem?_cons_zero, decide_eq_true, decide_eq_false, nl_lt, nl_le, ln_lt, ln_le, nl_eq, ln_eq, nl_add, ln_add, nl_sub, ln_mul, nI_sub, nI_mul, nI_add, nI_lt_iff, nI_le_iff, nI_inj, nI_num, mq_ix, nI_1, h.u.ob, hv, v1, z1, v2, z2, narrow_b0]
      | some p2 =>
        have z2 : ¬ y = -1 := fun z => by have := n2.mp z; rw [h7] at this; cases this
        simp only [Option.isNone_some, Bool.not_false, Bool.true_and]
        simp (disch := (first | omega | decide)) [s107_0, s107_1, s107_2, s107_3, s107_4, s107_5, s107_9, s107_10, s107_11, s107_14, s107_17, s107_18, s107_19, s107_20, s107_23, s107_24, s107_27, s107_28, s107_29, s107_31, s107_34, s107_35, s107_38, s107_39, s107_40, s107_41, s107_42, s107_45, s107_46, s107_49, s107_52, s107_53, mq_k0s, mq_k1s, mq_k2s, mq_k4s, mq_k5s, mq_k5n, mq_k5as, mq_k6s, mj_pu, mj_lo, mj_br, mj_hr, mj_hw, mq_gf, mq_len, mq_al, mq_pf, mq_ok, mj_re, mq_lkm, mq_lkn, mj_ldi, mj_ldl, mj_lda, mj_ii, mj_ll, mj_li, mj_i1, ms_1, ms_2, f1_n, f1_i, f1_r, f1_u, f1_l, f2_n, f2_i, f2_r, f2_u, f2_l, mj_tg, mj_c1, mj_c2, mj_ar, mj_aw, mq_cb, mq_oi, mj_rm, Value.category, -getElem?_pos, List.getElem?_cons_zero, decide_eq_true, decide_eq_false, nl_lt, nl_le, ln_lt, ln_le, nl_eq, ln_eq, nl_add, ln_add, nl_sub, ln_mul, nI_sub, nI_mul, nI_add, nI_lt_iff, nI_le_iff, nI_inj, nI_num, mq_ix, nI_1, h.u.ob, hv, v1, z1, v2, z2, hnx]
        refine mq_wk ?_ r1
        simp [mq_sub, mj_lk]
theorem q_lw {a : Nat} {t : List Int32} (h : iT M ms n S V H E N) (hi : iA (tbA S V H E N) ms n i o) (hg : sg M a t) (hty : sg M 7 ty_) (h4 : oFit ms 4 o = true) : mj_V (d + 7) 107 [.ref 36, .int i, .ref a] M = some (some (.int (if cbLw ms t o then 1 else 0)), M) := by
  have hv := q_val (d := d + 5) h hi
  have hl := oVn_lt h hi
  rw [oV_n] at hv
  cases o with
  | none =>
    cases hi
    simp only [oVn] at hv
    simp (disch := (first | omega | decide)) [c107, s107_0, s107_1, s107_2, s107_3, s107_4, s107_5, s107_7, s107_9, s107_10, s107_11, s107_14, s107_17, s107_18, s107_19, s107_20, s107_23, s107_24, s107_27, s107_28, s107_29, s107_31, s107_34, s107_35, s107_38, s107_39, s107_40, s107_41, s107_42, s107_45, s107_46, s107_49, s107_52, s107_53, mq_k0s, mq_k1s, mq_k2s, mq_k4s, mq_k5s, mq_k5n, mq_k5as, mq_k6s, mj_pu, mj_lo, mj_br, mj_hr, mj_hw, mq_gf, mq_len, mq_al, mq_pf, mq_ok, mj_re, mq_lkm, mq_lkn, mj_ldi, mj_ldl, mj_lda, mj_ii, mj_ll, mj_li, mj_i1, ms_1, ms_2, f1_n, f1_i, f1_r, f1_u, f1_l, f2_n, f2_i, f2_r, f2_u, f2_l, mj_tg, mj_c1, mj_c2, mj_ar, mj_aw, mq_cb, mq_oi, mj_rm, Value.category, -getElem?_pos, List.getElem?_cons_zero, decide_eq_true, decide_eq_false, nl_lt, nl_le, ln_lt, ln_le, nl_eq, ln_eq, nl_add, ln_add, nl_sub, ln_mul, nI_sub, nI_mul, nI_add, nI_lt_iff, nI_le_iff, nI_inj, nI_num, mq_ix, nI_1, h.u.ob, hv, cbLw, narrow_b1]
  | some p =>
    have h4 : cbS ms p = 4 := by simpa [oFit] using h4
    obtain ⟨r, k, q, j, hr, rfl, hx, hj⟩ := hi
    obtain ⟨r', rfl, hc⟩ := Nx_arr hx h4
    have r1 := l_lw (d := d) (i := nI k) h hg hty (r := r') (m0 := cbV ms p) (by omega) hl hv (cbV ms p) 0 _ _ _ _ (by omega) hc hj
    simp only [cbLw]
    rw [nI_0] at r1
    simp (disch := (first | omega | decide)) [c107, s107_0, s107_1, s107_2, s107_3, s107_4, s107_5, s107_9, s107_10, s107_11, s107_14, s107_17, s107_18, s107_19, s107_20, s107_23, s107_24, s107_27, s107_28, s107_29, s107_31, s107_34, s107_35, s107_38, s107_39, s107_40, s107_41, s107_42, s107_45, s107_46, s107_49, s107_52, s107_53, mq_k0s, mq_k1s, mq_k2s, mq_k4s, mq_k5s, mq_k5n, mq_k5as, mq_k6s, mj_pu, mj_lo, mj_br, mj_hr, mj_hw, mq_gf, mq_len, mq_al, mq_pf, mq_ok, mj_re, mq_lkm, mq_lkn, mj_ldi, mj_ldl, mj_lda, mj_ii, mj_ll, mj_li, mj_i1, ms_1, ms_2, f1_n, f1_i, f1_r, f1_u, f1_l, f2_n, f2_i, f2_r, f2_u, f2_l, mj_tg, mj_c1, mj_c2, mj_ar, mj_aw, mq_cb, mq_oi, mj_rm, Value.category, -getElem?_pos, List.getElem?_cons_zero, decide_eq_true, decide_eq_false, nl_lt, nl_le, ln_lt, ln_le, nl_eq, ln_eq, nl_add, ln_add, nl_sub, ln_mul, nI_sub, nI_mul, nI_add, nI_lt_iff, nI_le_iff, nI_inj, nI_num, mq_ix, nI_1]
    refine mq_wk ?_ r1
    simp [mq_sub, mj_lk]
end IQ
end
/- 68.members -/
section
set_option maxRecDepth 512
/-! Members of a map lie one behind the other. -/
theorem cbQ_map {I : Nat → Option Nat} {ms : List Int32} {n : Nat} {k : Option (Nat × Nat)} {p q : Nat} (h : cbQ I ms true (n + 1) k p = some q) : ∃ q1 q2, I p = some q1 ∧ cbKy ms k p q1 = true ∧ I q1 = some q2 ∧ cbQ I ms true n (some (p, q1)) q2 = some q := by
  unfold cbQ at h
  rw [if_pos rfl] at h
  split at h
  · cases h
  · next q1 h1 =>
    split at h
    · next hk =>
      split at h
      · cases h
      · next q2 h2 => exact ⟨q1, q2, h1, hk, h2, h⟩
    · cases h
theorem memQ {ms : List Int32} {r : Nat} (hr : r ≤ 4) {f : Nat → Bool} : ∀ (n : Nat) (k : Option (Nat × Nat)) (p q v : Nat), cbQ (cbI ms r) ms true n k p = some q → p ≤ ms.length → cbMem ms f n p = some v → p < v ∧ (∃ e, cbI ms r v = some e ∧ e ≤ q) ∧ q ≤ ms.length := by
  intro n
  induction n with
  | zero => intro k p q v _ _ h; cases h
  | succ n ih =>
    intro k p q v h hp hm
    obtain ⟨q1, q2, h1, hk, h2, h3⟩ := cbQ_map h
    have l1 := cbI_lt _ _ _ h1
    have l2 := cbI_lt _ _ _ h2
    have e1 := cbE_eq h1 hr
    have e2 := cbE_eq h2 hr
    have l3 := cbQ_lt (cbI_lt r) _ _ _ _ h3 l2.2
    unfold cbMem at hm
    rw [e1, e2] at hm
    split at hm
    · cases hm
      exact ⟨l1.1, ⟨q2, h2, by omega⟩, l3.2⟩
    · obtain ⟨a1, a2, a3⟩ := ih _ _ _ _ h3 l2.2 hm
      exact ⟨by omega, a2, a3⟩
theorem memQ2 {ms : List Int32} {r : Nat} (hr : r ≤ 4) {f g : Nat → Bool} (hfg : ∀ p, f p = true → g p = false) : ∀ (n : Nat) (k : Option (Nat × Nat)) (p q v w : Nat), cbQ (cbI ms r) ms true n k p = some q → p ≤ ms.length → cbMem ms f n p = some v → cbMem ms g n p = some w → cbE ms v ≤ w ∨ cbE ms w ≤ v := by
  intro n
  induction n with
  | zero => intro k p q v w _ _ h; cases h
  | succ n ih =>
    intro k p q v w h hp hm hm2
    obtain ⟨q1, q2, h1, hk, h2, h3⟩ := cbQ_map h
    have l1 := cbI_lt _ _ _ h1
    have l2 := cbI_lt _ _ _ h2
    have e1 := cbE_eq h1 hr
    have e2 := cbE_eq h2 hr
    unfold cbMem at hm hm2
    rw [e1, e2] at hm hm2
    split at hm
    · next hf =>
      rw [hfg _ hf] at hm2
      cases hm
      have := memQ hr n _ _ _ _ h3 l2.2 (by simpa using hm2)
      left; omega
    · split at hm2
      · cases hm2
        have := memQ hr n _ _ _ _ h3 l2.2 hm
        right; omega
      · exact ih _ _ _ _ _ h3 l2.2 hm hm2
theorem cbI_by {ms : List Int32} {r p q : Nat} (h : cbI ms r p = some q) (hs : cbS ms p = 2 ∨ cbS ms p = 3) : q = cbC ms p + cbV ms p := by
  have hk := cbI_ok h
  cases r <;> (unfold cbI at h; rw [if_neg (not_not_intro hk), if_pos hs] at h; cases h; rfl)
theorem cbI_map {ms : List Int32} {r p q : Nat} (h : cbI ms (r + 1) p = some q) (hs : cbS ms p = 5) : cbQ (cbI ms r) ms true (cbV ms p) none (cbC ms p) = some q := by
  unfold cbI at h
  split at h
  · cases h
  · rw [if_neg (by omega), if_pos (by omega)] at h
    simpa [hs] using h
theorem cbI_arr {ms : List Int32} {r p q : Nat} (h : cbI ms (r + 1) p = some q) (hs : cbS ms p = 4) : cbQ (cbI ms r) ms false (cbV ms p) none (cbC ms p) = some q := by
  unfold cbI at h
  split at h
  · cases h
  · rw [if_neg (by omega), if_pos (by omega)] at h
    simpa [hs] using h
/-- the bytes of two members of the whole are together not more than the message -/
theorem mem_two {ms : List Int32} (hc : cbMsg ms) {f g : Nat → Bool} (hfg : ∀ p, f p = true → g p = false) {v w : Nat} (hv : cbMb ms f (some 1) = some v) (hw : cbMb ms g (some 1) = some w) (sv : cbS ms v = 2 ∨ cbS ms v = 3) (sw : cbS ms w = 2 ∨ cbS ms w = 3) : cbV ms v + cbV ms w ≤ ms.length := by
  unfold cbMb at hv hw
  dsimp only at hv hw
  split at hv
  · next h5 =>
    rw [if_pos h5] at hw
    have hq := cbI_map hc h5
    have hl := (cbI_ok hc).c
    obtain ⟨-, ⟨e, a1, a2⟩, a3⟩ := memQ (r := 3) (by omega) _ _ _ _ _ hq hl.2 hv
    obtain ⟨-, ⟨e', b1, b2⟩, b3⟩ := memQ (r := 3) (by omega) _ _ _ _ _ hq hl.2 hw
    have h2 := memQ2 (r := 3) (by omega) hfg _ _ _ _ _ _ hq hl.2 hv hw
    rw [cbE_eq a1 (by omega), cbE_eq b1 (by omega)] at h2
    have c1 := cbI_by a1 sv
    have c2 := cbI_by b1 sw
    have := (cbI_ok a1).c
    have := (cbI_ok b1).c
    omega
  · cases hv
end
/- 70.flash -/
section
set_option maxRecDepth 512
/-! The flash of a key and what its records say: pure. -/
/-- a credential that is held -/
abbrev Cr : Type := Int32 × Int32 × Int32 × (List Int32) × Int32
/-- what the records say together -/
abbrev St : Type := Int32 × Int32 × Int32 × Int32 × (List Cr)
/-- the flash, the power, and what stands -/
abbrev Fl : Type := (List Int32) × Bool × Int32 × Int32 × Nat × Nat × Nat × St
/-- power fails -/
def Fl.off (s : Fl) : Fl := ((s.1, (false, (s.2.2.1, (-1, (s.2.2.2.2.1, (s.2.2.2.2.2.1, (s.2.2.2.2.2.2.1, s.2.2.2.2.2.2.2))))))) : Fl)
/-- one act more -/
def Fl.act (s : Fl) : Fl := ((s.1, (s.2.1, (s.2.2.1 + 1, ((if 0 < s.2.2.2.1 then s.2.2.2.1 - 1 else s.2.2.2.1), (s.2.2.2.2.1, (s.2.2.2.2.2.1, (s.2.2.2.2.2.2.1, s.2.2.2.2.2.2.2))))))) : Fl)
/-- bytes are written one by one from p on -/
def fs_lay : List Int32 → Nat → Fl → Fl × Bool
  | [], _, s => (s, true)
  | b :: bs, p, s => if s.2.2.2.1 = 0 then (s.off, false) else fs_lay bs (p + 1) ((s.1.set p b, (s.act.2.1, (s.act.2.2.1, (s.act.2.2.2.1, (s.act.2.2.2.2.1, (s.act.2.2.2.2.2.1, (s.act.2.2.2.2.2.2.1, s.act.2.2.2.2.2.2.2))))))) : Fl)
/-- n bytes from p on become 255 -/
def fs_fill : Nat → Nat → List Int32 → List Int32
  | 0, _, l => l
  | n + 1, p, l => fs_fill n (p + 1) (l.set p 255)
/-- k pages from p on are erased -/
def fs_era : Nat → Nat → Fl → Fl × Bool
  | 0, _, s => (s, true)
  | k + 1, p, s => if s.2.2.2.1 = 0 then (s.off, false) else fs_era k (p + 64) ((fs_fill 64 p s.1, (s.act.2.1, (s.act.2.2.1, (s.act.2.2.2.1, (s.act.2.2.2.2.1, (s.act.2.2.2.2.2.1, (s.act.2.2.2.2.2.2.1, s.act.2.2.2.2.2.2.2))))))) : Fl)
/-- the two bytes of a check -/
def ck2 (b : List Int32) : List Int32 := bt_low (bt_ck b).toInt64 2
/-- a record -/
def rc (k : Int32) (body : List Int32) : List Int32 := (k :: nI body.length :: body) ++ ck2 (k :: nI body.length :: body)
/-- a header -/
def hdr (g : Nat) : List Int32 := bt_low (nI g).toInt64 2 ++ ck2 (bt_low (nI g).toInt64 2)
def rcCount (id n : Int32) : List Int32 := rc 4 (b4 id ++ b4 n)
def Cr.row (c : Cr) : List Int32 := rc 5 (b4 c.1 ++ (b4 c.2.1 ++ (b4 c.2.2.1 ++ c.2.2.2.1)))
/-- the records of a credential -/
def Cr.recs (c : Cr) : List Int32 := c.row ++ (if c.2.2.2.2 = 0 then [] else rcCount c.1 c.2.2.2.2)
/-- all records that are due -/
def St.own (s : St) : List Int32 := rc 1 (b4 s.1) ++ ((if s.2.1 = 0 then [] else rc 2 (b4 s.2.1)) ++ ((if s.2.2.1 = 8 then [] else rc 3 [s.2.2.1 &&& 255]) ++ (if s.2.2.2.1 = 0 then [] else rcCount 0 s.2.2.2.1)))
def St.recs (s : St) : List Int32 := s.own ++ s.2.2.2.2.flatMap Cr.recs
def St.none : St := ((0, (0, (8, (0, [])))) : St)
/-- where a credential of a party and user stands, or would -/
def fs_pl (cr : List Cr) (party : Int32) (user : List Int32) : Nat := cr.findIdx (fun c => decide (c.2.1 = party ∧ c.2.2.2.1 = user))
def fs_count (s : St) (id n : Int32) : St := if id = 0 then ((s.1, (s.2.1, (s.2.2.1, (n, s.2.2.2.2)))) : St) else ((s.1, (s.2.1, (s.2.2.1, (s.2.2.2.1, s.2.2.2.2.map (fun c => if c.1 = id then ((c.1, (c.2.1, (c.2.2.1, (c.2.2.2.1, n)))) : Cr) else c))))) : St)
def fs_cred (s : St) (c : Cr) : St := ((s.1, (s.2.1, (s.2.2.1, (s.2.2.2.1, if fs_pl s.2.2.2.2 c.2.1 c.2.2.2.1 < s.2.2.2.2.length then s.2.2.2.2.set (fs_pl s.2.2.2.2 c.2.1 c.2.2.2.1) c else s.2.2.2.2 ++ [c])))) : St)
/-- four bytes at a place -/
def w4a (r : List Int32) (p : Nat) : Int32 := w4 ((r.drop p).take 4)
/-- what a record says -/
def fs_lrn (s : St) (r : List Int32) : St :=
  if r.getD 0 0 = 1 then ((w4a r 2, (s.2.1, (s.2.2.1, (s.2.2.2.1, s.2.2.2.2)))) : St)
  else if r.getD 0 0 = 2 then ((s.1, (w4a r 2, (8, (s.2.2.2.1, s.2.2.2.2)))) : St)
  else if r.getD 0 0 = 3 then ((s.1, (s.2.1, (r.getD 2 0, (s.2.2.2.1, s.2.2.2.2)))) : St)
  else if r.getD 0 0 = 4 then fs_count s (w4a r 2) (w4a r 6)
  else if r.getD 0 0 = 5 then fs_cred s ((w4a r 2, (w4a r 6, (w4a r 10, ((r.drop 14).take (uN (r.getD 1 0) - 12), 0)))) : Cr)
  else s
/-- everything goes to the other area -/
def fs_move (s : Fl) : Fl × Bool :=
  let e := fs_era 4 ((1 - s.2.2.2.2.1) * 256) s
  if e.2 = false then e else
  let l := fs_lay s.2.2.2.2.2.2.2.recs ((1 - s.2.2.2.2.1) * 256 + 4) e.1
  if l.2 = false then l else
  let h := fs_lay (hdr (s.2.2.2.2.2.1 + 1)) ((1 - s.2.2.2.2.1) * 256) l.1
  if h.2 = false then h else
  (((h.1.1, (h.1.2.1, (h.1.2.2.1, (h.1.2.2.2.1, (1 - s.2.2.2.2.1, (s.2.2.2.2.2.1 + 1, (4 + s.2.2.2.2.2.2.2.recs.length, h.1.2.2.2.2.2.2.2))))))) : Fl), true)
/-- a record is written where the area has room -/
def fs_put (r : List Int32) (s : Fl) : Fl × Bool :=
  let l := fs_lay r (s.2.2.2.2.1 * 256 + s.2.2.2.2.2.2.1) s
  if l.2 = false then l else (((l.1.1, (l.1.2.1, (l.1.2.2.1, (l.1.2.2.2.1, (l.1.2.2.2.2.1, (l.1.2.2.2.2.2.1, (s.2.2.2.2.2.2.1 + r.length, fs_lrn s.2.2.2.2.2.2.2 r))))))) : Fl), true)
/-- a record is written -/
def fs_wr (r : List Int32) (s : Fl) : Fl × Bool :=
  if 256 < s.2.2.2.2.2.2.1 + r.length then
    let m := fs_move s
    if m.2 = false then m else fs_put r m.1
  else fs_put r s
/-- what an area's header says -/
def fs_gg (fl : List Int32) (a : Nat) : Option Nat :=
  if (fl.drop (a * 256 + 2)).take 2 = ck2 ((fl.drop (a * 256)).take 2) then some (bn ((fl.drop (a * 256)).take 2)) else none
/-- kinds and lengths that are good -/
def fs_kl (k n : Nat) : Bool := (k == 1 && n == 4) || (k == 2 && n == 4) || (k == 3 && n == 1) || (k == 4 && n == 8) || (k == 5 && decide (13 ≤ n) && decide (n ≤ 20))
/-- the size of the record at a place of an area, 0 when there is none -/
def fs_rz (ar : List Int32) (p : Nat) : Nat :=
  let n := uN (ar.getD (p + 1) 0)
  if p + n + 4 ≤ 256 ∧ fs_kl (uN (ar.getD p 0)) n = true ∧ (ar.drop (p + 2 + n)).take 2 = ck2 ((ar.drop p).take (2 + n)) then n + 4 else 0
/-- the records of an area are read -/
def fs_pz (ar : List Int32) : Nat → Nat → St → St × Nat
  | 0, p, s => (s, p)
  | f + 1, p, s => if fs_rz ar p = 0 then (s, p) else fs_pz ar f (p + fs_rz ar p) (fs_lrn s ((ar.drop p).take (fs_rz ar p)))
def fs_ar (fl : List Int32) (a : Nat) : List Int32 := (fl.drop (a * 256)).take 256
/-- which area is in use, and its number -/
def fs_use (fl : List Int32) : Nat × Nat :=
  match fs_gg fl 0, fs_gg fl 1 with
  | some g, some h => if g < h then (1, h) else (0, g)
  | some g, none => (0, g)
  | none, some h => (1, h)
  | none, none => (0, 0)
/-- the key wakes, up to a move -/
def fs_up (s : Fl) : Fl :=
  let u := fs_use s.1
  let z := fs_pz (fs_ar s.1 u.1) 256 4 St.none
  ((s.1, (true, (s.2.2.1, (s.2.2.2.1, (u.1, (u.2, (z.2, z.1))))))) : Fl)
def fs_wake (s : Fl) : Fl :=
  let u := fs_up s
  if ((fs_ar u.1 u.2.2.2.2.1).drop u.2.2.2.2.2.2.1).all (fun v => v == 255) then u else (fs_move u).1
/-- a new flash -/
def fs_new (m : Int32) : List Int32 := hdr 1 ++ (rc 1 (b4 m) ++ List.replicate 500 255)
def fs_room (cr : List Cr) : Nat := (cr.map (fun c => 28 + c.2.2.2.1.length)).sum
end
/- 71.store1 -/
section
set_option maxRecDepth 512
/-! Class: Store: its cells; acts, laying, erasing. -/
/- 60 PasskeyHouse$Store.isDone()Z -/
theorem s60_0 {d : Nat} {ls : mj_L} {st : List Value} {M : mj_H} : mj_Rn d mj_m60 0 ls st M = mq_k0 d mj_m60 1 ls M (mj_lda (mj_lk ls 0) st) := mj_R0 (r := (.aload_n 0, 1, 0, 0, 0)) rfl rfl
theorem s60_1 {d : Nat} {ls : mj_L} {st : List Value} {M : mj_H} : mj_Rn d mj_m60 1 ls st M = mq_k0 d mj_m60 4 ls M (mq_gf 8 4 st M) := (mj_R3 (r := (.getfield 34, 3, 8, 4, 16492)) rfl rfl).trans (congrArg (mq_k0 d mj_m60 4 ls M) mq_gf_eq)
theorem s60_4 {d : Nat} {ls : mj_L} {st : List Value} {M : mj_H} : mj_Rn d mj_m60 4 ls st M = mq_k2 d mj_m60 ls M (mj_br (.ifCond .ne 5) 4 st) := mj_R2 (r := (.ifCond .ne 5, 3, 0, 0, 0)) rfl rfl
theorem s60_7 {d : Nat} {ls : mj_L} {st : List Value} {M : mj_H} : mj_Rn d mj_m60 7 ls st M = mj_Rn d mj_m60 8 ls (.int 0 :: st) M := mj_R0 (r := (.iconst 0, 1, 0, 0, 0)) rfl rfl
theorem s60_8 {d : Nat} {ls : mj_L} {st : List Value} {M : mj_H} : mj_Rn d mj_m60 8 ls st M = mq_k6 M (mj_re (some .boolean) (.ireturn) st) := mj_R6 (r := (.ireturn, 1, 0, 0, 0)) rfl rfl
theorem s60_9 {d : Nat} {ls : mj_L} {st : List Value} {M : mj_H} : mj_Rn d mj_m60 9 ls st M = mq_k0 d mj_m60 10 ls M (mj_lda (mj_lk ls 0) st) := mj_R0 (r := (.aload_n 0, 1, 0, 0, 0)) rfl rfl
theorem s60_10 {d : Nat} {ls : mj_L} {st : List Value} {M : mj_H} : mj_Rn d mj_m60 10 ls st M = mq_k0 d mj_m60 13 ls M (mq_gf 8 6 st M) := (mj_R3 (r := (.getfield 42, 3, 8, 6, 16500)) rfl rfl).trans (congrArg (mq_k0 d mj_m60 13 ls M) mq_gf_eq)
theorem s60_13 {d : Nat} {ls : mj_L} {st : List Value} {M : mj_H} : mj_Rn d mj_m60 13 ls st M = mq_k2 d mj_m60 ls M (mj_br (.ifCond .ne 15) 13 st) := mj_R2 (r := (.ifCond .ne 15, 3, 0, 0, 0)) rfl rfl
theorem s60_16 {d : Nat} {ls : mj_L} {st : List Value} {M : mj_H} : mj_Rn d mj_m60 16 ls st M = mq_k0 d mj_m60 17 ls M (mj_lda (mj_lk ls 0) st) := mj_R0 (r := (.aload_n 0, 1, 0, 0, 0)) rfl rfl
theorem s60_17 {d : Nat} {ls : mj_L} {st : List Value} {M : mj_H} : mj_Rn d mj_m60 17 ls st M = mj_Rn d mj_m60 18 ls (.int (-1) :: st) M := mj_R0 (r := (.iconst (-1), 1, 0, 0, 0)) rfl rfl
theorem s60_18 {d : Nat} {ls : mj_L} {st : List Value} {M : mj_H} : mj_Rn d mj_m60 18 ls st M = mq_k4 d mj_m60 21 ls (mq_pf 8 6 0 st M) := (mj_R4 (r := (.putfield 42, 3, 8, 6, 16500)) rfl rfl).trans (congrArg (mq_k4 d mj_m60 21 ls) (mq_pf_eq rfl rfl))
theorem s60_21 {d : Nat} {ls : mj_L} {st : List Value} {M : mj_H} : mj_Rn d mj_m60 21 ls st M = mq_k0 d mj_m60 22 ls M (mj_lda (mj_lk ls 0) st) := mj_R0 (r := (.aload_n 0, 1, 0, 0, 0)) rfl rfl
theorem s60_22 {d : Nat} {ls : mj_L} {st : List Value} {M : mj_H} : mj_Rn d mj_m60 22 ls st M = mj_Rn d mj_m60 23 ls (.int 0 :: st) M := mj_R0 (r := (.iconst 0, 1, 0, 0, 0)) rfl rfl
theorem s60_23 {d : Nat} {ls : mj_L} {st : List Value} {M : mj_H} : mj_Rn d mj_m60 23 ls st M = mq_k4 d mj_m60 26 ls (mq_pf 8 4 3 st M) := (mj_R4 (r := (.putfield 34, 3, 8, 4, 16492)) rfl rfl).trans (congrArg (mq_k4 d mj_m60 26 ls) (mq_pf_eq rfl rfl))
theorem s60_26 {d : Nat} {ls : mj_L} {st : List Value} {M : mj_H} : mj_Rn d mj_m60 26 ls st M = mj_Rn d mj_m60 27 ls (.int 0 :: st) M := mj_R0 (r := (.iconst 0, 1, 0, 0, 0)) rfl rfl
theorem s60_27 {d : Nat} {ls : mj_L} {st : List Value} {M : mj_H} : mj_Rn d mj_m60 27 ls st M = mq_k6 M (mj_re (some .boolean) (.ireturn) st) := mj_R6 (r := (.ireturn, 1, 0, 0, 0)) rfl rfl
theorem s60_28 {d : Nat} {ls : mj_L} {st : List Value} {M : mj_H} : mj_Rn d mj_m60 28 ls st M = mq_k0 d mj_m60 29 ls M (mj_lda (mj_lk ls 0) st) := mj_R0 (r := (.aload_n 0, 1, 0, 0, 0)) rfl rfl
theorem s60_29 {d : Nat} {ls : mj_L} {st : List Value} {M : mj_H} : mj_Rn d mj_m60 29 ls st M = mq_k0 d mj_m60 32 ls M (mq_gf 8 6 st M) := (mj_R3 (r := (.getfield 42, 3, 8, 6, 16500)) rfl rfl).trans (congrArg (mq_k0 d mj_m60 32 ls M) mq_gf_eq)
theorem s60_32 {d : Nat} {ls : mj_L} {st : List Value} {M : mj_H} : mj_Rn d mj_m60 32 ls st M = mq_k2 d mj_m60 ls M (mj_br (.ifCond .le 13) 32 st) := mj_R2 (r := (.ifCond .le 13, 3, 0, 0, 0)) rfl rfl
theorem s60_35 {d : Nat} {ls : mj_L} {st : List Value} {M : mj_H} : mj_Rn d mj_m60 35 ls st M = mq_k0 d mj_m60 36 ls M (mj_lda (mj_lk ls 0) st) := mj_R0 (r := (.aload_n 0, 1, 0, 0, 0)) rfl rfl
theorem s60_36 {d : Nat} {ls : mj_L} {st : List Value} {M : mj_H} : mj_Rn d mj_m60 36 ls st M = mq_k0 d mj_m60 37 ls M (mj_pu .dup ls st) := mj_R0 (r := (.dup, 1, 0, 0, 0)) rfl rfl
theorem s60_37 {d : Nat} {ls : mj_L} {st : List Value} {M : mj_H} : mj_Rn d mj_m60 37 ls st M = mq_k0 d mj_m60 40 ls M (mq_gf 8 6 st M) := (mj_R3 (r := (.getfield 42, 3, 8, 6, 16500)) rfl rfl).trans (congrArg (mq_k0 d mj_m60 40 ls M) mq_gf_eq)
theorem s60_40 {d : Nat} {ls : mj_L} {st : List Value} {M : mj_H} : mj_Rn d mj_m60 40 ls st M = mj_Rn d mj_m60 41 ls (.int 1 :: st) M := mj_R0 (r := (.iconst 1, 1, 0, 0, 0)) rfl rfl
theorem s60_41 {d : Nat} {ls : mj_L} {st : List Value} {M : mj_H} : mj_Rn d mj_m60 41 ls st M = mq_k0 d mj_m60 42 ls M (mj_pu .isub ls st) := mj_R0 (r := (.isub, 1, 0, 0, 0)) rfl rfl
theorem s60_42 {d : Nat} {ls : mj_L} {st : List Value} {M : mj_H} : mj_Rn d mj_m60 42 ls st M = mq_k4 d mj_m60 45 ls (mq_pf 8 6 0 st M) := (mj_R4 (r := (.putfield 42, 3, 8, 6, 16500)) rfl rfl).trans (congrArg (mq_k4 d mj_m60 45 ls) (mq_pf_eq rfl rfl))
theorem s60_45 {d : Nat} {ls : mj_L} {st : List Value} {M : mj_H} : mj_Rn d mj_m60 45 ls st M = mq_k0 d mj_m60 46 ls M (mj_lda (mj_lk ls 0) st) := mj_R0 (r := (.aload_n 0, 1, 0, 0, 0)) rfl rfl
theorem s60_46 {d : Nat} {ls : mj_L} {st : List Value} {M : mj_H} : mj_Rn d mj_m60 46 ls st M = mq_k0 d mj_m60 47 ls M (mj_pu .dup ls st) := mj_R0 (r := (.dup, 1, 0, 0, 0)) rfl rfl
theorem s60_47 {d : Nat} {ls : mj_L} {st : List Value} {M : mj_H} : mj_Rn d mj_m60 47 ls st M = mq_k0 d mj_m60 50 ls M (mq_gf 8 5 st M) := (mj_R3 (r := (.getfield 38, 3, 8, 5, 16496)) rfl rfl).trans (congrArg (mq_k0 d mj_m60 50 ls M) mq_gf_eq)
theorem s60_50 {d : Nat} {ls : mj_L} {st : List Value} {M : mj_H} : mj_Rn d mj_m60 50 ls st M = mj_Rn d mj_m60 51 ls (.int 1 :: st) M := mj_R0 (r := (.iconst 1, 1, 0, 0, 0)) rfl rfl
theorem s60_51 {d : Nat} {ls : mj_L} {st : List Value} {M : mj_H} : mj_Rn d mj_m60 51 ls st M = mq_k0 d mj_m60 52 ls M (mj_pu .iadd ls st) := mj_R0 (r := (.iadd, 1, 0, 0, 0)) rfl rfl
theorem s60_52 {d : Nat} {ls : mj_L} {st : List Value} {M : mj_H} : mj_Rn d mj_m60 52 ls st M = mq_k4 d mj_m60 55 ls (mq_pf 8 5 0 st M) := (mj_R4 (r := (.putfield 38, 3, 8, 5, 16496)) rfl rfl).trans (congrArg (mq_k4 d mj_m60 55 ls) (mq_pf_eq rfl rfl))
theorem s60_55 {d : Nat} {ls : mj_L} {st : List Value} {M : mj_H} : mj_Rn d mj_m60 55 ls st M = mj_Rn d mj_m60 56 ls (.int 1 :: st) M := mj_R0 (r := (.iconst 1, 1, 0, 0, 0)) rfl rfl
theorem s60_56 {d : Nat} {ls : mj_L} {st : List Value} {M : mj_H} : mj_Rn d mj_m60 56 ls st M = mq_k6 M (mj_re (some .boolean) (.ireturn) st) := mj_R6 (r := (.ireturn, 1, 0, 0, 0)) rfl rfl
/- 64 PasskeyHouse$Store.lay(I)Z -/
theorem s64_0 {d : Nat} {ls : mj_L} {st : List Value} {M : mj_H} : mj_Rn d mj_m64 0 ls st M = mj_Rn d mj_m64 1 ls (.int 0 :: st) M := mj_R0 (r := (.iconst 0, 1, 0, 0, 0)) rfl rfl
theorem s64_1 {d : Nat} {ls : mj_L} {st : List Value} {M : mj_H} : mj_Rn d mj_m64 1 ls st M = mq_k1 d mj_m64 2 M (mj_lo 3 (.istore 2) ls st) := (mj_R1 (r := (.istore_n 2, 1, 0, 0, 0)) rfl rfl).trans (congrArg (mq_k1 d mj_m64 2 M) (mq_sti (k := 2)))
theorem s64_2 {d : Nat} {ls : mj_L} {st : List Value} {M : mj_H} : mj_Rn d mj_m64 2 ls st M = mq_k0 d mj_m64 3 ls M (mj_ldi (mj_lk ls 2) st) := mj_R0 (r := (.iload_n 2, 1, 0, 0, 0)) rfl rfl
theorem s64_3 {d : Nat} {ls : mj_L} {st : List Value} {M : mj_H} : mj_Rn d mj_m64 3 ls st M = mq_k0 d mj_m64 4 ls M (mj_lda (mj_lk ls 0) st) := mj_R0 (r := (.aload_n 0, 1, 0, 0, 0)) rfl rfl
theorem s64_4 {d : Nat} {ls : mj_L} {st : List Value} {M : mj_H} : mj_Rn d mj_m64 4 ls st M = mq_k0 d mj_m64 7 ls M (mq_gf 8 1 st M) := (mj_R3 (r := (.getfield 20, 3, 8, 1, 16484)) rfl rfl).trans (congrArg (mq_k0 d mj_m64 7 ls M) mq_gf_eq)
theorem s64_7 {d : Nat} {ls : mj_L} {st : List Value} {M : mj_H} : mj_Rn (d + 1) mj_m64 7 ls st M = mq_k5a (d + 1) mj_m64 10 ls M 9 (mq_cb 0 0 1 st M) := mj_R5e (r := (.invokevirtual 58, 3, 0, 9, 12288)) (z := mj_m9) rfl rfl (by decide) (by decide) rfl
theorem s64_10 {d : Nat} {ls : mj_L} {st : List Value} {M : mj_H} : mj_Rn d mj_m64 10 ls st M = mq_k2 d mj_m64 ls M (mj_br (.if_icmp .ge 36) 10 st) := mj_R2 (r := (.if_icmp .ge 36, 3, 0, 0, 0)) rfl rfl
theorem s64_13 {d : Nat} {ls : mj_L} {st : List Value} {M : mj_H} : mj_Rn d mj_m64 13 ls st M = mq_k0 d mj_m64 14 ls M (mj_lda (mj_lk ls 0) st) := mj_R0 (r := (.aload_n 0, 1, 0, 0, 0)) rfl rfl
theorem s64_14 {d : Nat} {ls : mj_L} {st : List Value} {M : mj_H} : mj_Rn (d + 1) mj_m64 14 ls st M = mq_k5a (d + 1) mj_m64 17 ls M 60 (mq_cb 0 0 8 st M) := mj_R5e (r := (.invokevirtual 164, 3, 0, 60, 12361)) (z := mj_m60) rfl rfl (by decide) (by decide) rfl
theorem s64_17 {d : Nat} {ls : mj_L} {st : List Value} {M : mj_H} : mj_Rn d mj_m64 17 ls st M = mq_k2 d mj_m64 ls M (mj_br (.ifCond .ne 5) 17 st) := mj_R2 (r := (.ifCond .ne 5, 3, 0, 0, 0)) rfl rfl
theorem s64_20 {d : Nat} {ls : mj_L} {st : List Value} {M : mj_H} : mj_Rn d mj_m64 20 ls st M = mj_Rn d mj_m64 21 ls (.int 0 :: st) M := mj_R0 (r := (.iconst 0, 1, 0, 0, 0)) rfl rfl
theorem s64_21 {d : Nat} {ls : mj_L} {st : List Value} {M : mj_H} : mj_Rn d mj_m64 21 ls st M = mq_k6 M (mj_re (some .boolean) (.ireturn) st) := mj_R6 (r := (.ireturn, 1, 0, 0, 0)) rfl rfl
theorem s64_22 {d : Nat} {ls : mj_L} {st : List Value} {M : mj_H} : mj_Rn d mj_m64 22 ls st M = mq_k0 d mj_m64 23 ls M (mj_lda (mj_lk ls 0) st) := mj_R0 (r := (.aload_n 0, 1, 0, 0, 0)) rfl rfl
theorem s64_23 {d : Nat} {ls : mj_L} {st : List Value} {M : mj_H} : mj_Rn d mj_m64 23 ls st M = mq_k0 d mj_m64 26 ls M (mq_gf 8 0 st M) := (mj_R3 (r := (.getfield 16, 3, 8, 0, 16480)) rfl rfl).trans (congrArg (mq_k0 d mj_m64 26 ls M) mq_gf_eq)
theorem s64_26 {d : Nat} {ls : mj_L} {st : List Value} {M : mj_H} : mj_Rn d mj_m64 26 ls st M = mq_k0 d mj_m64 27 ls M (mj_ldi (mj_lk ls 1) st) := mj_R0 (r := (.iload_n 1, 1, 0, 0, 0)) rfl rfl
theorem s64_27 {d : Nat} {ls : mj_L} {st : List Value} {M : mj_H} : mj_Rn d mj_m64 27 ls st M = mq_k0 d mj_m64 28 ls M (mj_ldi (mj_lk ls 2) st) := mj_R0 (r := (.iload_n 2, 1, 0, 0, 0)) rfl rfl
theorem s64_28 {d : Nat} {ls : mj_L} {st : List Value} {M : mj_H} : mj_Rn d mj_m64 28 ls st M = mq_k0 d mj_m64 29 ls M (mj_pu .iadd ls st) := mj_R0 (r := (.iadd, 1, 0, 0, 0)) rfl rfl
theorem s64_29 {d : Nat} {ls : mj_L} {st : List Value} {M : mj_H} : mj_Rn d mj_m64 29 ls st M = mq_k0 d mj_m64 30 ls M (mj_lda (mj_lk ls 0) st) := mj_R0 (r := (.aload_n 0, 1, 0, 0, 0)) rfl rfl
theorem s64_30 {d : Nat} {ls : mj_L} {st : List Value} {M : mj_H} : mj_Rn d mj_m64 30 ls st M = mq_k0 d mj_m64 33 ls M (mq_gf 8 1 st M) := (mj_R3 (r := (.getfield 20, 3, 8, 1, 16484)) rfl rfl).trans (congrArg (mq_k0 d mj_m64 33 ls M) mq_gf_eq)
theorem s64_33 {d : Nat} {ls : mj_L} {st : List Value} {M : mj_H} : mj_Rn d mj_m64 33 ls st M = mq_k0 d mj_m64 34 ls M (mj_ldi (mj_lk ls 2) st) := mj_R0 (r := (.iload_n 2, 1, 0, 0, 0)) rfl rfl
theorem s64_34 {d : Nat} {ls : mj_L} {st : List Value} {M : mj_H} : mj_Rn (d + 1) mj_m64 34 ls st M = mq_k5a (d + 1) mj_m64 37 ls M 14 (mq_cb 0 1 1 st M) := mj_R5e (r := (.invokevirtual 62, 3, 0, 14, 12289)) (z := mj_m14) rfl rfl (by decide) (by decide) rfl
theorem s64_37 {d : Nat} {ls : mj_L} {st : List Value} {M : mj_H} : mj_Rn (d + 1) mj_m64 37 ls st M = mq_k5a (d + 1) mj_m64 40 ls M 16 (mq_cb 0 2 1 st M) := mj_R5e (r := (.invokevirtual 66, 3, 0, 16, 12290)) (z := mj_m16) rfl rfl (by decide) (by decide) rfl
theorem s64_40 {d : Nat} {ls : mj_L} {st : List Value} {M : mj_H} : mj_Rn d mj_m64 40 ls st M = mq_k1 d mj_m64 43 M (mj_lo 3 (.iinc 2 1) ls st) := mj_R1 (r := (.iinc 2 1, 3, 0, 0, 0)) rfl rfl
theorem s64_43 {d : Nat} {ls : mj_L} {st : List Value} {M : mj_H} : mj_Rn d mj_m64 43 ls st M = mj_Rn d mj_m64 2 ls st M := mj_R2 (r := (.goto (-41), 3, 0, 0, 0)) rfl rfl
theorem s64_46 {d : Nat} {ls : mj_L} {st : List Value} {M : mj_H} : mj_Rn d mj_m64 46 ls st M = mj_Rn d mj_m64 47 ls (.int 1 :: st) M := mj_R0 (r := (.iconst 1, 1, 0, 0, 0)) rfl rfl
theorem s64_47 {d : Nat} {ls : mj_L} {st : List Value} {M : mj_H} : mj_Rn d mj_m64 47 ls st M = mq_k6 M (mj_re (some .boolean) (.ireturn) st) := mj_R6 (r := (.ireturn, 1, 0, 0, 0)) rfl rfl
/- 59 PasskeyHouse$Store.erase(I)Z -/
theorem s59_0 {d : Nat} {ls : mj_L} {st : List Value} {M : mj_H} : mj_Rn d mj_m59 0 ls st M = mq_k0 d mj_m59 1 ls M (mj_ldi (mj_lk ls 1) st) := mj_R0 (r := (.iload_n 1, 1, 0, 0, 0)) rfl rfl
theorem s59_1 {d : Nat} {ls : mj_L} {st : List Value} {M : mj_H} : mj_Rn d mj_m59 1 ls st M = mj_Rn d mj_m59 4 ls (.int 256 :: st) M := mj_R0 (r := (.sipush 256, 3, 0, 0, 0)) rfl rfl
theorem s59_4 {d : Nat} {ls : mj_L} {st : List Value} {M : mj_H} : mj_Rn d mj_m59 4 ls st M = mq_k0 d mj_m59 5 ls M (mj_pu .imul ls st) := mj_R0 (r := (.imul, 1, 0, 0, 0)) rfl rfl
theorem s59_5 {d : Nat} {ls : mj_L} {st : List Value} {M : mj_H} : mj_Rn d mj_m59 5 ls st M = mq_k1 d mj_m59 6 M (mj_lo 3 (.istore 2) ls st) := (mj_R1 (r := (.istore_n 2, 1, 0, 0, 0)) rfl rfl).trans (congrArg (mq_k1 d mj_m59 6 M) (mq_sti (k := 2)))
theorem s59_6 {d : Nat} {ls : mj_L} {st : List Value} {M : mj_H} : mj_Rn d mj_m59 6 ls st M = mq_k0 d mj_m59 7 ls M (mj_ldi (mj_lk ls 2) st) := mj_R0 (r := (.iload_n 2, 1, 0, 0, 0)) rfl rfl
theorem s59_7 {d : Nat} {ls : mj_L} {st : List Value} {M : mj_H} : mj_Rn d mj_m59 7 ls st M = mq_k0 d mj_m59 8 ls M (mj_ldi (mj_lk ls 1) st) := mj_R0 (r := (.iload_n 1, 1, 0, 0, 0)) rfl rfl
theorem s59_8 {d : Nat} {ls : mj_L} {st : List Value} {M : mj_H} : mj_Rn d mj_m59 8 ls st M = mj_Rn d mj_m59 9 ls (.int 1 :: st) M := mj_R0 (r := (.iconst 1, 1, 0, 0, 0)) rfl rfl
theorem s59_9 {d : Nat} {ls : mj_L} {st : List Value} {M : mj_H} : mj_Rn d mj_m59 9 ls st M = mq_k0 d mj_m59 10 ls M (mj_pu .iadd ls st) := mj_R0 (r := (.iadd, 1, 0, 0, 0)) rfl rfl
theorem s59_10 {d : Nat} {ls : mj_L} {st : List Value} {M : mj_H} : mj_Rn d mj_m59 10 ls st M = mj_Rn d mj_m59 13 ls (.int 256 :: st) M := mj_R0 (r := (.sipush 256, 3, 0, 0, 0)) rfl rfl
theorem s59_13 {d : Nat} {ls : mj_L} {st : List Value} {M : mj_H} : mj_Rn d mj_m59 13 ls st M = mq_k0 d mj_m59 14 ls M (mj_pu .imul ls st) := mj_R0 (r := (.imul, 1, 0, 0, 0)) rfl rfl
theorem s59_14 {d : Nat} {ls : mj_L} {st : List Value} {M : mj_H} : mj_Rn d mj_m59 14 ls st M = mq_k2 d mj_m59 ls M (mj_br (.if_icmp .ge 36) 14 st) := mj_R2 (r := (.if_icmp .ge 36, 3, 0, 0, 0)) rfl rfl
theorem s59_17 {d : Nat} {ls : mj_L} {st : List Value} {M : mj_H} : mj_Rn d mj_m59 17 ls st M = mq_k0 d mj_m59 18 ls M (mj_ldi (mj_lk ls 2) st) := mj_R0 (r := (.iload_n 2, 1, 0, 0, 0)) rfl rfl
theorem s59_18 {d : Nat} {ls : mj_L} {st : List Value} {M : mj_H} : mj_Rn d mj_m59 18 ls st M = mj_Rn d mj_m59 20 ls (.int 64 :: st) M := mj_R0 (r := (.bipush 64, 2, 0, 0, 0)) rfl rfl
theorem s59_20 {d : Nat} {ls : mj_L} {st : List Value} {M : mj_H} : mj_Rn d mj_m59 20 ls st M = mq_k0 d mj_m59 21 ls M (mj_pu .irem ls st) := mj_R0 (r := (.irem, 1, 0, 0, 0)) rfl rfl
theorem s59_21 {d : Nat} {ls : mj_L} {st : List Value} {M : mj_H} : mj_Rn d mj_m59 21 ls st M = mq_k2 d mj_m59 ls M (mj_br (.ifCond .ne 12) 21 st) := mj_R2 (r := (.ifCond .ne 12, 3, 0, 0, 0)) rfl rfl
theorem s59_24 {d : Nat} {ls : mj_L} {st : List Value} {M : mj_H} : mj_Rn d mj_m59 24 ls st M = mq_k0 d mj_m59 25 ls M (mj_lda (mj_lk ls 0) st) := mj_R0 (r := (.aload_n 0, 1, 0, 0, 0)) rfl rfl
theorem s59_25 {d : Nat} {ls : mj_L} {st : List Value} {M : mj_H} : mj_Rn (d + 1) mj_m59 25 ls st M = mq_k5a (d + 1) mj_m59 28 ls M 60 (mq_cb 0 0 8 st M) := mj_R5e (r := (.invokevirtual 164, 3, 0, 60, 12361)) (z := mj_m60) rfl rfl (by decide) (by decide) rfl
theorem s59_28 {d : Nat} {ls : mj_L} {st : List Value} {M : mj_H} : mj_Rn d mj_m59 28 ls st M = mq_k2 d mj_m59 ls M (mj_br (.ifCond .ne 5) 28 st) := mj_R2 (r := (.ifCond .ne 5, 3, 0, 0, 0)) rfl rfl
theorem s59_31 {d : Nat} {ls : mj_L} {st : List Value} {M : mj_H} : mj_Rn d mj_m59 31 ls st M = mj_Rn d mj_m59 32 ls (.int 0 :: st) M := mj_R0 (r := (.iconst 0, 1, 0, 0, 0)) rfl rfl
theorem s59_32 {d : Nat} {ls : mj_L} {st : List Value} {M : mj_H} : mj_Rn d mj_m59 32 ls st M = mq_k6 M (mj_re (some .boolean) (.ireturn) st) := mj_R6 (r := (.ireturn, 1, 0, 0, 0)) rfl rfl
theorem s59_33 {d : Nat} {ls : mj_L} {st : List Value} {M : mj_H} : mj_Rn d mj_m59 33 ls st M = mq_k0 d mj_m59 34 ls M (mj_lda (mj_lk ls 0) st) := mj_R0 (r := (.aload_n 0, 1, 0, 0, 0)) rfl rfl
theorem s59_34 {d : Nat} {ls : mj_L} {st : List Value} {M : mj_H} : mj_Rn d mj_m59 34 ls st M = mq_k0 d mj_m59 37 ls M (mq_gf 8 0 st M) := (mj_R3 (r := (.getfield 16, 3, 8, 0, 16480)) rfl rfl).trans (congrArg (mq_k0 d mj_m59 37 ls M) mq_gf_eq)
theorem s59_37 {d : Nat} {ls : mj_L} {st : List Value} {M : mj_H} : mj_Rn d mj_m59 37 ls st M = mq_k0 d mj_m59 38 ls M (mj_ldi (mj_lk ls 2) st) := mj_R0 (r := (.iload_n 2, 1, 0, 0, 0)) rfl rfl
theorem s59_38 {d : Nat} {ls : mj_L} {st : List Value} {M : mj_H} : mj_Rn d mj_m59 38 ls st M = mj_Rn d mj_m59 41 ls (.int 255 :: st) M := mj_R0 (r := (.sipush 255, 3, 0, 0, 0)) rfl rfl
theorem s59_41 {d : Nat} {ls : mj_L} {st : List Value} {M : mj_H} : mj_Rn (d + 1) mj_m59 41 ls st M = mq_k5a (d + 1) mj_m59 44 ls M 16 (mq_cb 0 2 1 st M) := mj_R5e (r := (.invokevirtual 66, 3, 0, 16, 12290)) (z := mj_m16) rfl rfl (by decide) (by decide) rfl
theorem s59_44 {d : Nat} {ls : mj_L} {st : List Value} {M : mj_H} : mj_Rn d mj_m59 44 ls st M = mq_k1 d mj_m59 47 M (mj_lo 3 (.iinc 2 1) ls st) := mj_R1 (r := (.iinc 2 1, 3, 0, 0, 0)) rfl rfl
theorem s59_47 {d : Nat} {ls : mj_L} {st : List Value} {M : mj_H} : mj_Rn d mj_m59 47 ls st M = mj_Rn d mj_m59 6 ls st M := mj_R2 (r := (.goto (-41), 3, 0, 0, 0)) rfl rfl
theorem s59_50 {d : Nat} {ls : mj_L} {st : List Value} {M : mj_H} : mj_Rn d mj_m59 50 ls st M = mj_Rn d mj_m59 51 ls (.int 1 :: st) M := mj_R0 (r := (.iconst 1, 1, 0, 0, 0)) rfl rfl
theorem s59_51 {d : Nat} {ls : mj_L} {st : List Value} {M : mj_H} : mj_Rn d mj_m59 51 ls st M = mq_k6 M (mj_re (some .boolean) (.ireturn) st) := mj_R6 (r := (.ireturn, 1, 0, 0, 0)) rfl rfl
/- 50 PasskeyHouse$Store.forget()V -/
theorem s50_0 {d : Nat} {ls : mj_L} {st : List Value} {M : mj_H} : mj_Rn d mj_m50 0 ls st M = mq_k0 d mj_m50 1 ls M (mj_lda (mj_lk ls 0) st) := mj_R0 (r := (.aload_n 0, 1, 0, 0, 0)) rfl rfl
theorem s50_1 {d : Nat} {ls : mj_L} {st : List Value} {M : mj_H} : mj_Rn d mj_m50 1 ls st M = mj_Rn d mj_m50 2 ls (.int 0 :: st) M := mj_R0 (r := (.iconst 0, 1, 0, 0, 0)) rfl rfl
theorem s50_2 {d : Nat} {ls : mj_L} {st : List Value} {M : mj_H} : mj_Rn d mj_m50 2 ls st M = mq_k4 d mj_m50 5 ls (mq_pf 8 10 0 st M) := (mj_R4 (r := (.putfield 112, 3, 8, 10, 16510)) rfl rfl).trans (congrArg (mq_k4 d mj_m50 5 ls) (mq_pf_eq rfl rfl))
theorem s50_5 {d : Nat} {ls : mj_L} {st : List Value} {M : mj_H} : mj_Rn d mj_m50 5 ls st M = mq_k0 d mj_m50 6 ls M (mj_lda (mj_lk ls 0) st) := mj_R0 (r := (.aload_n 0, 1, 0, 0, 0)) rfl rfl
theorem s50_6 {d : Nat} {ls : mj_L} {st : List Value} {M : mj_H} : mj_Rn d mj_m50 6 ls st M = mj_Rn d mj_m50 7 ls (.int 0 :: st) M := mj_R0 (r := (.iconst 0, 1, 0, 0, 0)) rfl rfl
theorem s50_7 {d : Nat} {ls : mj_L} {st : List Value} {M : mj_H} : mj_Rn d mj_m50 7 ls st M = mq_k4 d mj_m50 10 ls (mq_pf 8 11 0 st M) := (mj_R4 (r := (.putfield 115, 3, 8, 11, 16514)) rfl rfl).trans (congrArg (mq_k4 d mj_m50 10 ls) (mq_pf_eq rfl rfl))
theorem s50_10 {d : Nat} {ls : mj_L} {st : List Value} {M : mj_H} : mj_Rn d mj_m50 10 ls st M = mq_k0 d mj_m50 11 ls M (mj_lda (mj_lk ls 0) st) := mj_R0 (r := (.aload_n 0, 1, 0, 0, 0)) rfl rfl
theorem s50_11 {d : Nat} {ls : mj_L} {st : List Value} {M : mj_H} : mj_Rn d mj_m50 11 ls st M = mj_Rn d mj_m50 13 ls (.int 8 :: st) M := mj_R0 (r := (.bipush 8, 2, 0, 0, 0)) rfl rfl
theorem s50_13 {d : Nat} {ls : mj_L} {st : List Value} {M : mj_H} : mj_Rn d mj_m50 13 ls st M = mq_k4 d mj_m50 16 ls (mq_pf 8 12 0 st M) := (mj_R4 (r := (.putfield 118, 3, 8, 12, 16518)) rfl rfl).trans (congrArg (mq_k4 d mj_m50 16 ls) (mq_pf_eq rfl rfl))
theorem s50_16 {d : Nat} {ls : mj_L} {st : List Value} {M : mj_H} : mj_Rn d mj_m50 16 ls st M = mq_k0 d mj_m50 17 ls M (mj_lda (mj_lk ls 0) st) := mj_R0 (r := (.aload_n 0, 1, 0, 0, 0)) rfl rfl
theorem s50_17 {d : Nat} {ls : mj_L} {st : List Value} {M : mj_H} : mj_Rn d mj_m50 17 ls st M = mj_Rn d mj_m50 18 ls (.int 0 :: st) M := mj_R0 (r := (.iconst 0, 1, 0, 0, 0)) rfl rfl
theorem s50_18 {d : Nat} {ls : mj_L} {st : List Value} {M : mj_H} : mj_Rn d mj_m50 18 ls st M = mq_k4 d mj_m50 21 ls (mq_pf 8 13 0 st M) := (mj_R4 (r := (.putfield 121, 3, 8, 13, 16522)) rfl rfl).trans (congrArg (mq_k4 d mj_m50 21 ls) (mq_pf_eq rfl rfl))
theorem s50_21 {d : Nat} {ls : mj_L} {st : List Value} {M : mj_H} : mj_Rn d mj_m50 21 ls st M = mq_k0 d mj_m50 22 ls M (mj_lda (mj_lk ls 0) st) := mj_R0 (r := (.aload_n 0, 1, 0, 0, 0)) rfl rfl
theorem s50_22 {d : Nat} {ls : mj_L} {st : List Value} {M : mj_H} : mj_Rn d mj_m50 22 ls st M = mj_Rn d mj_m50 23 ls (.int 0 :: st) M := mj_R0 (r := (.iconst 0, 1, 0, 0, 0)) rfl rfl
theorem s50_23 {d : Nat} {ls : mj_L} {st : List Value} {M : mj_H} : mj_Rn d mj_m50 23 ls st M = mq_k4 d mj_m50 26 ls (mq_pf 8 14 0 st M) := (mj_R4 (r := (.putfield 124, 3, 8, 14, 16526)) rfl rfl).trans (congrArg (mq_k4 d mj_m50 26 ls) (mq_pf_eq rfl rfl))
theorem s50_26 {d : Nat} {ls : mj_L} {st : List Value} {M : mj_H} : mj_Rn d mj_m50 26 ls st M = mq_k6 M (mj_re none (.return_) st) := mj_R6 (r := (.return_, 1, 0, 0, 0)) rfl rfl
/- 61 PasskeyHouse$Store.standing(I)LPasskeyHouse$Credential; -/
theorem s61_0 {d : Nat} {ls : mj_L} {st : List Value} {M : mj_H} : mj_Rn d mj_m61 0 ls st M = mq_k0 d mj_m61 1 ls M (mj_ldi (mj_lk ls 1) st) := mj_R0 (r := (.iload_n 1, 1, 0, 0, 0)) rfl rfl
theorem s61_1 {d : Nat} {ls : mj_L} {st : List Value} {M : mj_H} : mj_Rn d mj_m61 1 ls st M = mq_k2 d mj_m61 ls M (mj_br (.ifCond .lt 20) 1 st) := mj_R2 (r := (.ifCond .lt 20, 3, 0, 0, 0)) rfl rfl
theorem s61_4 {d : Nat} {ls : mj_L} {st : List Value} {M : mj_H} : mj_Rn d mj_m61 4 ls st M = mq_k0 d mj_m61 5 ls M (mj_ldi (mj_lk ls 1) st) := mj_R0 (r := (.iload_n 1, 1, 0, 0, 0)) rfl rfl
theorem s61_5 {d : Nat} {ls : mj_L} {st : List Value} {M : mj_H} : mj_Rn d mj_m61 5 ls st M = mq_k0 d mj_m61 6 ls M (mj_lda (mj_lk ls 0) st) := mj_R0 (r := (.aload_n 0, 1, 0, 0, 0)) rfl rfl
theorem s61_6 {d : Nat} {ls : mj_L} {st : List Value} {M : mj_H} : mj_Rn d mj_m61 6 ls st M = mq_k0 d mj_m61 9 ls M (mq_gf 8 14 st M) := (mj_R3 (r := (.getfield 124, 3, 8, 14, 16526)) rfl rfl).trans (congrArg (mq_k0 d mj_m61 9 ls M) mq_gf_eq)
theorem s61_9 {d : Nat} {ls : mj_L} {st : List Value} {M : mj_H} : mj_Rn d mj_m61 9 ls st M = mq_k2 d mj_m61 ls M (mj_br (.if_icmp .ge 12) 9 st) := mj_R2 (r := (.if_icmp .ge 12, 3, 0, 0, 0)) rfl rfl
theorem s61_12 {d : Nat} {ls : mj_L} {st : List Value} {M : mj_H} : mj_Rn d mj_m61 12 ls st M = mq_k0 d mj_m61 13 ls M (mj_ldi (mj_lk ls 1) st) := mj_R0 (r := (.iload_n 1, 1, 0, 0, 0)) rfl rfl
theorem s61_13 {d : Nat} {ls : mj_L} {st : List Value} {M : mj_H} : mj_Rn d mj_m61 13 ls st M = mq_k0 d mj_m61 14 ls M (mj_lda (mj_lk ls 0) st) := mj_R0 (r := (.aload_n 0, 1, 0, 0, 0)) rfl rfl
theorem s61_14 {d : Nat} {ls : mj_L} {st : List Value} {M : mj_H} : mj_Rn d mj_m61 14 ls st M = mq_k0 d mj_m61 17 ls M (mq_gf 8 2 st M) := (mj_R3 (r := (.getfield 25, 3, 8, 2, 16486)) rfl rfl).trans (congrArg (mq_k0 d mj_m61 17 ls M) mq_gf_eq)
theorem s61_17 {d : Nat} {ls : mj_L} {st : List Value} {M : mj_H} : mj_Rn d mj_m61 17 ls st M = mq_k0 d mj_m61 18 ls M (mq_len st M) := (mj_R3 (r := (.arraylength, 1, 0, 0, 0)) rfl rfl).trans (congrArg (mq_k0 d mj_m61 18 ls M) mq_len_eq)
theorem s61_18 {d : Nat} {ls : mj_L} {st : List Value} {M : mj_H} : mj_Rn d mj_m61 18 ls st M = mq_k2 d mj_m61 ls M (mj_br (.if_icmp .lt 7) 18 st) := mj_R2 (r := (.if_icmp .lt 7, 3, 0, 0, 0)) rfl rfl
theorem s61_21 {d : Nat} {ls : mj_L} {st : List Value} {M : mj_H} : mj_Rn d mj_m61 21 ls st M = mj_Rn d mj_m61 22 ls (.null :: st) M := mj_R0 (r := (.aconst_null, 1, 0, 0, 0)) rfl rfl
theorem s61_22 {d : Nat} {ls : mj_L} {st : List Value} {M : mj_H} : mj_Rn d mj_m61 22 ls st M = mj_Rn d mj_m61 31 ls st M := mj_R2 (r := (.goto 9, 3, 0, 0, 0)) rfl rfl
theorem s61_25 {d : Nat} {ls : mj_L} {st : List Value} {M : mj_H} : mj_Rn d mj_m61 25 ls st M = mq_k0 d mj_m61 26 ls M (mj_lda (mj_lk ls 0) st) := mj_R0 (r := (.aload_n 0, 1, 0, 0, 0)) rfl rfl
theorem s61_26 {d : Nat} {ls : mj_L} {st : List Value} {M : mj_H} : mj_Rn d mj_m61 26 ls st M = mq_k0 d mj_m61 29 ls M (mq_gf 8 2 st M) := (mj_R3 (r := (.getfield 25, 3, 8, 2, 16486)) rfl rfl).trans (congrArg (mq_k0 d mj_m61 29 ls M) mq_gf_eq)
theorem s61_29 {d : Nat} {ls : mj_L} {st : List Value} {M : mj_H} : mj_Rn d mj_m61 29 ls st M = mq_k0 d mj_m61 30 ls M (mj_ldi (mj_lk ls 1) st) := mj_R0 (r := (.iload_n 1, 1, 0, 0, 0)) rfl rfl
theorem s61_30 {d : Nat} {ls : mj_L} {st : List Value} {M : mj_H} : mj_Rn d mj_m61 30 ls st M = mq_k0 d mj_m61 31 ls M (mq_al [1004, 1005, 1006, 1007, 1008, 1009] st M) := (mj_R3 (r := (.aaload, 1, 0, 0, 0)) rfl rfl).trans (congrArg (mq_k0 d mj_m61 31 ls M) mq_ala_eq)
theorem s61_31 {d : Nat} {ls : mj_L} {st : List Value} {M : mj_H} : mj_Rn d mj_m61 31 ls st M = mq_k6 M (mj_re (some (.object "PasskeyHouse$Credential")) (.areturn) st) := mj_R6 (r := (.areturn, 1, 0, 0, 0)) rfl rfl
/- 43 PasskeyHouse$Store.copyRecord(I)V -/
theorem s43_0 {d : Nat} {ls : mj_L} {st : List Value} {M : mj_H} : mj_Rn d mj_m43 0 ls st M = mj_Rn d mj_m43 1 ls (.int 0 :: st) M := mj_R0 (r := (.iconst 0, 1, 0, 0, 0)) rfl rfl
theorem s43_1 {d : Nat} {ls : mj_L} {st : List Value} {M : mj_H} : mj_Rn d mj_m43 1 ls st M = mq_k1 d mj_m43 2 M (mj_lo 3 (.istore 2) ls st) := (mj_R1 (r := (.istore_n 2, 1, 0, 0, 0)) rfl rfl).trans (congrArg (mq_k1 d mj_m43 2 M) (mq_sti (k := 2)))
theorem s43_2 {d : Nat} {ls : mj_L} {st : List Value} {M : mj_H} : mj_Rn d mj_m43 2 ls st M = mq_k0 d mj_m43 3 ls M (mj_ldi (mj_lk ls 2) st) := mj_R0 (r := (.iload_n 2, 1, 0, 0, 0)) rfl rfl
theorem s43_3 {d : Nat} {ls : mj_L} {st : List Value} {M : mj_H} : mj_Rn d mj_m43 3 ls st M = mq_k0 d mj_m43 4 ls M (mj_lda (mj_lk ls 0) st) := mj_R0 (r := (.aload_n 0, 1, 0, 0, 0)) rfl rfl
theorem s43_4 {d : Nat} {ls : mj_L} {st : List Value} {M : mj_H} : mj_Rn d mj_m43 4 ls st M = mq_k0 d mj_m43 7 ls M (mq_gf 8 1 st M) := (mj_R3 (r := (.getfield 20, 3, 8, 1, 16484)) rfl rfl).trans (congrArg (mq_k0 d mj_m43 7 ls M) mq_gf_eq)
theorem s43_7 {d : Nat} {ls : mj_L} {st : List Value} {M : mj_H} : mj_Rn (d + 1) mj_m43 7 ls st M = mq_k5a (d + 1) mj_m43 10 ls M 9 (mq_cb 0 0 1 st M) := mj_R5e (r := (.invokevirtual 58, 3, 0, 9, 12288)) (z := mj_m9) rfl rfl (by decide) (by decide) rfl
theorem s43_10 {d : Nat} {ls : mj_L} {st : List Value} {M : mj_H} : mj_Rn d mj_m43 10 ls st M = mq_k2 d mj_m43 ls M (mj_br (.if_icmp .ge 27) 10 st) := mj_R2 (r := (.if_icmp .ge 27, 3, 0, 0, 0)) rfl rfl
theorem s43_13 {d : Nat} {ls : mj_L} {st : List Value} {M : mj_H} : mj_Rn d mj_m43 13 ls st M = mq_k0 d mj_m43 14 ls M (mj_lda (mj_lk ls 0) st) := mj_R0 (r := (.aload_n 0, 1, 0, 0, 0)) rfl rfl
theorem s43_14 {d : Nat} {ls : mj_L} {st : List Value} {M : mj_H} : mj_Rn d mj_m43 14 ls st M = mq_k0 d mj_m43 17 ls M (mq_gf 8 0 st M) := (mj_R3 (r := (.getfield 16, 3, 8, 0, 16480)) rfl rfl).trans (congrArg (mq_k0 d mj_m43 17 ls M) mq_gf_eq)
theorem s43_17 {d : Nat} {ls : mj_L} {st : List Value} {M : mj_H} : mj_Rn d mj_m43 17 ls st M = mq_k0 d mj_m43 18 ls M (mj_ldi (mj_lk ls 1) st) := mj_R0 (r := (.iload_n 1, 1, 0, 0, 0)) rfl rfl
theorem s43_18 {d : Nat} {ls : mj_L} {st : List Value} {M : mj_H} : mj_Rn d mj_m43 18 ls st M = mq_k0 d mj_m43 19 ls M (mj_ldi (mj_lk ls 2) st) := mj_R0 (r := (.iload_n 2, 1, 0, 0, 0)) rfl rfl
theorem s43_19 {d : Nat} {ls : mj_L} {st : List Value} {M : mj_H} : mj_Rn d mj_m43 19 ls st M = mq_k0 d mj_m43 20 ls M (mj_pu .iadd ls st) := mj_R0 (r := (.iadd, 1, 0, 0, 0)) rfl rfl
theorem s43_20 {d : Nat} {ls : mj_L} {st : List Value} {M : mj_H} : mj_Rn d mj_m43 20 ls st M = mq_k0 d mj_m43 21 ls M (mj_lda (mj_lk ls 0) st) := mj_R0 (r := (.aload_n 0, 1, 0, 0, 0)) rfl rfl
theorem s43_21 {d : Nat} {ls : mj_L} {st : List Value} {M : mj_H} : mj_Rn d mj_m43 21 ls st M = mq_k0 d mj_m43 24 ls M (mq_gf 8 1 st M) := (mj_R3 (r := (.getfield 20, 3, 8, 1, 16484)) rfl rfl).trans (congrArg (mq_k0 d mj_m43 24 ls M) mq_gf_eq)
theorem s43_24 {d : Nat} {ls : mj_L} {st : List Value} {M : mj_H} : mj_Rn d mj_m43 24 ls st M = mq_k0 d mj_m43 25 ls M (mj_ldi (mj_lk ls 2) st) := mj_R0 (r := (.iload_n 2, 1, 0, 0, 0)) rfl rfl
theorem s43_25 {d : Nat} {ls : mj_L} {st : List Value} {M : mj_H} : mj_Rn (d + 1) mj_m43 25 ls st M = mq_k5a (d + 1) mj_m43 28 ls M 14 (mq_cb 0 1 1 st M) := mj_R5e (r := (.invokevirtual 62, 3, 0, 14, 12289)) (z := mj_m14) rfl rfl (by decide) (by decide) rfl
theorem s43_28 {d : Nat} {ls : mj_L} {st : List Value} {M : mj_H} : mj_Rn (d + 1) mj_m43 28 ls st M = mq_k5a (d + 1) mj_m43 31 ls M 16 (mq_cb 0 2 1 st M) := mj_R5e (r := (.invokevirtual 66, 3, 0, 16, 12290)) (z := mj_m16) rfl rfl (by decide) (by decide) rfl
theorem s43_31 {d : Nat} {ls : mj_L} {st : List Value} {M : mj_H} : mj_Rn d mj_m43 31 ls st M = mq_k1 d mj_m43 34 M (mj_lo 3 (.iinc 2 1) ls st) := mj_R1 (r := (.iinc 2 1, 3, 0, 0, 0)) rfl rfl
theorem s43_34 {d : Nat} {ls : mj_L} {st : List Value} {M : mj_H} : mj_Rn d mj_m43 34 ls st M = mj_Rn d mj_m43 2 ls st M := mj_R2 (r := (.goto (-32), 3, 0, 0, 0)) rfl rfl
theorem s43_37 {d : Nat} {ls : mj_L} {st : List Value} {M : mj_H} : mj_Rn d mj_m43 37 ls st M = mq_k6 M (mj_re none (.return_) st) := mj_R6 (r := (.return_, 1, 0, 0, 0)) rfl rfl
theorem c60 {d : Nat} {a0 : Nat} {M : mj_H} : mj_V (d + 1) 60 [.ref a0] M = mj_Rn d mj_m60 0 [(0, .ref a0)] [] M := mj_V_go rfl (Nat.le_of_ble_eq_true rfl)
theorem c64 {d : Nat} {a0 : Nat} {x1 : Int32} {M : mj_H} : mj_V (d + 1) 64 [.ref a0, .int x1] M = mj_Rn d mj_m64 0 [(0, .ref a0), (1, .int x1)] [] M := mj_V_go rfl (Nat.le_of_ble_eq_true rfl)
theorem c59 {d : Nat} {a0 : Nat} {x1 : Int32} {M : mj_H} : mj_V (d + 1) 59 [.ref a0, .int x1] M = mj_Rn d mj_m59 0 [(0, .ref a0), (1, .int x1)] [] M := mj_V_go rfl (Nat.le_of_ble_eq_true rfl)
theorem c50 {d : Nat} {a0 : Nat} {M : mj_H} : mj_V (d + 1) 50 [.ref a0] M = mj_Rn d mj_m50 0 [(0, .ref a0)] [] M := mj_V_go rfl (Nat.le_of_ble_eq_true rfl)
theorem c61 {d : Nat} {a0 : Nat} {x1 : Int32} {M : mj_H} : mj_V (d + 1) 61 [.ref a0, .int x1] M = mj_Rn d mj_m61 0 [(0, .ref a0), (1, .int x1)] [] M := mj_V_go rfl (Nat.le_of_ble_eq_true rfl)
theorem c43 {d : Nat} {a0 : Nat} {x1 : Int32} {M : mj_H} : mj_V (d + 1) 43 [.ref a0, .int x1] M = mj_Rn d mj_m43 0 [(0, .ref a0), (1, .int x1)] [] M := mj_V_go rfl (Nat.le_of_ble_eq_true rfl)
def so (κ : Nat) (s : Fl) : mj_C := (8, [.ref (κ + 2), .ref (κ + 4), .ref (κ + 6), .ref (κ + 15), .int (if s.2.1 then 1 else 0), .int s.2.2.1, .int s.2.2.2.1, .int (nI s.2.2.2.2.1), .int (nI s.2.2.2.2.2.1), .int (nI s.2.2.2.2.2.2.1), .int s.2.2.2.2.2.2.2.1, .int s.2.2.2.2.2.2.2.2.1, .int s.2.2.2.2.2.2.2.2.2.1, .int s.2.2.2.2.2.2.2.2.2.2.1, .int (nI s.2.2.2.2.2.2.2.2.2.2.2.length)])
def cc (c : Cr) : mj_C := (2, [.int c.1, .int c.2.1, .int c.2.2.1, .long (bt_lo c.2.2.2.1), .int (nI c.2.2.2.1.length), .int c.2.2.2.2])
/-- the store of the key at κ -/
def ks (M : mj_H) (κ : Nat) (s : Fl) (r : List Int32) : Prop := (25 ≤ κ) ∧ (M[κ + 1]? = some (so κ s)) ∧ (bb M (κ + 2) (κ + 3) 512 s.1) ∧ (bb M (κ + 4) (κ + 5) 24 r) ∧ (M[κ + 6]? = some (1007, [.ref (κ + 7), .ref (κ + 8), .ref (κ + 9), .ref (κ + 10), .ref (κ + 11), .ref (κ + 12), .ref (κ + 13), .ref (κ + 14)])) ∧ (∀ i c, s.2.2.2.2.2.2.2.2.2.2.2[i]? = some c → M[κ + 7 + i]? = some (cc c)) ∧ (∀ i, i < 8 → ∃ c, M[κ + 7 + i]? = some (cc c)) ∧ (s.2.2.2.2.2.2.2.2.2.2.2.length ≤ 8) ∧ (M[1]? = some (1000, [.int 0, .int 4, .int 4, .int 1, .int 8, .int 13])) ∧ (M[2]? = some (1000, [.int 0, .int 4, .int 4, .int 1, .int 8, .int 20]))
theorem ks.lo {M : mj_H} {κ : Nat} {s : Fl} {r : List Int32} (hh_ : ks M κ s r) : 25 ≤ κ := hh_.1
theorem ks.ob {M : mj_H} {κ : Nat} {s : Fl} {r : List Int32} (hh_ : ks M κ s r) : M[κ + 1]? = some (so κ s) := hh_.2.1
theorem ks.ce {M : mj_H} {κ : Nat} {s : Fl} {r : List Int32} (hh_ : ks M κ s r) : bb M (κ + 2) (κ + 3) 512 s.1 := hh_.2.2.1
theorem ks.rb {M : mj_H} {κ : Nat} {s : Fl} {r : List Int32} (hh_ : ks M κ s r) : bb M (κ + 4) (κ + 5) 24 r := hh_.2.2.2.1
theorem ks.ca {M : mj_H} {κ : Nat} {s : Fl} {r : List Int32} (hh_ : ks M κ s r) : M[κ + 6]? = some (1007, [.ref (κ + 7), .ref (κ + 8), .ref (κ + 9), .ref (κ + 10), .ref (κ + 11), .ref (κ + 12), .ref (κ + 13), .ref (κ + 14)]) := hh_.2.2.2.2.1
theorem ks.cr {M : mj_H} {κ : Nat} {s : Fl} {r : List Int32} (hh_ : ks M κ s r) : ∀ i c, s.2.2.2.2.2.2.2.2.2.2.2[i]? = some c → M[κ + 7 + i]? = some (cc c) := hh_.2.2.2.2.2.1
theorem ks.cx {M : mj_H} {κ : Nat} {s : Fl} {r : List Int32} (hh_ : ks M κ s r) : ∀ i, i < 8 → ∃ c, M[κ + 7 + i]? = some (cc c) := hh_.2.2.2.2.2.2.1
theorem ks.l8 {M : mj_H} {κ : Nat} {s : Fl} {r : List Int32} (hh_ : ks M κ s r) : s.2.2.2.2.2.2.2.2.2.2.2.length ≤ 8 := hh_.2.2.2.2.2.2.2.1
theorem ks.s1 {M : mj_H} {κ : Nat} {s : Fl} {r : List Int32} (hh_ : ks M κ s r) : M[1]? = some (1000, [.int 0, .int 4, .int 4, .int 1, .int 8, .int 13]) := hh_.2.2.2.2.2.2.2.2.1
theorem ks.s2 {M : mj_H} {κ : Nat} {s : Fl} {r : List Int32} (hh_ : ks M κ s r) : M[2]? = some (1000, [.int 0, .int 4, .int 4, .int 1, .int 8, .int 20]) := hh_.2.2.2.2.2.2.2.2.2
theorem ks_mk_ {M : mj_H} {κ : Nat} {s : Fl} {r : List Int32} (f_0_ : 25 ≤ κ) (f_1_ : M[κ + 1]? = some (so κ s)) (f_2_ : bb M (κ + 2) (κ + 3) 512 s.1) (f_3_ : bb M (κ + 4) (κ + 5) 24 r) (f_4_ : M[κ + 6]? = some (1007, [.ref (κ + 7), .ref (κ + 8), .ref (κ + 9), .ref (κ + 10), .ref (κ + 11), .ref (κ + 12), .ref (κ + 13), .ref (κ + 14)])) (f_5_ : ∀ i c, s.2.2.2.2.2.2.2.2.2.2.2[i]? = some c → M[κ + 7 + i]? = some (cc c)) (f_6_ : ∀ i, i < 8 → ∃ c, M[κ + 7 + i]? = some (cc c)) (f_7_ : s.2.2.2.2.2.2.2.2.2.2.2.length ≤ 8) (f_8_ : M[1]? = some (1000, [.int 0, .int 4, .int 4, .int 1, .int 8, .int 13])) (f_9_ : M[2]? = some (1000, [.int 0, .int 4, .int 4, .int 1, .int 8, .int 20])) : ks M κ s r := And.intro f_0_ (And.intro f_1_ (And.intro f_2_ (And.intro f_3_ (And.intro f_4_ (And.intro f_5_ (And.intro f_6_ (And.intro f_7_ (And.intro f_8_ f_9_))))))))
/-- only the store's cells have changed -/
def kf (κ : Nat) (M M' : mj_H) : Prop := M'.length = M.length ∧ ∀ c, ¬ (κ + 1 ≤ c ∧ c ≤ κ + 14) → M'[c]? = M[c]?
theorem kf.rf {κ : Nat} {M : mj_H} : kf κ M M := ⟨rfl, fun _ _ => rfl⟩
theorem kf.tr {κ : Nat} {M M' M'' : mj_H} (h1 : kf κ M M') (h2 : kf κ M' M'') : kf κ M M'' := ⟨h2.1.trans h1.1, fun c hc => (h2.2 c hc).trans (h1.2 c hc)⟩
theorem kf.of {κ : Nat} {S : List Nat} {M M' : mj_H} (h : mq_fr S M M') (hs : ∀ c ∈ S, κ + 1 ≤ c ∧ c ≤ κ + 14) : kf κ M M' := ⟨h.1, fun c hc => h.2 c (fun z => hc (hs c z))⟩
theorem kf.st {κ a : Nat} {M : mj_H} {q : mj_C} (ha : κ + 1 ≤ a ∧ a ≤ κ + 14) : kf κ M (M.set a q) := ⟨by simp, fun c hc => List.getElem?_set_ne (fun z : a = c => hc (by rw [← z]; exact ha))⟩
/-- other cells stand, so the store does -/
theorem ks.fr {M M' : mj_H} {κ : Nat} {s : Fl} {r : List Int32} (h : ks M κ s r) (hf : ∀ c, (κ + 1 ≤ c ∧ c ≤ κ + 14) ∨ c = 1 ∨ c = 2 → M'[c]? = M[c]?) : ks M' κ s r :=
  (ks_mk_ h.lo ((hf _ (by omega)).trans h.ob) (h.ce.fr (hf _ (by omega)) (hf _ (by omega))) (h.rb.fr (hf _ (by omega)) (hf _ (by omega))) ((hf _ (by omega)).trans h.ca) (fun i c hi => by
    have := h.l8
    have := (List.getElem?_eq_some_iff.mp hi).1
    exact (hf _ (by omega)).trans (h.cr i c hi)) (fun i hi => by obtain ⟨c, hc⟩ := h.cx i hi; exact ⟨c, (hf _ (by omega)).trans hc⟩) h.l8 ((hf _ (by omega)).trans h.s1) ((hf _ (by omega)).trans h.s2))
theorem ks.set {M : mj_H} {κ : Nat} {s s' : Fl} {r : List Int32} (h : ks M κ s r) (hf : s'.1 = s.1) (hc : s'.2.2.2.2.2.2.2.2.2.2.2 = s.2.2.2.2.2.2.2.2.2.2.2) : ks (M.set (κ + 1) (so κ s')) κ s' r := by
  have hl := mq_lt h.ob
  have e : ∀ c, c ≠ κ + 1 → (M.set (κ + 1) (so κ s'))[c]? = M[c]? := fun c hc => List.getElem?_set_ne (fun z => hc z.symm)
  have hlo := h.lo
  refine (ks_mk_ h.lo (List.getElem?_set_self hl) ?_ (h.rb.fr (e _ (by omega)) (e _ (by omega))) ((e _ (by omega)).trans h.ca) ?_ ?_ (by rw [hc]; exact h.l8) ((e _ (by omega)).trans h.s1) ((e _ (by omega)).trans h.s2))
  · rw [hf]; exact h.ce.fr (e _ (by omega)) (e _ (by omega))
  · intro i c hi
    rw [hc] at hi
    exact (e _ (by omega)).trans (h.cr i c hi)
  · intro i hi
    obtain ⟨c, hc⟩ := h.cx i hi
    exact ⟨c, (e _ (by omega)).trans hc⟩
/-- fewer credentials stand -/
theorem ks.set0 {M : mj_H} {κ : Nat} {s s' : Fl} {r : List Int32} (h : ks M κ s r) (hf : s'.1 = s.1) (hc : s'.2.2.2.2.2.2.2.2.2.2.2 = []) : ks (M.set (κ + 1) (so κ s')) κ s' r := by
  have h1 : ks M κ s r := h
  have hl := mq_lt h.ob
  have e : ∀ c, c ≠ κ + 1 → (M.set (κ + 1) (so κ s'))[c]? = M[c]? := fun c hc => List.getElem?_set_ne (fun z => hc z.symm)
  have hlo := h.lo
  refine (ks_mk_ h.lo (List.getElem?_set_self hl) ?_ (h.rb.fr (e _ (by omega)) (e _ (by omega))) ((e _ (by omega)).trans h.ca) ?_ ?_ (by rw [hc]; simp) ((e _ (by omega)).trans h.s1) ((e _ (by omega)).trans h.s2))
  · rw [hf]; exact h.ce.fr (e _ (by omega)) (e _ (by omega))
  · intro i c hi
    rw [hc] at hi
    cases hi
  · intro i hi
    obtain ⟨c, hc⟩ := h.cx i hi
    exact ⟨c, (e _ (by omega)).trans hc⟩
theorem ks.flash {M M' : mj_H} {κ : Nat} {s s' : Fl} {r : List Int32} (h : ks M κ s r) (hb : bb M' (κ + 2) (κ + 3) 512 s'.1) (hf : mq_fr [κ + 2, κ + 3] M M') (hs : s' = ((s'.1, (s.2.1, (s.2.2.1, (s.2.2.2.1, (s.2.2.2.2.1, (s.2.2.2.2.2.1, (s.2.2.2.2.2.2.1, s.2.2.2.2.2.2.2))))))) : Fl)) : ks M' κ s' r := by
  have e : ∀ c, c ≠ κ + 2 → c ≠ κ + 3 → M'[c]? = M[c]? := fun c h1 h2 => hf.2 c (by simp [h1, h2])
  have hlo := h.lo
  have hst : s'.2.2.2.2.2.2.2 = s.2.2.2.2.2.2.2 := by rw [hs]
  refine (ks_mk_ h.lo ?_ hb (h.rb.fr (e _ (by omega) (by omega)) (e _ (by omega) (by omega))) ((e _ (by omega) (by omega)).trans h.ca) ?_ ?_ (by rw [hst]; exact h.l8) ((e _ (by omega) (by omega)).trans h.s1) ((e _ (by omega) (by omega)).trans h.s2))
  · rw [e _ (by omega) (by omega), h.ob, hs]; rfl
  · intro i c hi
    rw [hst] at hi
    exact (e _ (by omega) (by omega)).trans (h.cr i c hi)
  · intro i hi
    obtain ⟨c, hc⟩ := h.cx i hi
    exact ⟨c, (e _ (by omega) (by omega)).trans hc⟩
theorem ks.record {M M' : mj_H} {κ : Nat} {s : Fl} {r r' : List Int32} (h : ks M κ s r) (hb : bb M' (κ + 4) (κ + 5) 24 r') (hf : mq_fr [κ + 4, κ + 5] M M') : ks M' κ s r' := by
  have e : ∀ c, c ≠ κ + 4 → c ≠ κ + 5 → M'[c]? = M[c]? := fun c h1 h2 => hf.2 c (by simp [h1, h2])
  have hlo := h.lo
  refine (ks_mk_ h.lo ((e _ (by omega) (by omega)).trans h.ob) (h.ce.fr (e _ (by omega) (by omega)) (e _ (by omega) (by omega))) hb ((e _ (by omega) (by omega)).trans h.ca) ?_ ?_ h.l8 ((e _ (by omega) (by omega)).trans h.s1) ((e _ (by omega) (by omega)).trans h.s2))
  · intro i c hi
    exact (e _ (by omega) (by omega)).trans (h.cr i c hi)
  · intro i hi
    obtain ⟨c, hc⟩ := h.cx i hi
    exact ⟨c, (e _ (by omega) (by omega)).trans hc⟩
def on1 (b : Bool) : Int32 := if b then 1 else 0
theorem st_done {d κ : Nat} {s : Fl} {r : List Int32} {M : mj_H} (h : ks M κ s r) (hon : s.2.1 = true) : ∃ M', mj_V (d + 1) 60 [.ref (κ + 1)] M = some (some (.int (if s.2.2.2.1 = 0 then 0 else 1)), M') ∧ ks M' κ (if s.2.2.2.1 = 0 then s.off else s.act) r ∧ kf κ M M' := by
  have hl := mq_lt h.ob
  have hlo := h.lo
  have hob := h.ob
  unfold so at hob
  by_cases h0 : s.2.2.2.1 = 0
  · refine ⟨M.set (κ + 1) (so κ s.off), ?_, by rw [if_pos h0]; exact h.set rfl rfl, kf.st (by omega)⟩
    have e : so κ s.off = (8, [.ref (κ + 2), .ref (κ + 4), .ref (κ + 6), .ref (κ + 15), .int 0, .int s.2.2.1, .int (-1), .int (nI s.2.2.2.2.1), .int (nI s.2.2.2.2.2.1), .int (nI s.2.2.2.2.2.2.1), .int s.2.2.2.2.2.2.2.1, .int s.2.2.2.2.2.2.2.2.1, .int s.2.2.2.2.2.2.2.2.2.1, .int s.2.2.2.2.2.2.2.2.2.2.1, .int (nI s.2.2.2.2.2.2.2.2.2.2.2.length)]) := rfl
    rw [e]
    have hh : ¬ κ + 1 < 25 := by omega
    simp (disch := (first | omega | decide)) [c60, s60_0, s60_1, s60_4, s60_7, s60_8, s60_9, s60_10, s60_13, s60_16, s60_17, s60_18, s60_21, s60_22, s60_23, s60_26, s60_27, s60_28, s60_29, s60_32, s60_35, s60_36, s60_37, s60_40, s60_41, s60_42, s60_45, s60_46, s60_47, s60_50, s60_51, s60_52, s60_55, s60_56, mq_k0s, mq_k1s, mq_k2s, mq_k4s, mq_k5s, mq_k5n, mq_k5as, mq_k6s, mj_pu, mj_lo, mj_br, mj_hr, mj_hw, mq_gf, mq_len, mq_al, mq_pf, mq_ok, mj_re, mq_lkm, mq_lkn, mj_ldi, mj_ldl, mj_lda, mj_ii, mj_ll, mj_li, mj_i1, ms_1, ms_2, f1_n, f1_i, f1_r, f1_u, f1_l, f2_n, f2_i, f2_r, f2_u, f2_l, mj_tg, mj_c1, mj_c2, mj_ar, mj_aw, mq_cb, mq_oi, mj_rm, Value.category, -getElem?_pos, List.getElem?_cons_zero, decide_eq_true, decide_eq_false, nl_lt, nl_le, ln_lt, ln_le, nl_eq, ln_eq, nl_add, ln_add, nl_sub, ln_mul, nI_sub, nI_mul, nI_add, nI_lt_iff, nI_le_iff, nI_inj, nI_num, mq_ix, nI_1, hob, hon, h0, narrow, narrow_b0, narrow_b1, mj_E, hl, List.getElem?_set, hh]
  · refine ⟨M.set (κ + 1) (so κ s.act), ?_, by rw [if_neg h0]; exact h.set rfl rfl, kf.st (by omega)⟩
    have hh : ¬ κ + 1 < 25 := by omega
    by_cases h1 : 0 < s.2.2.2.1
    · have e : so κ s.act = (8, [.ref (κ + 2), .ref (κ + 4), .ref (κ + 6), .ref (κ + 15), .int 1, .int (s.2.2.1 + 1), .int (s.2.2.2.1 - 1), .int (nI s.2.2.2.2.1), .int (nI s.2.2.2.2.2.1), .int (nI s.2.2.2.2.2.2.1), .int s.2.2.2.2.2.2.2.1, .int s.2.2.2.2.2.2.2.2.1, .int s.2.2.2.2.2.2.2.2.2.1, .int s.2.2.2.2.2.2.2.2.2.2.1, .int (nI s.2.2.2.2.2.2.2.2.2.2.2.length)]) := by simp [so, Fl.act, h1, hon]
      rw [e]
      have hle : ¬ s.2.2.2.1 ≤ 0 := by rw [Int32.le_iff_toInt_le]; rw [Int32.lt_iff_toInt_lt] at h1; omega
      simp (disch := (first | omega | decide)) [c60, s60_0, s60_1, s60_4, s60_7, s60_8, s60_9, s60_10, s60_13, s60_16, s60_17, s60_18, s60_21, s60_22, s60_23, s60_26, s60_27, s60_28, s60_29, s60_32, s60_35, s60_36, s60_37, s60_40, s60_41, s60_42, s60_45, s60_46, s60_47, s60_50, s60_51, s60_52, s60_55, s60_56, mq_k0s, mq_k1s, mq_k2s, mq_k4s, mq_k5s, mq_k5n, mq_k5as, mq_k6s, mj_pu, mj_lo, mj_br, mj_hr, mj_hw, mq_gf, mq_len, mq_al, mq_pf, mq_ok, mj_re, mq_lkm, mq_lkn, mj_ldi, mj_ldl, mj_lda, mj_ii, mj_ll, mj_li, mj_i1, ms_1, ms_2, f1_n, f1_i, f1_r, f1_u, f1_l, f2_n, f2_i, f2_r, f2_u, f2_l, mj_tg, mj_c1, mj_c2, mj_ar, mj_aw, mq_cb, mq_oi, mj_rm, Value.category, -getElem?_pos, List.getElem?_cons_zero, decide_eq_true, decide_eq_false, nl_lt, nl_le, ln_lt, ln_le, nl_eq, ln_eq, nl_add, ln_add, nl_sub, ln_mul, nI_sub, nI_mul, nI_add, nI_lt_iff, nI_le_iff, nI_inj, nI_num, mq_ix, nI_1, hob, hon, h0, h1, hle, narrow, narrow_b0, narrow_b1, mj_E, hl, List.getElem?_set, hh]
    · have e : so κ s.act = (8, [.ref (κ + 2), .ref (κ + 4), .ref (κ + 6), .ref (κ + 15), .int 1, .int (s.2.2.1 + 1), .int s.2.2.2.1, .int (nI s.2.2.2.2.1), .int (nI s.2.2.2.2.2.1), .int (nI s.2.2.2.2.2.2.1), .int s.2.2.2.2.2.2.2.1, .int s.2.2.2.2.2.2.2.2.1, .int s.2.2.2.2.2.2.2.2.2.1, .int s.2.2.2.2.2.2.2.2.2.2.1, .int (nI s.2.2.2.2.2.2.2.2.2.2.2.length)]) := by simp [so, Fl.act, h1, hon]
      rw [e]
      have hle : s.2.2.2.1 ≤ 0 := by rw [Int32.le_iff_toInt_le]; rw [Int32.lt_iff_toInt_lt] at h1; omega
      simp (disch := (first | omega | decide)) [c60, s60_0, s60_1, s60_4, s60_7, s60_8, s60_9, s60_10, s60_13, s60_16, s60_17, s60_18, s60_21, s60_22, s60_23, s60_26, s60_27, s60_28, s60_29, s60_32, s60_35, s60_36, s60_37, s60_40, s60_41, s60_42, s60_45, s60_46, s60_47, s60_50, s60_51, s60_52, s60_55, s60_56, mq_k0s, mq_k1s, mq_k2s, mq_k4s, mq_k5s, mq_k5n, mq_k5as, mq_k6s, mj_pu, mj_lo, mj_br, mj_hr, mj_hw, mq_gf, mq_len, mq_al, mq_pf, mq_ok, mj_re, mq_lkm, mq_lkn, mj_ldi, mj_ldl, mj_lda, mj_ii, mj_ll, mj_li, mj_i1, ms_1, ms_2, f1_n, f1_i, f1_r, f1_u, f1_l, f2_n, f2_i, f2_r, f2_u, f2_l, mj_tg, mj_c1, mj_c2, mj_ar, mj_aw, mq_cb, mq_oi, mj_rm, Value.category, -getElem?_pos, List.getElem?_cons_zero, decide_eq_true, decide_eq_false, nl_lt, nl_le, ln_lt, ln_le, nl_eq, ln_eq, nl_add, ln_add, nl_sub, ln_mul, nI_sub, nI_mul, nI_add, nI_lt_iff, nI_le_iff, nI_inj, nI_num, mq_ix, nI_1, hob, hon, h0, h1, hle, narrow, narrow_b0, narrow_b1, mj_E, hl, List.getElem?_set, hh]
theorem l_lay {d κ p : Nat} {r : List Int32} (hr : p + r.length ≤ 512) : ∀ (bs : List Int32) (j : Nat) (s : Fl) (M : mj_H), r.drop j = bs → j ≤ r.length → ks M κ s r → s.2.1 = true → s.1.length = 512 → ∃ M', mj_Rn (d + 1) mj_m64 2 [(2, .int (nI j)), (0, .ref (κ + 1)), (1, .int (nI p))] [] M = some (some (.int (on1 (fs_lay bs (p + j) s).2)), M') ∧ ks M' κ (fs_lay bs (p + j) s).1 r ∧ kf κ M M' := by
  intro bs
  induction bs with
  | nil =>
    intro j s M hd hj h hon hfl
    have hjl : r.length ≤ j := List.drop_eq_nil_iff.mp hd
    refine ⟨M, ?_, h, kf.rf⟩
    have v1 := v_size (d := d) h.rb
    have hob := h.ob
    unfold so at hob
    have hra := h.rb.2.2.2.2.2.1
    simp (disch := (first | omega | decide)) [s64_0, s64_1, s64_2, s64_3, s64_4, s64_7, s64_10, s64_13, s64_14, s64_17, s64_20, s64_21, s64_22, s64_23, s64_26, s64_27, s64_28, s64_29, s64_30, s64_33, s64_34, s64_37, s64_40, s64_43, s64_46, s64_47, mq_k0s, mq_k1s, mq_k2s, mq_k4s, mq_k5s, mq_k5n, mq_k5as, mq_k6s, mj_pu, mj_lo, mj_br, mj_hr, mj_hw, mq_gf, mq_len, mq_al, mq_pf, mq_ok, mj_re, mq_lkm, mq_lkn, mj_ldi, mj_ldl, mj_lda, mj_ii, mj_ll, mj_li, mj_i1, ms_1, ms_2, f1_n, f1_i, f1_r, f1_u, f1_l, f2_n, f2_i, f2_r, f2_u, f2_l, mj_tg, mj_c1, mj_c2, mj_ar, mj_aw, mq_cb, mq_oi, mj_rm, Value.category, -getElem?_pos, List.getElem?_cons_zero, decide_eq_true, decide_eq_false, nl_lt, nl_le, ln_lt, ln_le, nl_eq, ln_eq, nl_add, ln_add, nl_sub, ln_mul, nI_sub, nI_mul, nI_add, nI_lt_iff, nI_le_iff, nI_inj, nI_num, mq_ix, nI_1, hob, hra, v1, fs_lay, on1, narrow_b1]
  | cons b bs ih =>
    intro j s M hd hj h hon hfl
    have hjl : j < r.length := by
      apply Nat.lt_of_not_le
      intro z
      rw [List.drop_eq_nil_of_le z] at hd
      cases hd
    have hb : r[j]? = some b := by rw [← List.head?_drop, hd]; rfl
    have hb' : bt_at r (nI j) = b := by rw [bt_at_nI (by omega)]; simp [List.getD, hb]
    have v1 := v_size (d := d) h.rb
    have hob := h.ob
    unfold so at hob
    have hra := h.rb.2.2.2.2.2.1
    obtain ⟨M1, p1, r1, f1⟩ := st_done (d := d) h hon
    rw [s64_2]
    by_cases h0 : s.2.2.2.1 = 0
    · rw [if_pos h0] at p1 r1
      refine ⟨M1, ?_, by rw [fs_lay, if_pos h0]; exact r1, f1⟩
      simp (disch := (first | omega | decide)) [s64_0, s64_1, s64_3, s64_4, s64_7, s64_10, s64_13, s64_14, s64_17, s64_20, s64_21, s64_22, s64_23, s64_26, s64_27, s64_28, s64_29, s64_30, s64_33, s64_34, s64_37, s64_40, s64_43, s64_46, s64_47, mq_k0s, mq_k1s, mq_k2s, mq_k4s, mq_k5s, mq_k5n, mq_k5as, mq_k6s, mj_pu, mj_lo, mj_br, mj_hr, mj_hw, mq_gf, mq_len, mq_al, mq_pf, mq_ok, mj_re, mq_lkm, mq_lkn, mj_ldi, mj_ldl, mj_lda, mj_ii, mj_ll, mj_li, mj_i1, ms_1, ms_2, f1_n, f1_i, f1_r, f1_u, f1_l, f2_n, f2_i, f2_r, f2_u, f2_l, mj_tg, mj_c1, mj_c2, mj_ar, mj_aw, mq_cb, mq_oi, mj_rm, Value.category, -getElem?_pos, List.getElem?_cons_zero, decide_eq_true, decide_eq_false, nl_lt, nl_le, ln_lt, ln_le, nl_eq, ln_eq, nl_add, ln_add, nl_sub, ln_mul, nI_sub, nI_mul, nI_add, nI_lt_iff, nI_le_iff, nI_inj, nI_num, mq_ix, nI_1, hob, hra, v1, p1, fs_lay, h0, on1, narrow_b0]
    · rw [if_neg h0] at p1 r1
      have b8 := h.rb.2.2.2.2.1 b (List.mem_of_getElem? hb)
      obtain ⟨M2, p2, r2, f2⟩ := v_put (d := d) (k := p + j) r1.ce (show p + j < s.act.1.length by show _ < s.1.length; omega) b
      rw [b8] at r2
      have k2 : ks M2 κ ((s.1.set (p + j) b, (s.act.2.1, (s.act.2.2.1, (s.act.2.2.2.1, (s.act.2.2.2.2.1, (s.act.2.2.2.2.2.1, (s.act.2.2.2.2.2.2.1, s.act.2.2.2.2.2.2.2))))))) : Fl) r := r1.flash r2 (f2.mono (by simp)) rfl
      obtain ⟨M3, p3, r3, f3⟩ := ih (j + 1) _ M2 (by rw [← List.drop_drop, hd]; rfl) (by omega) k2 hon (by simp [hfl])
      have v2 := v_item (d := d) r1.rb (nI j)
      rw [hb'] at v2
      have hob1 := r1.ob
      unfold so at hob1
      have hra1 := r1.rb.2.2.2.2.2.1
      have hca1 := r1.ce.2.2.2.2.2.1
      refine ⟨M3, ?_, by rw [fs_lay, if_neg h0]; exact r3, f1.tr ((kf.of f2 (by simp)).tr f3)⟩
      rw [fs_lay, if_neg h0]
      simp (disch := (first | omega | decide)) [s64_0, s64_1, s64_3, s64_4, s64_7, s64_10, s64_13, s64_14, s64_17, s64_20, s64_21, s64_22, s64_23, s64_26, s64_27, s64_28, s64_29, s64_30, s64_33, s64_34, s64_37, s64_40, s64_43, s64_46, s64_47, mq_k0s, mq_k1s, mq_k2s, mq_k4s, mq_k5s, mq_k5n, mq_k5as, mq_k6s, mj_pu, mj_lo, mj_br, mj_hr, mj_hw, mq_gf, mq_len, mq_al, mq_pf, mq_ok, mj_re, mq_lkm, mq_lkn, mj_ldi, mj_ldl, mj_lda, mj_ii, mj_ll, mj_li, mj_i1, ms_1, ms_2, f1_n, f1_i, f1_r, f1_u, f1_l, f2_n, f2_i, f2_r, f2_u, f2_l, mj_tg, mj_c1, mj_c2, mj_ar, mj_aw, mq_cb, mq_oi, mj_rm, Value.category, -getElem?_pos, List.getElem?_cons_zero, decide_eq_true, decide_eq_false, nl_lt, nl_le, ln_lt, ln_le, nl_eq, ln_eq, nl_add, ln_add, nl_sub, ln_mul, nI_sub, nI_mul, nI_add, nI_lt_iff, nI_le_iff, nI_inj, nI_num, mq_ix, nI_1, hob, hra, v1, p1, hob1, hra1, hca1, v2, p2]
      refine mq_wk ?_ p3
      simp [mq_sub, mj_lk]
theorem fs_lay_len : ∀ (bs : List Int32) (p : Nat) (s : Fl), (fs_lay bs p s).1.1.length = s.1.length := by
  intro bs
  induction bs with
  | nil => intro p s; rfl
  | cons b bs ih => intro p s; rw [fs_lay]; split; rfl; rw [ih]; simp
theorem st_lay {d κ p : Nat} {s : Fl} {r : List Int32} {M : mj_H} (h : ks M κ s r) (hr : p + r.length ≤ 512) (hon : s.2.1 = true) (hfl : s.1.length = 512) : ∃ M', mj_V (d + 2) 64 [.ref (κ + 1), .int (nI p)] M = some (some (.int (on1 (fs_lay r p s).2)), M') ∧ ks M' κ (fs_lay r p s).1 r ∧ kf κ M M' := by
  obtain ⟨M1, p1, r1, f1⟩ := l_lay (d := d) hr r 0 s M rfl (by omega) h hon hfl
  refine ⟨M1, ?_, r1, f1⟩
  simp (disch := (first | omega | decide)) [c64, s64_0, s64_1, s64_3, s64_4, s64_7, s64_10, s64_13, s64_14, s64_17, s64_20, s64_21, s64_22, s64_23, s64_26, s64_27, s64_28, s64_29, s64_30, s64_33, s64_34, s64_37, s64_40, s64_43, s64_46, s64_47, mq_k0s, mq_k1s, mq_k2s, mq_k4s, mq_k5s, mq_k5n, mq_k5as, mq_k6s, mj_pu, mj_lo, mj_br, mj_hr, mj_hw, mq_gf, mq_len, mq_al, mq_pf, mq_ok, mj_re, mq_lkm, mq_lkn, mj_ldi, mj_ldl, mj_lda, mj_ii, mj_ll, mj_li, mj_i1, ms_1, ms_2, f1_n, f1_i, f1_r, f1_u, f1_l, f2_n, f2_i, f2_r, f2_u, f2_l, mj_tg, mj_c1, mj_c2, mj_ar, mj_aw, mq_cb, mq_oi, mj_rm, Value.category, -getElem?_pos, List.getElem?_cons_zero, decide_eq_true, decide_eq_false, nl_lt, nl_le, ln_lt, ln_le, nl_eq, ln_eq, nl_add, ln_add, nl_sub, ln_mul, nI_sub, nI_mul, nI_add, nI_lt_iff, nI_le_iff, nI_inj, nI_num, mq_ix, nI_1]
  exact p1
end
/- 72.store2 -/
section
set_option maxRecDepth 512
/-! Class: Store: erasing, composing. -/
/- 44 PasskeyHouse$Store.compose(IIILPasskeyHouse$Credential;)V -/
theorem s44_0 {d : Nat} {ls : mj_L} {st : List Value} {M : mj_H} : mj_Rn d mj_m44 0 ls st M = mq_k0 d mj_m44 1 ls M (mj_lda (mj_lk ls 0) st) := mj_R0 (r := (.aload_n 0, 1, 0, 0, 0)) rfl rfl
theorem s44_1 {d : Nat} {ls : mj_L} {st : List Value} {M : mj_H} : mj_Rn d mj_m44 1 ls st M = mq_k0 d mj_m44 4 ls M (mq_gf 8 1 st M) := (mj_R3 (r := (.getfield 20, 3, 8, 1, 16484)) rfl rfl).trans (congrArg (mq_k0 d mj_m44 4 ls M) mq_gf_eq)
theorem s44_4 {d : Nat} {ls : mj_L} {st : List Value} {M : mj_H} : mj_Rn (d + 1) mj_m44 4 ls st M = mq_k5a (d + 1) mj_m44 7 ls M 12 (mq_cb 0 0 1 st M) := mj_R5e (r := (.invokevirtual 167, 3, 0, 12, 8421)) (z := mj_m12) rfl rfl (by decide) (by decide) rfl
theorem s44_7 {d : Nat} {ls : mj_L} {st : List Value} {M : mj_H} : mj_Rn d mj_m44 7 ls st M = mq_k0 d mj_m44 8 ls M (mj_lda (mj_lk ls 0) st) := mj_R0 (r := (.aload_n 0, 1, 0, 0, 0)) rfl rfl
theorem s44_8 {d : Nat} {ls : mj_L} {st : List Value} {M : mj_H} : mj_Rn d mj_m44 8 ls st M = mq_k0 d mj_m44 11 ls M (mq_gf 8 1 st M) := (mj_R3 (r := (.getfield 20, 3, 8, 1, 16484)) rfl rfl).trans (congrArg (mq_k0 d mj_m44 11 ls M) mq_gf_eq)
theorem s44_11 {d : Nat} {ls : mj_L} {st : List Value} {M : mj_H} : mj_Rn d mj_m44 11 ls st M = mq_k0 d mj_m44 12 ls M (mj_ldi (mj_lk ls 1) st) := mj_R0 (r := (.iload_n 1, 1, 0, 0, 0)) rfl rfl
theorem s44_12 {d : Nat} {ls : mj_L} {st : List Value} {M : mj_H} : mj_Rn (d + 1) mj_m44 12 ls st M = mq_k5a (d + 1) mj_m44 15 ls M 45 (mq_cb 0 1 1 st M) := mj_R5e (r := (.invokevirtual 170, 3, 0, 45, 12295)) (z := mj_m45) rfl rfl (by decide) (by decide) rfl
theorem s44_15 {d : Nat} {ls : mj_L} {st : List Value} {M : mj_H} : mj_Rn d mj_m44 15 ls st M = mq_k0 d mj_m44 16 ls M (mj_ldi (mj_lk ls 1) st) := mj_R0 (r := (.iload_n 1, 1, 0, 0, 0)) rfl rfl
theorem s44_16 {d : Nat} {ls : mj_L} {st : List Value} {M : mj_H} : mj_Rn d mj_m44 16 ls st M = mq_k2 d mj_m44 ls M (mj_br (.tableswitch 161 3 5 #[28, 47, 79]) 16 st) := mj_R2 (r := (.tableswitch 161 3 5 #[28, 47, 79], 28, 0, 0, 0)) rfl rfl
theorem s44_44 {d : Nat} {ls : mj_L} {st : List Value} {M : mj_H} : mj_Rn d mj_m44 44 ls st M = mq_k0 d mj_m44 45 ls M (mj_lda (mj_lk ls 0) st) := mj_R0 (r := (.aload_n 0, 1, 0, 0, 0)) rfl rfl
theorem s44_45 {d : Nat} {ls : mj_L} {st : List Value} {M : mj_H} : mj_Rn d mj_m44 45 ls st M = mq_k0 d mj_m44 48 ls M (mq_gf 8 1 st M) := (mj_R3 (r := (.getfield 20, 3, 8, 1, 16484)) rfl rfl).trans (congrArg (mq_k0 d mj_m44 48 ls M) mq_gf_eq)
theorem s44_48 {d : Nat} {ls : mj_L} {st : List Value} {M : mj_H} : mj_Rn d mj_m44 48 ls st M = mj_Rn d mj_m44 49 ls (.int 1 :: st) M := mj_R0 (r := (.iconst 1, 1, 0, 0, 0)) rfl rfl
theorem s44_49 {d : Nat} {ls : mj_L} {st : List Value} {M : mj_H} : mj_Rn (d + 1) mj_m44 49 ls st M = mq_k5a (d + 1) mj_m44 52 ls M 45 (mq_cb 0 1 1 st M) := mj_R5e (r := (.invokevirtual 170, 3, 0, 45, 12295)) (z := mj_m45) rfl rfl (by decide) (by decide) rfl
theorem s44_52 {d : Nat} {ls : mj_L} {st : List Value} {M : mj_H} : mj_Rn d mj_m44 52 ls st M = mq_k0 d mj_m44 53 ls M (mj_lda (mj_lk ls 0) st) := mj_R0 (r := (.aload_n 0, 1, 0, 0, 0)) rfl rfl
theorem s44_53 {d : Nat} {ls : mj_L} {st : List Value} {M : mj_H} : mj_Rn d mj_m44 53 ls st M = mq_k0 d mj_m44 56 ls M (mq_gf 8 1 st M) := (mj_R3 (r := (.getfield 20, 3, 8, 1, 16484)) rfl rfl).trans (congrArg (mq_k0 d mj_m44 56 ls M) mq_gf_eq)
theorem s44_56 {d : Nat} {ls : mj_L} {st : List Value} {M : mj_H} : mj_Rn d mj_m44 56 ls st M = mq_k0 d mj_m44 57 ls M (mj_ldi (mj_lk ls 2) st) := mj_R0 (r := (.iload_n 2, 1, 0, 0, 0)) rfl rfl
theorem s44_57 {d : Nat} {ls : mj_L} {st : List Value} {M : mj_H} : mj_Rn (d + 1) mj_m44 57 ls st M = mq_k5a (d + 1) mj_m44 60 ls M 45 (mq_cb 0 1 1 st M) := mj_R5e (r := (.invokevirtual 170, 3, 0, 45, 12295)) (z := mj_m45) rfl rfl (by decide) (by decide) rfl
theorem s44_60 {d : Nat} {ls : mj_L} {st : List Value} {M : mj_H} : mj_Rn d mj_m44 60 ls st M = mj_Rn d mj_m44 195 ls st M := mj_R2 (r := (.goto 135, 3, 0, 0, 0)) rfl rfl
theorem s44_63 {d : Nat} {ls : mj_L} {st : List Value} {M : mj_H} : mj_Rn d mj_m44 63 ls st M = mq_k0 d mj_m44 64 ls M (mj_lda (mj_lk ls 0) st) := mj_R0 (r := (.aload_n 0, 1, 0, 0, 0)) rfl rfl
theorem s44_64 {d : Nat} {ls : mj_L} {st : List Value} {M : mj_H} : mj_Rn d mj_m44 64 ls st M = mq_k0 d mj_m44 67 ls M (mq_gf 8 1 st M) := (mj_R3 (r := (.getfield 20, 3, 8, 1, 16484)) rfl rfl).trans (congrArg (mq_k0 d mj_m44 67 ls M) mq_gf_eq)
theorem s44_67 {d : Nat} {ls : mj_L} {st : List Value} {M : mj_H} : mj_Rn d mj_m44 67 ls st M = mj_Rn d mj_m44 69 ls (.int 8 :: st) M := mj_R0 (r := (.bipush 8, 2, 0, 0, 0)) rfl rfl
theorem s44_69 {d : Nat} {ls : mj_L} {st : List Value} {M : mj_H} : mj_Rn (d + 1) mj_m44 69 ls st M = mq_k5a (d + 1) mj_m44 72 ls M 45 (mq_cb 0 1 1 st M) := mj_R5e (r := (.invokevirtual 170, 3, 0, 45, 12295)) (z := mj_m45) rfl rfl (by decide) (by decide) rfl
theorem s44_72 {d : Nat} {ls : mj_L} {st : List Value} {M : mj_H} : mj_Rn d mj_m44 72 ls st M = mq_k0 d mj_m44 73 ls M (mj_lda (mj_lk ls 0) st) := mj_R0 (r := (.aload_n 0, 1, 0, 0, 0)) rfl rfl
theorem s44_73 {d : Nat} {ls : mj_L} {st : List Value} {M : mj_H} : mj_Rn d mj_m44 73 ls st M = mq_k0 d mj_m44 76 ls M (mq_gf 8 1 st M) := (mj_R3 (r := (.getfield 20, 3, 8, 1, 16484)) rfl rfl).trans (congrArg (mq_k0 d mj_m44 76 ls M) mq_gf_eq)
theorem s44_76 {d : Nat} {ls : mj_L} {st : List Value} {M : mj_H} : mj_Rn d mj_m44 76 ls st M = mq_k0 d mj_m44 77 ls M (mj_ldi (mj_lk ls 2) st) := mj_R0 (r := (.iload_n 2, 1, 0, 0, 0)) rfl rfl
theorem s44_77 {d : Nat} {ls : mj_L} {st : List Value} {M : mj_H} : mj_Rn d mj_m44 77 ls st M = mq_k0 d mj_m44 78 ls M (mj_pu .i2l ls st) := mj_R0 (r := (.i2l, 1, 0, 0, 0)) rfl rfl
theorem s44_78 {d : Nat} {ls : mj_L} {st : List Value} {M : mj_H} : mj_Rn d mj_m44 78 ls st M = mj_Rn d mj_m44 79 ls (.int 4 :: st) M := mj_R0 (r := (.iconst 4, 1, 0, 0, 0)) rfl rfl
theorem s44_79 {d : Nat} {ls : mj_L} {st : List Value} {M : mj_H} : mj_Rn (d + 1) mj_m44 79 ls st M = mq_k5a (d + 1) mj_m44 82 ls M 10 (mq_cb 0 2 1 st M) := mj_R5e (r := (.invokevirtual 173, 3, 0, 10, 8422)) (z := mj_m10) rfl rfl (by decide) (by decide) rfl
theorem s44_82 {d : Nat} {ls : mj_L} {st : List Value} {M : mj_H} : mj_Rn d mj_m44 82 ls st M = mq_k0 d mj_m44 83 ls M (mj_lda (mj_lk ls 0) st) := mj_R0 (r := (.aload_n 0, 1, 0, 0, 0)) rfl rfl
theorem s44_83 {d : Nat} {ls : mj_L} {st : List Value} {M : mj_H} : mj_Rn d mj_m44 83 ls st M = mq_k0 d mj_m44 86 ls M (mq_gf 8 1 st M) := (mj_R3 (r := (.getfield 20, 3, 8, 1, 16484)) rfl rfl).trans (congrArg (mq_k0 d mj_m44 86 ls M) mq_gf_eq)
theorem s44_86 {d : Nat} {ls : mj_L} {st : List Value} {M : mj_H} : mj_Rn d mj_m44 86 ls st M = mq_k0 d mj_m44 87 ls M (mj_ldi (mj_lk ls 3) st) := mj_R0 (r := (.iload_n 3, 1, 0, 0, 0)) rfl rfl
theorem s44_87 {d : Nat} {ls : mj_L} {st : List Value} {M : mj_H} : mj_Rn d mj_m44 87 ls st M = mq_k0 d mj_m44 88 ls M (mj_pu .i2l ls st) := mj_R0 (r := (.i2l, 1, 0, 0, 0)) rfl rfl
theorem s44_88 {d : Nat} {ls : mj_L} {st : List Value} {M : mj_H} : mj_Rn d mj_m44 88 ls st M = mj_Rn d mj_m44 89 ls (.int 4 :: st) M := mj_R0 (r := (.iconst 4, 1, 0, 0, 0)) rfl rfl
theorem s44_89 {d : Nat} {ls : mj_L} {st : List Value} {M : mj_H} : mj_Rn (d + 1) mj_m44 89 ls st M = mq_k5a (d + 1) mj_m44 92 ls M 10 (mq_cb 0 2 1 st M) := mj_R5e (r := (.invokevirtual 173, 3, 0, 10, 8422)) (z := mj_m10) rfl rfl (by decide) (by decide) rfl
theorem s44_92 {d : Nat} {ls : mj_L} {st : List Value} {M : mj_H} : mj_Rn d mj_m44 92 ls st M = mj_Rn d mj_m44 195 ls st M := mj_R2 (r := (.goto 103, 3, 0, 0, 0)) rfl rfl
theorem s44_95 {d : Nat} {ls : mj_L} {st : List Value} {M : mj_H} : mj_Rn d mj_m44 95 ls st M = mq_k0 d mj_m44 97 ls M (mj_lda (mj_lk ls 4) st) := mj_R0 (r := (.aload 4, 2, 0, 0, 0)) rfl rfl
theorem s44_97 {d : Nat} {ls : mj_L} {st : List Value} {M : mj_H} : mj_Rn d mj_m44 97 ls st M = mq_k2 d mj_m44 ls M (mj_br (.ifnull 98) 97 st) := mj_R2 (r := (.ifnull 98, 3, 0, 0, 0)) rfl rfl
theorem s44_100 {d : Nat} {ls : mj_L} {st : List Value} {M : mj_H} : mj_Rn d mj_m44 100 ls st M = mq_k0 d mj_m44 101 ls M (mj_lda (mj_lk ls 0) st) := mj_R0 (r := (.aload_n 0, 1, 0, 0, 0)) rfl rfl
theorem s44_101 {d : Nat} {ls : mj_L} {st : List Value} {M : mj_H} : mj_Rn d mj_m44 101 ls st M = mq_k0 d mj_m44 104 ls M (mq_gf 8 1 st M) := (mj_R3 (r := (.getfield 20, 3, 8, 1, 16484)) rfl rfl).trans (congrArg (mq_k0 d mj_m44 104 ls M) mq_gf_eq)
theorem s44_104 {d : Nat} {ls : mj_L} {st : List Value} {M : mj_H} : mj_Rn d mj_m44 104 ls st M = mj_Rn d mj_m44 106 ls (.int 12 :: st) M := mj_R0 (r := (.bipush 12, 2, 0, 0, 0)) rfl rfl
theorem s44_106 {d : Nat} {ls : mj_L} {st : List Value} {M : mj_H} : mj_Rn d mj_m44 106 ls st M = mq_k0 d mj_m44 108 ls M (mj_lda (mj_lk ls 4) st) := mj_R0 (r := (.aload 4, 2, 0, 0, 0)) rfl rfl
theorem s44_108 {d : Nat} {ls : mj_L} {st : List Value} {M : mj_H} : mj_Rn d mj_m44 108 ls st M = mq_k0 d mj_m44 111 ls M (mq_gf 2 4 st M) := (mj_R3 (r := (.getfield 161, 3, 2, 4, 16445)) rfl rfl).trans (congrArg (mq_k0 d mj_m44 111 ls M) mq_gf_eq)
theorem s44_111 {d : Nat} {ls : mj_L} {st : List Value} {M : mj_H} : mj_Rn d mj_m44 111 ls st M = mq_k0 d mj_m44 112 ls M (mj_pu .iadd ls st) := mj_R0 (r := (.iadd, 1, 0, 0, 0)) rfl rfl
theorem s44_112 {d : Nat} {ls : mj_L} {st : List Value} {M : mj_H} : mj_Rn (d + 1) mj_m44 112 ls st M = mq_k5a (d + 1) mj_m44 115 ls M 45 (mq_cb 0 1 1 st M) := mj_R5e (r := (.invokevirtual 170, 3, 0, 45, 12295)) (z := mj_m45) rfl rfl (by decide) (by decide) rfl
theorem s44_115 {d : Nat} {ls : mj_L} {st : List Value} {M : mj_H} : mj_Rn d mj_m44 115 ls st M = mq_k0 d mj_m44 116 ls M (mj_lda (mj_lk ls 0) st) := mj_R0 (r := (.aload_n 0, 1, 0, 0, 0)) rfl rfl
theorem s44_116 {d : Nat} {ls : mj_L} {st : List Value} {M : mj_H} : mj_Rn d mj_m44 116 ls st M = mq_k0 d mj_m44 119 ls M (mq_gf 8 1 st M) := (mj_R3 (r := (.getfield 20, 3, 8, 1, 16484)) rfl rfl).trans (congrArg (mq_k0 d mj_m44 119 ls M) mq_gf_eq)
theorem s44_119 {d : Nat} {ls : mj_L} {st : List Value} {M : mj_H} : mj_Rn d mj_m44 119 ls st M = mq_k0 d mj_m44 121 ls M (mj_lda (mj_lk ls 4) st) := mj_R0 (r := (.aload 4, 2, 0, 0, 0)) rfl rfl
theorem s44_121 {d : Nat} {ls : mj_L} {st : List Value} {M : mj_H} : mj_Rn d mj_m44 121 ls st M = mq_k0 d mj_m44 124 ls M (mq_gf 2 0 st M) := (mj_R3 (r := (.getfield 143, 3, 2, 0, 16423)) rfl rfl).trans (congrArg (mq_k0 d mj_m44 124 ls M) mq_gf_eq)
theorem s44_124 {d : Nat} {ls : mj_L} {st : List Value} {M : mj_H} : mj_Rn d mj_m44 124 ls st M = mq_k0 d mj_m44 125 ls M (mj_pu .i2l ls st) := mj_R0 (r := (.i2l, 1, 0, 0, 0)) rfl rfl
theorem s44_125 {d : Nat} {ls : mj_L} {st : List Value} {M : mj_H} : mj_Rn d mj_m44 125 ls st M = mj_Rn d mj_m44 126 ls (.int 4 :: st) M := mj_R0 (r := (.iconst 4, 1, 0, 0, 0)) rfl rfl
theorem s44_126 {d : Nat} {ls : mj_L} {st : List Value} {M : mj_H} : mj_Rn (d + 1) mj_m44 126 ls st M = mq_k5a (d + 1) mj_m44 129 ls M 10 (mq_cb 0 2 1 st M) := mj_R5e (r := (.invokevirtual 173, 3, 0, 10, 8422)) (z := mj_m10) rfl rfl (by decide) (by decide) rfl
theorem s44_129 {d : Nat} {ls : mj_L} {st : List Value} {M : mj_H} : mj_Rn d mj_m44 129 ls st M = mq_k0 d mj_m44 130 ls M (mj_lda (mj_lk ls 0) st) := mj_R0 (r := (.aload_n 0, 1, 0, 0, 0)) rfl rfl
theorem s44_130 {d : Nat} {ls : mj_L} {st : List Value} {M : mj_H} : mj_Rn d mj_m44 130 ls st M = mq_k0 d mj_m44 133 ls M (mq_gf 8 1 st M) := (mj_R3 (r := (.getfield 20, 3, 8, 1, 16484)) rfl rfl).trans (congrArg (mq_k0 d mj_m44 133 ls M) mq_gf_eq)
theorem s44_133 {d : Nat} {ls : mj_L} {st : List Value} {M : mj_H} : mj_Rn d mj_m44 133 ls st M = mq_k0 d mj_m44 135 ls M (mj_lda (mj_lk ls 4) st) := mj_R0 (r := (.aload 4, 2, 0, 0, 0)) rfl rfl
theorem s44_135 {d : Nat} {ls : mj_L} {st : List Value} {M : mj_H} : mj_Rn d mj_m44 135 ls st M = mq_k0 d mj_m44 138 ls M (mq_gf 2 1 st M) := (mj_R3 (r := (.getfield 151, 3, 2, 1, 16429)) rfl rfl).trans (congrArg (mq_k0 d mj_m44 138 ls M) mq_gf_eq)
theorem s44_138 {d : Nat} {ls : mj_L} {st : List Value} {M : mj_H} : mj_Rn d mj_m44 138 ls st M = mq_k0 d mj_m44 139 ls M (mj_pu .i2l ls st) := mj_R0 (r := (.i2l, 1, 0, 0, 0)) rfl rfl
theorem s44_139 {d : Nat} {ls : mj_L} {st : List Value} {M : mj_H} : mj_Rn d mj_m44 139 ls st M = mj_Rn d mj_m44 140 ls (.int 4 :: st) M := mj_R0 (r := (.iconst 4, 1, 0, 0, 0)) rfl rfl
theorem s44_140 {d : Nat} {ls : mj_L} {st : List Value} {M : mj_H} : mj_Rn (d + 1) mj_m44 140 ls st M = mq_k5a (d + 1) mj_m44 143 ls M 10 (mq_cb 0 2 1 st M) := mj_R5e (r := (.invokevirtual 173, 3, 0, 10, 8422)) (z := mj_m10) rfl rfl (by decide) (by decide) rfl
theorem s44_143 {d : Nat} {ls : mj_L} {st : List Value} {M : mj_H} : mj_Rn d mj_m44 143 ls st M = mq_k0 d mj_m44 144 ls M (mj_lda (mj_lk ls 0) st) := mj_R0 (r := (.aload_n 0, 1, 0, 0, 0)) rfl rfl
theorem s44_144 {d : Nat} {ls : mj_L} {st : List Value} {M : mj_H} : mj_Rn d mj_m44 144 ls st M = mq_k0 d mj_m44 147 ls M (mq_gf 8 1 st M) := (mj_R3 (r := (.getfield 20, 3, 8, 1, 16484)) rfl rfl).trans (congrArg (mq_k0 d mj_m44 147 ls M) mq_gf_eq)
theorem s44_147 {d : Nat} {ls : mj_L} {st : List Value} {M : mj_H} : mj_Rn d mj_m44 147 ls st M = mq_k0 d mj_m44 149 ls M (mj_lda (mj_lk ls 4) st) := mj_R0 (r := (.aload 4, 2, 0, 0, 0)) rfl rfl
theorem s44_149 {d : Nat} {ls : mj_L} {st : List Value} {M : mj_H} : mj_Rn d mj_m44 149 ls st M = mq_k0 d mj_m44 152 ls M (mq_gf 2 2 st M) := (mj_R3 (r := (.getfield 154, 3, 2, 2, 16433)) rfl rfl).trans (congrArg (mq_k0 d mj_m44 152 ls M) mq_gf_eq)
theorem s44_152 {d : Nat} {ls : mj_L} {st : List Value} {M : mj_H} : mj_Rn d mj_m44 152 ls st M = mq_k0 d mj_m44 153 ls M (mj_pu .i2l ls st) := mj_R0 (r := (.i2l, 1, 0, 0, 0)) rfl rfl
theorem s44_153 {d : Nat} {ls : mj_L} {st : List Value} {M : mj_H} : mj_Rn d mj_m44 153 ls st M = mj_Rn d mj_m44 154 ls (.int 4 :: st) M := mj_R0 (r := (.iconst 4, 1, 0, 0, 0)) rfl rfl
theorem s44_154 {d : Nat} {ls : mj_L} {st : List Value} {M : mj_H} : mj_Rn (d + 1) mj_m44 154 ls st M = mq_k5a (d + 1) mj_m44 157 ls M 10 (mq_cb 0 2 1 st M) := mj_R5e (r := (.invokevirtual 173, 3, 0, 10, 8422)) (z := mj_m10) rfl rfl (by decide) (by decide) rfl
theorem s44_157 {d : Nat} {ls : mj_L} {st : List Value} {M : mj_H} : mj_Rn d mj_m44 157 ls st M = mq_k0 d mj_m44 158 ls M (mj_lda (mj_lk ls 0) st) := mj_R0 (r := (.aload_n 0, 1, 0, 0, 0)) rfl rfl
theorem s44_158 {d : Nat} {ls : mj_L} {st : List Value} {M : mj_H} : mj_Rn d mj_m44 158 ls st M = mq_k0 d mj_m44 161 ls M (mq_gf 8 1 st M) := (mj_R3 (r := (.getfield 20, 3, 8, 1, 16484)) rfl rfl).trans (congrArg (mq_k0 d mj_m44 161 ls M) mq_gf_eq)
theorem s44_161 {d : Nat} {ls : mj_L} {st : List Value} {M : mj_H} : mj_Rn d mj_m44 161 ls st M = mq_k0 d mj_m44 163 ls M (mj_lda (mj_lk ls 4) st) := mj_R0 (r := (.aload 4, 2, 0, 0, 0)) rfl rfl
theorem s44_163 {d : Nat} {ls : mj_L} {st : List Value} {M : mj_H} : mj_Rn d mj_m44 163 ls st M = mq_k0 d mj_m44 166 ls M (mq_gf 2 3 st M) := (mj_R3 (r := (.getfield 157, 3, 2, 3, 16439)) rfl rfl).trans (congrArg (mq_k0 d mj_m44 166 ls M) mq_gf_eq)
theorem s44_166 {d : Nat} {ls : mj_L} {st : List Value} {M : mj_H} : mj_Rn d mj_m44 166 ls st M = mq_k0 d mj_m44 168 ls M (mj_lda (mj_lk ls 4) st) := mj_R0 (r := (.aload 4, 2, 0, 0, 0)) rfl rfl
theorem s44_168 {d : Nat} {ls : mj_L} {st : List Value} {M : mj_H} : mj_Rn d mj_m44 168 ls st M = mq_k0 d mj_m44 171 ls M (mq_gf 2 4 st M) := (mj_R3 (r := (.getfield 161, 3, 2, 4, 16445)) rfl rfl).trans (congrArg (mq_k0 d mj_m44 171 ls M) mq_gf_eq)
theorem s44_171 {d : Nat} {ls : mj_L} {st : List Value} {M : mj_H} : mj_Rn (d + 1) mj_m44 171 ls st M = mq_k5a (d + 1) mj_m44 174 ls M 10 (mq_cb 0 2 1 st M) := mj_R5e (r := (.invokevirtual 173, 3, 0, 10, 8422)) (z := mj_m10) rfl rfl (by decide) (by decide) rfl
theorem s44_174 {d : Nat} {ls : mj_L} {st : List Value} {M : mj_H} : mj_Rn d mj_m44 174 ls st M = mj_Rn d mj_m44 195 ls st M := mj_R2 (r := (.goto 21, 3, 0, 0, 0)) rfl rfl
theorem s44_177 {d : Nat} {ls : mj_L} {st : List Value} {M : mj_H} : mj_Rn d mj_m44 177 ls st M = mq_k0 d mj_m44 178 ls M (mj_lda (mj_lk ls 0) st) := mj_R0 (r := (.aload_n 0, 1, 0, 0, 0)) rfl rfl
theorem s44_178 {d : Nat} {ls : mj_L} {st : List Value} {M : mj_H} : mj_Rn d mj_m44 178 ls st M = mq_k0 d mj_m44 181 ls M (mq_gf 8 1 st M) := (mj_R3 (r := (.getfield 20, 3, 8, 1, 16484)) rfl rfl).trans (congrArg (mq_k0 d mj_m44 181 ls M) mq_gf_eq)
theorem s44_181 {d : Nat} {ls : mj_L} {st : List Value} {M : mj_H} : mj_Rn d mj_m44 181 ls st M = mj_Rn d mj_m44 182 ls (.int 4 :: st) M := mj_R0 (r := (.iconst 4, 1, 0, 0, 0)) rfl rfl
theorem s44_182 {d : Nat} {ls : mj_L} {st : List Value} {M : mj_H} : mj_Rn (d + 1) mj_m44 182 ls st M = mq_k5a (d + 1) mj_m44 185 ls M 45 (mq_cb 0 1 1 st M) := mj_R5e (r := (.invokevirtual 170, 3, 0, 45, 12295)) (z := mj_m45) rfl rfl (by decide) (by decide) rfl
theorem s44_185 {d : Nat} {ls : mj_L} {st : List Value} {M : mj_H} : mj_Rn d mj_m44 185 ls st M = mq_k0 d mj_m44 186 ls M (mj_lda (mj_lk ls 0) st) := mj_R0 (r := (.aload_n 0, 1, 0, 0, 0)) rfl rfl
theorem s44_186 {d : Nat} {ls : mj_L} {st : List Value} {M : mj_H} : mj_Rn d mj_m44 186 ls st M = mq_k0 d mj_m44 189 ls M (mq_gf 8 1 st M) := (mj_R3 (r := (.getfield 20, 3, 8, 1, 16484)) rfl rfl).trans (congrArg (mq_k0 d mj_m44 189 ls M) mq_gf_eq)
theorem s44_189 {d : Nat} {ls : mj_L} {st : List Value} {M : mj_H} : mj_Rn d mj_m44 189 ls st M = mq_k0 d mj_m44 190 ls M (mj_ldi (mj_lk ls 2) st) := mj_R0 (r := (.iload_n 2, 1, 0, 0, 0)) rfl rfl
theorem s44_190 {d : Nat} {ls : mj_L} {st : List Value} {M : mj_H} : mj_Rn d mj_m44 190 ls st M = mq_k0 d mj_m44 191 ls M (mj_pu .i2l ls st) := mj_R0 (r := (.i2l, 1, 0, 0, 0)) rfl rfl
theorem s44_191 {d : Nat} {ls : mj_L} {st : List Value} {M : mj_H} : mj_Rn d mj_m44 191 ls st M = mj_Rn d mj_m44 192 ls (.int 4 :: st) M := mj_R0 (r := (.iconst 4, 1, 0, 0, 0)) rfl rfl
theorem s44_192 {d : Nat} {ls : mj_L} {st : List Value} {M : mj_H} : mj_Rn (d + 1) mj_m44 192 ls st M = mq_k5a (d + 1) mj_m44 195 ls M 10 (mq_cb 0 2 1 st M) := mj_R5e (r := (.invokevirtual 173, 3, 0, 10, 8422)) (z := mj_m10) rfl rfl (by decide) (by decide) rfl
theorem s44_195 {d : Nat} {ls : mj_L} {st : List Value} {M : mj_H} : mj_Rn d mj_m44 195 ls st M = mq_k0 d mj_m44 196 ls M (mj_lda (mj_lk ls 0) st) := mj_R0 (r := (.aload_n 0, 1, 0, 0, 0)) rfl rfl
theorem s44_196 {d : Nat} {ls : mj_L} {st : List Value} {M : mj_H} : mj_Rn d mj_m44 196 ls st M = mq_k0 d mj_m44 199 ls M (mq_gf 8 1 st M) := (mj_R3 (r := (.getfield 20, 3, 8, 1, 16484)) rfl rfl).trans (congrArg (mq_k0 d mj_m44 199 ls M) mq_gf_eq)
theorem s44_199 {d : Nat} {ls : mj_L} {st : List Value} {M : mj_H} : mj_Rn d mj_m44 199 ls st M = mq_k0 d mj_m44 200 ls M (mj_lda (mj_lk ls 0) st) := mj_R0 (r := (.aload_n 0, 1, 0, 0, 0)) rfl rfl
theorem s44_200 {d : Nat} {ls : mj_L} {st : List Value} {M : mj_H} : mj_Rn d mj_m44 200 ls st M = mq_k0 d mj_m44 203 ls M (mq_gf 8 1 st M) := (mj_R3 (r := (.getfield 20, 3, 8, 1, 16484)) rfl rfl).trans (congrArg (mq_k0 d mj_m44 203 ls M) mq_gf_eq)
theorem s44_203 {d : Nat} {ls : mj_L} {st : List Value} {M : mj_H} : mj_Rn d mj_m44 203 ls st M = mj_Rn d mj_m44 204 ls (.int 0 :: st) M := mj_R0 (r := (.iconst 0, 1, 0, 0, 0)) rfl rfl
theorem s44_204 {d : Nat} {ls : mj_L} {st : List Value} {M : mj_H} : mj_Rn d mj_m44 204 ls st M = mq_k0 d mj_m44 205 ls M (mj_lda (mj_lk ls 0) st) := mj_R0 (r := (.aload_n 0, 1, 0, 0, 0)) rfl rfl
theorem s44_205 {d : Nat} {ls : mj_L} {st : List Value} {M : mj_H} : mj_Rn d mj_m44 205 ls st M = mq_k0 d mj_m44 208 ls M (mq_gf 8 1 st M) := (mj_R3 (r := (.getfield 20, 3, 8, 1, 16484)) rfl rfl).trans (congrArg (mq_k0 d mj_m44 208 ls M) mq_gf_eq)
theorem s44_208 {d : Nat} {ls : mj_L} {st : List Value} {M : mj_H} : mj_Rn (d + 1) mj_m44 208 ls st M = mq_k5a (d + 1) mj_m44 211 ls M 9 (mq_cb 0 0 1 st M) := mj_R5e (r := (.invokevirtual 58, 3, 0, 9, 12288)) (z := mj_m9) rfl rfl (by decide) (by decide) rfl
theorem s44_211 {d : Nat} {ls : mj_L} {st : List Value} {M : mj_H} : mj_Rn (d + 1) mj_m44 211 ls st M = mq_k5a (d + 1) mj_m44 214 ls M 42 (mq_cb 0 2 1 st M) := mj_R5e (r := (.invokevirtual 109, 3, 0, 42, 8423)) (z := mj_m42) rfl rfl (by decide) (by decide) rfl
theorem s44_214 {d : Nat} {ls : mj_L} {st : List Value} {M : mj_H} : mj_Rn d mj_m44 214 ls st M = mq_k0 d mj_m44 215 ls M (mj_pu .i2l ls st) := mj_R0 (r := (.i2l, 1, 0, 0, 0)) rfl rfl
theorem s44_215 {d : Nat} {ls : mj_L} {st : List Value} {M : mj_H} : mj_Rn d mj_m44 215 ls st M = mj_Rn d mj_m44 216 ls (.int 2 :: st) M := mj_R0 (r := (.iconst 2, 1, 0, 0, 0)) rfl rfl
theorem s44_216 {d : Nat} {ls : mj_L} {st : List Value} {M : mj_H} : mj_Rn (d + 1) mj_m44 216 ls st M = mq_k5a (d + 1) mj_m44 219 ls M 10 (mq_cb 0 2 1 st M) := mj_R5e (r := (.invokevirtual 173, 3, 0, 10, 8422)) (z := mj_m10) rfl rfl (by decide) (by decide) rfl
theorem s44_219 {d : Nat} {ls : mj_L} {st : List Value} {M : mj_H} : mj_Rn d mj_m44 219 ls st M = mq_k6 M (mj_re none (.return_) st) := mj_R6 (r := (.return_, 1, 0, 0, 0)) rfl rfl
/- 41 PasskeyHouse$Store.composeHeader(I)V -/
theorem s41_0 {d : Nat} {ls : mj_L} {st : List Value} {M : mj_H} : mj_Rn d mj_m41 0 ls st M = mq_k0 d mj_m41 1 ls M (mj_lda (mj_lk ls 0) st) := mj_R0 (r := (.aload_n 0, 1, 0, 0, 0)) rfl rfl
theorem s41_1 {d : Nat} {ls : mj_L} {st : List Value} {M : mj_H} : mj_Rn d mj_m41 1 ls st M = mq_k0 d mj_m41 4 ls M (mq_gf 8 1 st M) := (mj_R3 (r := (.getfield 20, 3, 8, 1, 16484)) rfl rfl).trans (congrArg (mq_k0 d mj_m41 4 ls M) mq_gf_eq)
theorem s41_4 {d : Nat} {ls : mj_L} {st : List Value} {M : mj_H} : mj_Rn (d + 1) mj_m41 4 ls st M = mq_k5a (d + 1) mj_m41 7 ls M 12 (mq_cb 0 0 1 st M) := mj_R5e (r := (.invokevirtual 167, 3, 0, 12, 8421)) (z := mj_m12) rfl rfl (by decide) (by decide) rfl
theorem s41_7 {d : Nat} {ls : mj_L} {st : List Value} {M : mj_H} : mj_Rn d mj_m41 7 ls st M = mq_k0 d mj_m41 8 ls M (mj_lda (mj_lk ls 0) st) := mj_R0 (r := (.aload_n 0, 1, 0, 0, 0)) rfl rfl
theorem s41_8 {d : Nat} {ls : mj_L} {st : List Value} {M : mj_H} : mj_Rn d mj_m41 8 ls st M = mq_k0 d mj_m41 11 ls M (mq_gf 8 1 st M) := (mj_R3 (r := (.getfield 20, 3, 8, 1, 16484)) rfl rfl).trans (congrArg (mq_k0 d mj_m41 11 ls M) mq_gf_eq)
theorem s41_11 {d : Nat} {ls : mj_L} {st : List Value} {M : mj_H} : mj_Rn d mj_m41 11 ls st M = mq_k0 d mj_m41 12 ls M (mj_ldi (mj_lk ls 1) st) := mj_R0 (r := (.iload_n 1, 1, 0, 0, 0)) rfl rfl
theorem s41_12 {d : Nat} {ls : mj_L} {st : List Value} {M : mj_H} : mj_Rn d mj_m41 12 ls st M = mq_k0 d mj_m41 13 ls M (mj_pu .i2l ls st) := mj_R0 (r := (.i2l, 1, 0, 0, 0)) rfl rfl
theorem s41_13 {d : Nat} {ls : mj_L} {st : List Value} {M : mj_H} : mj_Rn d mj_m41 13 ls st M = mj_Rn d mj_m41 14 ls (.int 2 :: st) M := mj_R0 (r := (.iconst 2, 1, 0, 0, 0)) rfl rfl
theorem s41_14 {d : Nat} {ls : mj_L} {st : List Value} {M : mj_H} : mj_Rn (d + 1) mj_m41 14 ls st M = mq_k5a (d + 1) mj_m41 17 ls M 10 (mq_cb 0 2 1 st M) := mj_R5e (r := (.invokevirtual 173, 3, 0, 10, 8422)) (z := mj_m10) rfl rfl (by decide) (by decide) rfl
theorem s41_17 {d : Nat} {ls : mj_L} {st : List Value} {M : mj_H} : mj_Rn d mj_m41 17 ls st M = mq_k0 d mj_m41 18 ls M (mj_lda (mj_lk ls 0) st) := mj_R0 (r := (.aload_n 0, 1, 0, 0, 0)) rfl rfl
theorem s41_18 {d : Nat} {ls : mj_L} {st : List Value} {M : mj_H} : mj_Rn d mj_m41 18 ls st M = mq_k0 d mj_m41 21 ls M (mq_gf 8 1 st M) := (mj_R3 (r := (.getfield 20, 3, 8, 1, 16484)) rfl rfl).trans (congrArg (mq_k0 d mj_m41 21 ls M) mq_gf_eq)
theorem s41_21 {d : Nat} {ls : mj_L} {st : List Value} {M : mj_H} : mj_Rn d mj_m41 21 ls st M = mq_k0 d mj_m41 22 ls M (mj_lda (mj_lk ls 0) st) := mj_R0 (r := (.aload_n 0, 1, 0, 0, 0)) rfl rfl
theorem s41_22 {d : Nat} {ls : mj_L} {st : List Value} {M : mj_H} : mj_Rn d mj_m41 22 ls st M = mq_k0 d mj_m41 25 ls M (mq_gf 8 1 st M) := (mj_R3 (r := (.getfield 20, 3, 8, 1, 16484)) rfl rfl).trans (congrArg (mq_k0 d mj_m41 25 ls M) mq_gf_eq)
theorem s41_25 {d : Nat} {ls : mj_L} {st : List Value} {M : mj_H} : mj_Rn d mj_m41 25 ls st M = mj_Rn d mj_m41 26 ls (.int 0 :: st) M := mj_R0 (r := (.iconst 0, 1, 0, 0, 0)) rfl rfl
theorem s41_26 {d : Nat} {ls : mj_L} {st : List Value} {M : mj_H} : mj_Rn d mj_m41 26 ls st M = mj_Rn d mj_m41 27 ls (.int 2 :: st) M := mj_R0 (r := (.iconst 2, 1, 0, 0, 0)) rfl rfl
theorem s41_27 {d : Nat} {ls : mj_L} {st : List Value} {M : mj_H} : mj_Rn (d + 1) mj_m41 27 ls st M = mq_k5a (d + 1) mj_m41 30 ls M 42 (mq_cb 0 2 1 st M) := mj_R5e (r := (.invokevirtual 109, 3, 0, 42, 8423)) (z := mj_m42) rfl rfl (by decide) (by decide) rfl
theorem s41_30 {d : Nat} {ls : mj_L} {st : List Value} {M : mj_H} : mj_Rn d mj_m41 30 ls st M = mq_k0 d mj_m41 31 ls M (mj_pu .i2l ls st) := mj_R0 (r := (.i2l, 1, 0, 0, 0)) rfl rfl
theorem s41_31 {d : Nat} {ls : mj_L} {st : List Value} {M : mj_H} : mj_Rn d mj_m41 31 ls st M = mj_Rn d mj_m41 32 ls (.int 2 :: st) M := mj_R0 (r := (.iconst 2, 1, 0, 0, 0)) rfl rfl
theorem s41_32 {d : Nat} {ls : mj_L} {st : List Value} {M : mj_H} : mj_Rn (d + 1) mj_m41 32 ls st M = mq_k5a (d + 1) mj_m41 35 ls M 10 (mq_cb 0 2 1 st M) := mj_R5e (r := (.invokevirtual 173, 3, 0, 10, 8422)) (z := mj_m10) rfl rfl (by decide) (by decide) rfl
theorem s41_35 {d : Nat} {ls : mj_L} {st : List Value} {M : mj_H} : mj_Rn d mj_m41 35 ls st M = mq_k6 M (mj_re none (.return_) st) := mj_R6 (r := (.return_, 1, 0, 0, 0)) rfl rfl
/- 62 PasskeyHouse$Store.isDue(ILPasskeyHouse$Credential;)Z -/
theorem s62_0 {d : Nat} {ls : mj_L} {st : List Value} {M : mj_H} : mj_Rn d mj_m62 0 ls st M = mq_k0 d mj_m62 1 ls M (mj_ldi (mj_lk ls 1) st) := mj_R0 (r := (.iload_n 1, 1, 0, 0, 0)) rfl rfl
theorem s62_1 {d : Nat} {ls : mj_L} {st : List Value} {M : mj_H} : mj_Rn d mj_m62 1 ls st M = mq_k2 d mj_m62 ls M (mj_br (.tableswitch 79 2 4 #[27, 40, 55]) 1 st) := mj_R2 (r := (.tableswitch 79 2 4 #[27, 40, 55], 27, 0, 0, 0)) rfl rfl
theorem s62_28 {d : Nat} {ls : mj_L} {st : List Value} {M : mj_H} : mj_Rn d mj_m62 28 ls st M = mq_k0 d mj_m62 29 ls M (mj_lda (mj_lk ls 0) st) := mj_R0 (r := (.aload_n 0, 1, 0, 0, 0)) rfl rfl
theorem s62_29 {d : Nat} {ls : mj_L} {st : List Value} {M : mj_H} : mj_Rn d mj_m62 29 ls st M = mq_k0 d mj_m62 32 ls M (mq_gf 8 11 st M) := (mj_R3 (r := (.getfield 115, 3, 8, 11, 16514)) rfl rfl).trans (congrArg (mq_k0 d mj_m62 32 ls M) mq_gf_eq)
theorem s62_32 {d : Nat} {ls : mj_L} {st : List Value} {M : mj_H} : mj_Rn d mj_m62 32 ls st M = mq_k2 d mj_m62 ls M (mj_br (.ifCond .eq 7) 32 st) := mj_R2 (r := (.ifCond .eq 7, 3, 0, 0, 0)) rfl rfl
theorem s62_35 {d : Nat} {ls : mj_L} {st : List Value} {M : mj_H} : mj_Rn d mj_m62 35 ls st M = mj_Rn d mj_m62 36 ls (.int 1 :: st) M := mj_R0 (r := (.iconst 1, 1, 0, 0, 0)) rfl rfl
theorem s62_36 {d : Nat} {ls : mj_L} {st : List Value} {M : mj_H} : mj_Rn d mj_m62 36 ls st M = mj_Rn d mj_m62 40 ls st M := mj_R2 (r := (.goto 4, 3, 0, 0, 0)) rfl rfl
theorem s62_39 {d : Nat} {ls : mj_L} {st : List Value} {M : mj_H} : mj_Rn d mj_m62 39 ls st M = mj_Rn d mj_m62 40 ls (.int 0 :: st) M := mj_R0 (r := (.iconst 0, 1, 0, 0, 0)) rfl rfl
theorem s62_40 {d : Nat} {ls : mj_L} {st : List Value} {M : mj_H} : mj_Rn d mj_m62 40 ls st M = mq_k6 M (mj_re (some .boolean) (.ireturn) st) := mj_R6 (r := (.ireturn, 1, 0, 0, 0)) rfl rfl
theorem s62_41 {d : Nat} {ls : mj_L} {st : List Value} {M : mj_H} : mj_Rn d mj_m62 41 ls st M = mq_k0 d mj_m62 42 ls M (mj_lda (mj_lk ls 0) st) := mj_R0 (r := (.aload_n 0, 1, 0, 0, 0)) rfl rfl
theorem s62_42 {d : Nat} {ls : mj_L} {st : List Value} {M : mj_H} : mj_Rn d mj_m62 42 ls st M = mq_k0 d mj_m62 45 ls M (mq_gf 8 12 st M) := (mj_R3 (r := (.getfield 118, 3, 8, 12, 16518)) rfl rfl).trans (congrArg (mq_k0 d mj_m62 45 ls M) mq_gf_eq)
theorem s62_45 {d : Nat} {ls : mj_L} {st : List Value} {M : mj_H} : mj_Rn d mj_m62 45 ls st M = mj_Rn d mj_m62 47 ls (.int 8 :: st) M := mj_R0 (r := (.bipush 8, 2, 0, 0, 0)) rfl rfl
theorem s62_47 {d : Nat} {ls : mj_L} {st : List Value} {M : mj_H} : mj_Rn d mj_m62 47 ls st M = mq_k2 d mj_m62 ls M (mj_br (.if_icmp .eq 7) 47 st) := mj_R2 (r := (.if_icmp .eq 7, 3, 0, 0, 0)) rfl rfl
theorem s62_50 {d : Nat} {ls : mj_L} {st : List Value} {M : mj_H} : mj_Rn d mj_m62 50 ls st M = mj_Rn d mj_m62 51 ls (.int 1 :: st) M := mj_R0 (r := (.iconst 1, 1, 0, 0, 0)) rfl rfl
theorem s62_51 {d : Nat} {ls : mj_L} {st : List Value} {M : mj_H} : mj_Rn d mj_m62 51 ls st M = mj_Rn d mj_m62 55 ls st M := mj_R2 (r := (.goto 4, 3, 0, 0, 0)) rfl rfl
theorem s62_54 {d : Nat} {ls : mj_L} {st : List Value} {M : mj_H} : mj_Rn d mj_m62 54 ls st M = mj_Rn d mj_m62 55 ls (.int 0 :: st) M := mj_R0 (r := (.iconst 0, 1, 0, 0, 0)) rfl rfl
theorem s62_55 {d : Nat} {ls : mj_L} {st : List Value} {M : mj_H} : mj_Rn d mj_m62 55 ls st M = mq_k6 M (mj_re (some .boolean) (.ireturn) st) := mj_R6 (r := (.ireturn, 1, 0, 0, 0)) rfl rfl
theorem s62_56 {d : Nat} {ls : mj_L} {st : List Value} {M : mj_H} : mj_Rn d mj_m62 56 ls st M = mq_k0 d mj_m62 57 ls M (mj_lda (mj_lk ls 2) st) := mj_R0 (r := (.aload_n 2, 1, 0, 0, 0)) rfl rfl
theorem s62_57 {d : Nat} {ls : mj_L} {st : List Value} {M : mj_H} : mj_Rn d mj_m62 57 ls st M = mq_k2 d mj_m62 ls M (mj_br (.ifnonnull 10) 57 st) := mj_R2 (r := (.ifnonnull 10, 3, 0, 0, 0)) rfl rfl
theorem s62_60 {d : Nat} {ls : mj_L} {st : List Value} {M : mj_H} : mj_Rn d mj_m62 60 ls st M = mq_k0 d mj_m62 61 ls M (mj_lda (mj_lk ls 0) st) := mj_R0 (r := (.aload_n 0, 1, 0, 0, 0)) rfl rfl
theorem s62_61 {d : Nat} {ls : mj_L} {st : List Value} {M : mj_H} : mj_Rn d mj_m62 61 ls st M = mq_k0 d mj_m62 64 ls M (mq_gf 8 13 st M) := (mj_R3 (r := (.getfield 121, 3, 8, 13, 16522)) rfl rfl).trans (congrArg (mq_k0 d mj_m62 64 ls M) mq_gf_eq)
theorem s62_64 {d : Nat} {ls : mj_L} {st : List Value} {M : mj_H} : mj_Rn d mj_m62 64 ls st M = mj_Rn d mj_m62 71 ls st M := mj_R2 (r := (.goto 7, 3, 0, 0, 0)) rfl rfl
theorem s62_67 {d : Nat} {ls : mj_L} {st : List Value} {M : mj_H} : mj_Rn d mj_m62 67 ls st M = mq_k0 d mj_m62 68 ls M (mj_lda (mj_lk ls 2) st) := mj_R0 (r := (.aload_n 2, 1, 0, 0, 0)) rfl rfl
theorem s62_68 {d : Nat} {ls : mj_L} {st : List Value} {M : mj_H} : mj_Rn d mj_m62 68 ls st M = mq_k0 d mj_m62 71 ls M (mq_gf 2 5 st M) := (mj_R3 (r := (.getfield 146, 3, 2, 5, 16451)) rfl rfl).trans (congrArg (mq_k0 d mj_m62 71 ls M) mq_gf_eq)
theorem s62_71 {d : Nat} {ls : mj_L} {st : List Value} {M : mj_H} : mj_Rn d mj_m62 71 ls st M = mq_k2 d mj_m62 ls M (mj_br (.ifCond .eq 7) 71 st) := mj_R2 (r := (.ifCond .eq 7, 3, 0, 0, 0)) rfl rfl
theorem s62_74 {d : Nat} {ls : mj_L} {st : List Value} {M : mj_H} : mj_Rn d mj_m62 74 ls st M = mj_Rn d mj_m62 75 ls (.int 1 :: st) M := mj_R0 (r := (.iconst 1, 1, 0, 0, 0)) rfl rfl
theorem s62_75 {d : Nat} {ls : mj_L} {st : List Value} {M : mj_H} : mj_Rn d mj_m62 75 ls st M = mj_Rn d mj_m62 79 ls st M := mj_R2 (r := (.goto 4, 3, 0, 0, 0)) rfl rfl
theorem s62_78 {d : Nat} {ls : mj_L} {st : List Value} {M : mj_H} : mj_Rn d mj_m62 78 ls st M = mj_Rn d mj_m62 79 ls (.int 0 :: st) M := mj_R0 (r := (.iconst 0, 1, 0, 0, 0)) rfl rfl
theorem s62_79 {d : Nat} {ls : mj_L} {st : List Value} {M : mj_H} : mj_Rn d mj_m62 79 ls st M = mq_k6 M (mj_re (some .boolean) (.ireturn) st) := mj_R6 (r := (.ireturn, 1, 0, 0, 0)) rfl rfl
theorem s62_80 {d : Nat} {ls : mj_L} {st : List Value} {M : mj_H} : mj_Rn d mj_m62 80 ls st M = mj_Rn d mj_m62 81 ls (.int 1 :: st) M := mj_R0 (r := (.iconst 1, 1, 0, 0, 0)) rfl rfl
theorem s62_81 {d : Nat} {ls : mj_L} {st : List Value} {M : mj_H} : mj_Rn d mj_m62 81 ls st M = mq_k6 M (mj_re (some .boolean) (.ireturn) st) := mj_R6 (r := (.ireturn, 1, 0, 0, 0)) rfl rfl
/- 63 PasskeyHouse$Store.firstOf(ILPasskeyHouse$Credential;)I -/
theorem s63_0 {d : Nat} {ls : mj_L} {st : List Value} {M : mj_H} : mj_Rn d mj_m63 0 ls st M = mq_k0 d mj_m63 1 ls M (mj_ldi (mj_lk ls 1) st) := mj_R0 (r := (.iload_n 1, 1, 0, 0, 0)) rfl rfl
theorem s63_1 {d : Nat} {ls : mj_L} {st : List Value} {M : mj_H} : mj_Rn d mj_m63 1 ls st M = mq_k2 d mj_m63 ls M (mj_br (.tableswitch 42 1 3 #[27, 32, 37]) 1 st) := mj_R2 (r := (.tableswitch 42 1 3 #[27, 32, 37], 27, 0, 0, 0)) rfl rfl
theorem s63_28 {d : Nat} {ls : mj_L} {st : List Value} {M : mj_H} : mj_Rn d mj_m63 28 ls st M = mq_k0 d mj_m63 29 ls M (mj_lda (mj_lk ls 0) st) := mj_R0 (r := (.aload_n 0, 1, 0, 0, 0)) rfl rfl
theorem s63_29 {d : Nat} {ls : mj_L} {st : List Value} {M : mj_H} : mj_Rn d mj_m63 29 ls st M = mq_k0 d mj_m63 32 ls M (mq_gf 8 10 st M) := (mj_R3 (r := (.getfield 112, 3, 8, 10, 16510)) rfl rfl).trans (congrArg (mq_k0 d mj_m63 32 ls M) mq_gf_eq)
theorem s63_32 {d : Nat} {ls : mj_L} {st : List Value} {M : mj_H} : mj_Rn d mj_m63 32 ls st M = mq_k6 M (mj_re (some .int) (.ireturn) st) := mj_R6 (r := (.ireturn, 1, 0, 0, 0)) rfl rfl
theorem s63_33 {d : Nat} {ls : mj_L} {st : List Value} {M : mj_H} : mj_Rn d mj_m63 33 ls st M = mq_k0 d mj_m63 34 ls M (mj_lda (mj_lk ls 0) st) := mj_R0 (r := (.aload_n 0, 1, 0, 0, 0)) rfl rfl
theorem s63_34 {d : Nat} {ls : mj_L} {st : List Value} {M : mj_H} : mj_Rn d mj_m63 34 ls st M = mq_k0 d mj_m63 37 ls M (mq_gf 8 11 st M) := (mj_R3 (r := (.getfield 115, 3, 8, 11, 16514)) rfl rfl).trans (congrArg (mq_k0 d mj_m63 37 ls M) mq_gf_eq)
theorem s63_37 {d : Nat} {ls : mj_L} {st : List Value} {M : mj_H} : mj_Rn d mj_m63 37 ls st M = mq_k6 M (mj_re (some .int) (.ireturn) st) := mj_R6 (r := (.ireturn, 1, 0, 0, 0)) rfl rfl
theorem s63_38 {d : Nat} {ls : mj_L} {st : List Value} {M : mj_H} : mj_Rn d mj_m63 38 ls st M = mq_k0 d mj_m63 39 ls M (mj_lda (mj_lk ls 0) st) := mj_R0 (r := (.aload_n 0, 1, 0, 0, 0)) rfl rfl
theorem s63_39 {d : Nat} {ls : mj_L} {st : List Value} {M : mj_H} : mj_Rn d mj_m63 39 ls st M = mq_k0 d mj_m63 42 ls M (mq_gf 8 12 st M) := (mj_R3 (r := (.getfield 118, 3, 8, 12, 16518)) rfl rfl).trans (congrArg (mq_k0 d mj_m63 42 ls M) mq_gf_eq)
theorem s63_42 {d : Nat} {ls : mj_L} {st : List Value} {M : mj_H} : mj_Rn d mj_m63 42 ls st M = mq_k6 M (mj_re (some .int) (.ireturn) st) := mj_R6 (r := (.ireturn, 1, 0, 0, 0)) rfl rfl
theorem s63_43 {d : Nat} {ls : mj_L} {st : List Value} {M : mj_H} : mj_Rn d mj_m63 43 ls st M = mq_k0 d mj_m63 44 ls M (mj_lda (mj_lk ls 2) st) := mj_R0 (r := (.aload_n 2, 1, 0, 0, 0)) rfl rfl
theorem s63_44 {d : Nat} {ls : mj_L} {st : List Value} {M : mj_H} : mj_Rn d mj_m63 44 ls st M = mq_k2 d mj_m63 ls M (mj_br (.ifnonnull 7) 44 st) := mj_R2 (r := (.ifnonnull 7, 3, 0, 0, 0)) rfl rfl
theorem s63_47 {d : Nat} {ls : mj_L} {st : List Value} {M : mj_H} : mj_Rn d mj_m63 47 ls st M = mj_Rn d mj_m63 48 ls (.int 0 :: st) M := mj_R0 (r := (.iconst 0, 1, 0, 0, 0)) rfl rfl
theorem s63_48 {d : Nat} {ls : mj_L} {st : List Value} {M : mj_H} : mj_Rn d mj_m63 48 ls st M = mj_Rn d mj_m63 55 ls st M := mj_R2 (r := (.goto 7, 3, 0, 0, 0)) rfl rfl
theorem s63_51 {d : Nat} {ls : mj_L} {st : List Value} {M : mj_H} : mj_Rn d mj_m63 51 ls st M = mq_k0 d mj_m63 52 ls M (mj_lda (mj_lk ls 2) st) := mj_R0 (r := (.aload_n 2, 1, 0, 0, 0)) rfl rfl
theorem s63_52 {d : Nat} {ls : mj_L} {st : List Value} {M : mj_H} : mj_Rn d mj_m63 52 ls st M = mq_k0 d mj_m63 55 ls M (mq_gf 2 0 st M) := (mj_R3 (r := (.getfield 143, 3, 2, 0, 16423)) rfl rfl).trans (congrArg (mq_k0 d mj_m63 55 ls M) mq_gf_eq)
theorem s63_55 {d : Nat} {ls : mj_L} {st : List Value} {M : mj_H} : mj_Rn d mj_m63 55 ls st M = mq_k6 M (mj_re (some .int) (.ireturn) st) := mj_R6 (r := (.ireturn, 1, 0, 0, 0)) rfl rfl
theorem c44 {d : Nat} {a0 : Nat} {x1 : Int32} {x2 : Int32} {x3 : Int32} {a4 : Nat} {M : mj_H} : mj_V (d + 1) 44 [.ref a0, .int x1, .int x2, .int x3, .ref a4] M = mj_Rn d mj_m44 0 [(0, .ref a0), (1, .int x1), (2, .int x2), (3, .int x3), (4, .ref a4)] [] M := mj_V_go rfl (Nat.le_of_ble_eq_true rfl)
theorem c44n4 {d : Nat} {a0 : Nat} {x1 : Int32} {x2 : Int32} {x3 : Int32} {M : mj_H} : mj_V (d + 1) 44 [.ref a0, .int x1, .int x2, .int x3, .null] M = mj_Rn d mj_m44 0 [(0, .ref a0), (1, .int x1), (2, .int x2), (3, .int x3), (4, .null)] [] M := mj_V_go rfl (Nat.le_of_ble_eq_true rfl)
theorem c41 {d : Nat} {a0 : Nat} {x1 : Int32} {M : mj_H} : mj_V (d + 1) 41 [.ref a0, .int x1] M = mj_Rn d mj_m41 0 [(0, .ref a0), (1, .int x1)] [] M := mj_V_go rfl (Nat.le_of_ble_eq_true rfl)
theorem c62 {d : Nat} {a0 : Nat} {x1 : Int32} {a2 : Nat} {M : mj_H} : mj_V (d + 1) 62 [.ref a0, .int x1, .ref a2] M = mj_Rn d mj_m62 0 [(0, .ref a0), (1, .int x1), (2, .ref a2)] [] M := mj_V_go rfl (Nat.le_of_ble_eq_true rfl)
theorem c62n2 {d : Nat} {a0 : Nat} {x1 : Int32} {M : mj_H} : mj_V (d + 1) 62 [.ref a0, .int x1, .null] M = mj_Rn d mj_m62 0 [(0, .ref a0), (1, .int x1), (2, .null)] [] M := mj_V_go rfl (Nat.le_of_ble_eq_true rfl)
theorem c63 {d : Nat} {a0 : Nat} {x1 : Int32} {a2 : Nat} {M : mj_H} : mj_V (d + 1) 63 [.ref a0, .int x1, .ref a2] M = mj_Rn d mj_m63 0 [(0, .ref a0), (1, .int x1), (2, .ref a2)] [] M := mj_V_go rfl (Nat.le_of_ble_eq_true rfl)
theorem c63n2 {d : Nat} {a0 : Nat} {x1 : Int32} {M : mj_H} : mj_V (d + 1) 63 [.ref a0, .int x1, .null] M = mj_Rn d mj_m63 0 [(0, .ref a0), (1, .int x1), (2, .null)] [] M := mj_V_go rfl (Nat.le_of_ble_eq_true rfl)
theorem nI_div {a b : Nat} (ha : a < 2 ^ 31) (hb : b < 2 ^ 31) : nI a / nI b = nI (a / b) := by
  apply Int32.toInt_inj.mp
  have hab : a / b ≤ a := Nat.div_le_self _ _
  rw [Int32.toInt_div, nI_toInt ha, nI_toInt hb, nI_toInt (by omega)]
  rw [show (a : Int).tdiv (b : Int) = ((a / b : Nat) : Int) from rfl]
  generalize a / b = q at *
  apply Int.bmod_eq_of_le <;> omega
theorem nl_div {a n : Nat} (ha : a < 2 ^ 31) (hn : Nat.ble n 2147483647 = true) : nI a / (no_index (OfNat.ofNat n) : Int32) = nI (a / OfNat.ofNat n) := nI_div ha (Nat.lt_succ_of_le (Nat.le_of_ble_eq_true hn))
theorem nl_mul {a n : Nat} : nI a * (no_index (OfNat.ofNat n) : Int32) = nI (a * OfNat.ofNat n) := nI_mul a n
/-- erasing byte by byte -/
def fs_eb : Nat → Nat → Fl → Fl × Bool
  | 0, _, s => (s, true)
  | n + 1, i, s => if i % 64 = 0 then (if s.2.2.2.1 = 0 then (s.off, false) else fs_eb n (i + 1) ((s.1.set i 255, (s.act.2.1, (s.act.2.2.1, (s.act.2.2.2.1, (s.act.2.2.2.2.1, (s.act.2.2.2.2.2.1, (s.act.2.2.2.2.2.2.1, s.act.2.2.2.2.2.2.2))))))) : Fl)) else fs_eb n (i + 1) ((s.1.set i 255, (s.2.1, (s.2.2.1, (s.2.2.2.1, (s.2.2.2.2.1, (s.2.2.2.2.2.1, (s.2.2.2.2.2.2.1, s.2.2.2.2.2.2.2))))))) : Fl)
theorem fs_eb_in : ∀ (n m i : Nat) (s : Fl), (∀ j, i ≤ j → j < i + n → j % 64 ≠ 0) → fs_eb (n + m) i s = fs_eb m (i + n) ((fs_fill n i s.1, (s.2.1, (s.2.2.1, (s.2.2.2.1, (s.2.2.2.2.1, (s.2.2.2.2.2.1, (s.2.2.2.2.2.2.1, s.2.2.2.2.2.2.2))))))) : Fl) := by
  intro n
  induction n with
  | zero => intro m i s _; simp [fs_fill]
  | succ n ih =>
    intro m i s h
    rw [show n + 1 + m = (n + m) + 1 by omega, fs_eb, if_neg (h i (by omega) (by omega)), ih _ _ _ (fun j h1 h2 => h j (by omega) (by omega)), fs_fill, show i + 1 + n = i + (n + 1) by omega]
theorem fs_eb_era : ∀ (k i : Nat) (s : Fl), i % 64 = 0 → fs_eb (64 * k) i s = fs_era k i s := by
  intro k
  induction k with
  | zero => intro i s _; rfl
  | succ k ih =>
    intro i s h
    rw [show 64 * (k + 1) = (63 + 64 * k) + 1 by omega, fs_eb, if_pos h, fs_era]
    split
    · rfl
    · rw [fs_eb_in 63 _ _ _ (fun j h1 h2 => by omega), show i + 1 + 63 = i + 64 by omega, ih _ _ (by omega)]
      rfl
theorem l_erase {d κ w : Nat} {r : List Int32} (hw : w ≤ 1) : ∀ (n i : Nat) (s : Fl) (M : mj_H), i + n = (w + 1) * 256 → ks M κ s r → s.2.1 = true → s.1.length = 512 → ∃ M', mj_Rn (d + 1) mj_m59 6 [(2, .int (nI i)), (0, .ref (κ + 1)), (1, .int (nI w))] [] M = some (some (.int (on1 (fs_eb n i s).2)), M') ∧ ks M' κ (fs_eb n i s).1 r ∧ kf κ M M' := by
  intro n
  induction n with
  | zero =>
    intro i s M hi h hon hfl
    refine ⟨M, ?_, h, kf.rf⟩
    simp (disch := (first | omega | decide)) [s59_0, s59_1, s59_4, s59_5, s59_6, s59_7, s59_8, s59_9, s59_10, s59_13, s59_14, s59_17, s59_18, s59_20, s59_21, s59_24, s59_25, s59_28, s59_31, s59_32, s59_33, s59_34, s59_37, s59_38, s59_41, s59_44, s59_47, s59_50, s59_51, mq_k0s, mq_k1s, mq_k2s, mq_k4s, mq_k5s, mq_k5n, mq_k5as, mq_k6s, mj_pu, mj_lo, mj_br, mj_hr, mj_hw, mq_gf, mq_len, mq_al, mq_pf, mq_ok, mj_re, mq_lkm, mq_lkn, mj_ldi, mj_ldl, mj_lda, mj_ii, mj_ll, mj_li, mj_i1, ms_1, ms_2, f1_n, f1_i, f1_r, f1_u, f1_l, f2_n, f2_i, f2_r, f2_u, f2_l, mj_tg, mj_c1, mj_c2, mj_ar, mj_aw, mq_cb, mq_oi, mj_rm, Value.category, -getElem?_pos, List.getElem?_cons_zero, decide_eq_true, decide_eq_false, nl_lt, nl_le, ln_lt, ln_le, nl_eq, ln_eq, nl_add, ln_add, nl_sub, ln_mul, nI_sub, nI_mul, nI_add, nI_lt_iff, nI_le_iff, nI_inj, nI_num, mq_ix, nI_1, nl_mul, nl_div, fs_eb, on1, narrow_b1]
  | succ n ih =>
    intro i s M hi h hon hfl
    have hob := h.ob
    unfold so at hob
    have hca := h.ce.2.2.2.2.2.1
    rw [s59_6]
    by_cases hm : i % 64 = 0
    · obtain ⟨M1, p1, r1, f1⟩ := st_done (d := d) h hon
      by_cases h0 : s.2.2.2.1 = 0
      · rw [if_pos h0] at p1 r1
        refine ⟨M1, ?_, by rw [fs_eb, if_pos hm, if_pos h0]; exact r1, f1⟩
        simp (disch := (first | omega | decide)) [s59_0, s59_1, s59_4, s59_5, s59_7, s59_8, s59_9, s59_10, s59_13, s59_14, s59_17, s59_18, s59_20, s59_21, s59_24, s59_25, s59_28, s59_31, s59_32, s59_33, s59_34, s59_37, s59_38, s59_41, s59_44, s59_47, s59_50, s59_51, mq_k0s, mq_k1s, mq_k2s, mq_k4s, mq_k5s, mq_k5n, mq_k5as, mq_k6s, mj_pu, mj_lo, mj_br, mj_hr, mj_hw, mq_gf, mq_len, mq_al, mq_pf, mq_ok, mj_re, mq_lkm, mq_lkn, mj_ldi, mj_ldl, mj_lda, mj_ii, mj_ll, mj_li, mj_i1, ms_1, ms_2, f1_n, f1_i, f1_r, f1_u, f1_l, f2_n, f2_i, f2_r, f2_u, f2_l, mj_tg, mj_c1, mj_c2, mj_ar, mj_aw, mq_cb, mq_oi, mj_rm, Value.category, -getElem?_pos, List.getElem?_cons_zero, decide_eq_true, decide_eq_false, nl_lt, nl_le, ln_lt, ln_le, nl_eq, ln_eq, nl_add, ln_add, nl_sub, ln_mul, nI_sub, nI_mul, nI_add, nI_lt_iff, nI_le_iff, nI_inj, nI_num, mq_ix, nI_1, nl_mul, nl_div, hob, hm, p1, fs_eb, h0, on1, narrow_b0]
      · rw [if_neg h0] at p1 r1
        obtain ⟨M2, p2, r2, f2⟩ := v_put (d := d) (k := i) r1.ce (show i < s.act.1.length by show _ < s.1.length; omega) 255
        have k2 : ks M2 κ ((s.1.set i 255, (s.act.2.1, (s.act.2.2.1, (s.act.2.2.2.1, (s.act.2.2.2.2.1, (s.act.2.2.2.2.2.1, (s.act.2.2.2.2.2.2.1, s.act.2.2.2.2.2.2.2))))))) : Fl) r := r1.flash r2 (f2.mono (by simp)) rfl
        obtain ⟨M3, p3, r3, f3⟩ := ih (i + 1) _ M2 (by omega) k2 hon (by simp [hfl])
        have hob1 := r1.ob
        unfold so at hob1
        have hca1 := r1.ce.2.2.2.2.2.1
        refine ⟨M3, ?_, by rw [fs_eb, if_pos hm, if_neg h0]; exact r3, f1.tr ((kf.of f2 (by simp)).tr f3)⟩
        rw [fs_eb, if_pos hm, if_neg h0]
        simp (disch := (first | omega | decide)) [s59_0, s59_1, s59_4, s59_5, s59_7, s59_8, s59_9, s59_10, s59_13, s59_14, s59_17, s59_18, s59_20, s59_21, s59_24, s59_25, s59_28, s59_31, s59_32, s59_33, s59_34, s59_37, s59_38, s59_41, s59_44, s59_47, s59_50, s59_51, mq_k0s, mq_k1s, mq_k2s, mq_k4s, mq_k5s, mq_k5n, mq_k5as, mq_k6s, mj_pu, mj_lo, mj_br, mj_hr, mj_hw, mq_gf, mq_len, mq_al, mq_pf, mq_ok, mj_re, mq_lkm, mq_lkn, mj_ldi, mj_ldl, mj_lda, mj_ii, mj_ll, mj_li, mj_i1, ms_1, ms_2, f1_n, f1_i, f1_r, f1_u, f1_l, f2_n, f2_i, f2_r, f2_u, f2_l, mj_tg, mj_c1, mj_c2, mj_ar, mj_aw, mq_cb, mq_oi, mj_rm, Value.category, -getElem?_pos, List.getElem?_cons_zero, decide_eq_true, decide_eq_false, nl_lt, nl_le, ln_lt, ln_le, nl_eq, ln_eq, nl_add, ln_add, nl_sub, ln_mul, nI_sub, nI_mul, nI_add, nI_lt_iff, nI_le_iff, nI_inj, nI_num, mq_ix, nI_1, nl_mul, nl_div, hob, hm, p1, hob1, hca1, p2]
        refine mq_wk ?_ p3
        simp [mq_sub, mj_lk]
    · obtain ⟨M2, p2, r2, f2⟩ := v_put (d := d) (k := i) h.ce (show i < s.1.length by omega) 255
      have k2 : ks M2 κ ((s.1.set i 255, (s.2.1, (s.2.2.1, (s.2.2.2.1, (s.2.2.2.2.1, (s.2.2.2.2.2.1, (s.2.2.2.2.2.2.1, s.2.2.2.2.2.2.2))))))) : Fl) r := h.flash r2 (f2.mono (by simp)) rfl
      obtain ⟨M3, p3, r3, f3⟩ := ih (i + 1) _ M2 (by omega) k2 hon (by simp [hfl])
      refine ⟨M3, ?_, by rw [fs_eb, if_neg hm]; exact r3, (kf.of f2 (by simp)).tr f3⟩
      rw [fs_eb, if_neg hm]
      simp (disch := (first | omega | decide)) [s59_0, s59_1, s59_4, s59_5, s59_7, s59_8, s59_9, s59_10, s59_13, s59_14, s59_17, s59_18, s59_20, s59_21, s59_24, s59_25, s59_28, s59_31, s59_32, s59_33, s59_34, s59_37, s59_38, s59_41, s59_44, s59_47, s59_50, s59_51, mq_k0s, mq_k1s, mq_k2s, mq_k4s, mq_k5s, mq_k5n, mq_k5as, mq_k6s, mj_pu, mj_lo, mj_br, mj_hr, mj_hw, mq_gf, mq_len, mq_al, mq_pf, mq_ok, mj_re, mq_lkm, mq_lkn, mj_ldi, mj_ldl, mj_lda, mj_ii, mj_ll, mj_li, mj_i1, ms_1, ms_2, f1_n, f1_i, f1_r, f1_u, f1_l, f2_n, f2_i, f2_r, f2_u, f2_l, mj_tg, mj_c1, mj_c2, mj_ar, mj_aw, mq_cb, mq_oi, mj_rm, Value.category, -getElem?_pos, List.getElem?_cons_zero, decide_eq_true, decide_eq_false, nl_lt, nl_le, ln_lt, ln_le, nl_eq, ln_eq, nl_add, ln_add, nl_sub, ln_mul, nI_sub, nI_mul, nI_add, nI_lt_iff, nI_le_iff, nI_inj, nI_num, mq_ix, nI_1, nl_mul, nl_div, hob, hm, hca, p2]
      refine mq_wk ?_ p3
      simp [mq_sub, mj_lk]
theorem st_erase {d κ w : Nat} {s : Fl} {r : List Int32} {M : mj_H} (h : ks M κ s r) (hw : w ≤ 1) (hon : s.2.1 = true) (hfl : s.1.length = 512) : ∃ M', mj_V (d + 2) 59 [.ref (κ + 1), .int (nI w)] M = some (some (.int (on1 (fs_era 4 (w * 256) s).2)), M') ∧ ks M' κ (fs_era 4 (w * 256) s).1 r ∧ kf κ M M' := by
  obtain ⟨M1, p1, r1, f1⟩ := l_erase (d := d) hw 256 (w * 256) s M (by omega) h hon hfl
  rw [show 256 = 64 * 4 from rfl, fs_eb_era 4 _ _ (by omega)] at p1 r1
  refine ⟨M1, ?_, r1, f1⟩
  simp (disch := (first | omega | decide)) [c59, s59_0, s59_1, s59_4, s59_5, s59_7, s59_8, s59_9, s59_10, s59_13, s59_14, s59_17, s59_18, s59_20, s59_21, s59_24, s59_25, s59_28, s59_31, s59_32, s59_33, s59_34, s59_37, s59_38, s59_41, s59_44, s59_47, s59_50, s59_51, mq_k0s, mq_k1s, mq_k2s, mq_k4s, mq_k5s, mq_k5n, mq_k5as, mq_k6s, mj_pu, mj_lo, mj_br, mj_hr, mj_hw, mq_gf, mq_len, mq_al, mq_pf, mq_ok, mj_re, mq_lkm, mq_lkn, mj_ldi, mj_ldl, mj_lda, mj_ii, mj_ll, mj_li, mj_i1, ms_1, ms_2, f1_n, f1_i, f1_r, f1_u, f1_l, f2_n, f2_i, f2_r, f2_u, f2_l, mj_tg, mj_c1, mj_c2, mj_ar, mj_aw, mq_cb, mq_oi, mj_rm, Value.category, -getElem?_pos, List.getElem?_cons_zero, decide_eq_true, decide_eq_false, nl_lt, nl_le, ln_lt, ln_le, nl_eq, ln_eq, nl_add, ln_add, nl_sub, ln_mul, nI_sub, nI_mul, nI_add, nI_lt_iff, nI_le_iff, nI_inj, nI_num, mq_ix, nI_1, nl_mul, nl_div]
  exact p1
theorem bt_app_in {cap : Nat} {xs ys : List Int32} (h : xs.length + ys.length ≤ cap) : bt_app cap xs ys = xs ++ ys := List.take_of_length_le (by simp; omega)
theorem st_header {d κ : Nat} {s : Fl} {r : List Int32} {M : mj_H} (h : ks M κ s r) (g : Nat) : ∃ M', mj_V (d + 2) 41 [.ref (κ + 1), .int (nI g)] M = some (none, M') ∧ ks M' κ s (hdr g) ∧ kf κ M M' := by
  have hob := h.ob
  unfold so at hob
  obtain ⟨M1, p1, r1, f1⟩ := v_clear (d := d) h.rb
  obtain ⟨M2, p2, r2, f2⟩ := v_pushLow (d := d) (w := (nI g).toInt64) (m := 2) (by decide) r1
  rw [bt_app_in (by simp [bt_low_len])] at r2
  obtain ⟨w, p3, e3⟩ := v_check (d := d) (p := 0) (n := 2) r2 (by decide)
  have e3 := e3 (by simp [bt_low_len])
  rw [List.drop_zero, List.take_of_length_le (by simp [bt_low_len])] at e3
  obtain ⟨M4, p4, r4, f4⟩ := v_pushLow (d := d) (w := w.toInt64) (m := 2) (by decide) r2
  rw [bt_app_in (by simp [bt_low_len])] at r4
  have fa := f1.mono (S' := [κ + 4, κ + 5]) (by simp)
  have ft := (fa.tr f2).tr f4
  have e : [] ++ bt_low (nI g).toInt64 2 ++ bt_low w.toInt64 2 = hdr g := by rw [e3]; rfl
  rw [e] at r4
  refine ⟨M4, ?_, h.record r4 ft, kf.of ft (by simp)⟩
  have o1 : M1[κ + 1]? = M[κ + 1]? := fa.2 _ (by simp)
  have o2 : M2[κ + 1]? = M[κ + 1]? := (fa.tr f2).2 _ (by simp)
  rw [hob] at o1 o2
  have a0 := h.rb.2.2.2.2.2.1
  have a1 := r1.2.2.2.2.2.1
  have a2 := r2.2.2.2.2.2.1
  rw [show nI 2 = 2 from rfl] at p2 p3 p4
  rw [nI_0] at p3
  simp (disch := (first | omega | decide)) [c41, s41_0, s41_1, s41_4, s41_7, s41_8, s41_11, s41_12, s41_13, s41_14, s41_17, s41_18, s41_21, s41_22, s41_25, s41_26, s41_27, s41_30, s41_31, s41_32, s41_35, mq_k0s, mq_k1s, mq_k2s, mq_k4s, mq_k5s, mq_k5n, mq_k5as, mq_k6s, mj_pu, mj_lo, mj_br, mj_hr, mj_hw, mq_gf, mq_len, mq_al, mq_pf, mq_ok, mj_re, mq_lkm, mq_lkn, mj_ldi, mj_ldl, mj_lda, mj_ii, mj_ll, mj_li, mj_i1, ms_1, ms_2, f1_n, f1_i, f1_r, f1_u, f1_l, f2_n, f2_i, f2_r, f2_u, f2_l, mj_tg, mj_c1, mj_c2, mj_ar, mj_aw, mq_cb, mq_oi, mj_rm, Value.category, -getElem?_pos, List.getElem?_cons_zero, decide_eq_true, decide_eq_false, nl_lt, nl_le, ln_lt, ln_le, nl_eq, ln_eq, nl_add, ln_add, nl_sub, ln_mul, nI_sub, nI_mul, nI_add, nI_lt_iff, nI_le_iff, nI_inj, nI_num, mq_ix, nI_1, nl_mul, nl_div, hob, o1, o2, a0, a1, a2, p1, p2, p3, p4]
/-- one byte goes behind the record -/
theorem rb_push {d κ : Nat} {s : Fl} {r : List Int32} {M : mj_H} (h : ks M κ s r) (hl : r.length < 24) (v : Int32) : ∃ M', mj_V (d + 1) 45 [.ref (κ + 4), .int v] M = some (none, M') ∧ ks M' κ s (r ++ [v &&& 255]) ∧ mq_fr [κ + 4, κ + 5] M M' := by
  obtain ⟨M1, p1, r1, f1⟩ := v_push (d := d) h.rb v
  rw [bt_app_in (by simp; omega)] at r1
  exact ⟨M1, p1, h.record r1 f1, f1⟩
theorem rb_low {d κ m : Nat} {s : Fl} {r : List Int32} {M : mj_H} (h : ks M κ s r) (hl : r.length + m ≤ 24) (w : Int64) : ∃ M', mj_V (d + 1) 10 [.ref (κ + 4), .long w, .int (nI m)] M = some (none, M') ∧ ks M' κ s (r ++ bt_low w m) ∧ mq_fr [κ + 4, κ + 5] M M' := by
  obtain ⟨M1, p1, r1, f1⟩ := v_pushLow (d := d) (w := w) (m := m) (by omega) h.rb
  rw [bt_app_in (by rw [bt_low_len]; omega)] at r1
  exact ⟨M1, p1, h.record r1 f1, f1⟩
theorem rb_clear {d κ : Nat} {s : Fl} {r : List Int32} {M : mj_H} (h : ks M κ s r) : ∃ M', mj_V (d + 1) 12 [.ref (κ + 4)] M = some (none, M') ∧ ks M' κ s [] ∧ mq_fr [κ + 4, κ + 5] M M' := by
  obtain ⟨M1, p1, r1, f1⟩ := v_clear (d := d) h.rb
  have f2 := f1.mono (S' := [κ + 4, κ + 5]) (by simp)
  exact ⟨M1, p1, h.record r1 f2, f2⟩
theorem n4 : nI 4 = 4 := rfl
theorem a3_3 : (3 : Int32) &&& 255 = 3 := by decide
theorem a3_1 : (1 : Int32) &&& 255 = 1 := by decide
theorem a3_4 : (4 : Int32) &&& 255 = 4 := by decide
theorem a3_5 : (5 : Int32) &&& 255 = 5 := by decide
theorem a3_8 : (8 : Int32) &&& 255 = 8 := by decide
theorem n8 : nI 8 = 8 := rfl
def rcn (k a b : Int32) : List Int32 := if k = 3 then rc 3 [a &&& 255] else if k = 4 then rcCount a b else rc k (b4 a)
theorem cs_end {d κ : Nat} {s : Fl} {r : List Int32} {M : mj_H} (h : ks M κ s r) (hl : r.length + 2 ≤ 24) (L : mj_L) (hL : mj_lk L 0 = some (.ref (κ + 1))) : ∃ M', mj_Rn (d + 1) mj_m44 195 L [] M = some (none, M') ∧ ks M' κ s (r ++ ck2 r) ∧ mq_fr [κ + 4, κ + 5] M M' := by
  have hob := h.ob
  unfold so at hob
  have v1 := v_size (d := d) h.rb
  obtain ⟨w, p3, e3⟩ := v_check (d := d) (p := 0) (n := r.length) h.rb (by omega)
  have e3 := e3 (by omega)
  rw [List.drop_zero, List.take_of_length_le (by omega)] at e3
  obtain ⟨M4, p4, r4, f4⟩ := rb_low (d := d) (m := 2) h (by omega) w.toInt64
  rw [e3] at r4
  refine ⟨M4, ?_, r4, f4⟩
  have a0 := h.rb.2.2.2.2.2.1
  rw [show nI 2 = 2 from rfl] at p4
  rw [nI_0] at p3
  have hL' : mq_sub [(0, .ref (κ + 1))] L := by
    intro q hq
    simp at hq
    rw [hq]; exact hL
  refine mq_wk hL' ?_
  simp (disch := (first | omega | decide)) [s44_0, s44_1, s44_4, s44_7, s44_8, s44_11, s44_12, s44_15, s44_16, s44_44, s44_45, s44_48, s44_49, s44_52, s44_53, s44_56, s44_57, s44_60, s44_63, s44_64, s44_67, s44_69, s44_72, s44_73, s44_76, s44_77, s44_78, s44_79, s44_82, s44_83, s44_86, s44_87, s44_88, s44_89, s44_92, s44_95, s44_97, s44_100, s44_101, s44_104, s44_106, s44_108, s44_111, s44_112, s44_115, s44_116, s44_119, s44_121, s44_124, s44_125, s44_126, s44_129, s44_130, s44_133, s44_135, s44_138, s44_139, s44_140, s44_143, s44_144, s44_147, s44_149, s44_152, s44_153, s44_154, s44_157, s44_158, s44_161, s44_163, s44_166, s44_168, s44_171, s44_174, s44_177, s44_178, s44_181, s44_182, s44_185, s44_186, s44_189, s44_190, s44_191, s44_192, s44_195, s44_196, s44_199, s44_200, s44_203, s44_204, s44_205, s44_208, s44_211, s44_214, s44_215, s44_216, s44_219, mq_k0s, mq_k1s, mq_k2s, mq_k4s, mq_k5s, mq_k5n, mq_k5as, mq_k6s, mj_pu, mj_lo, mj_br, mj_hr, mj_hw, mq_gf, mq_len, mq_al, mq_pf, mq_ok, mj_re, mq_lkm, mq_lkn, mj_ldi, mj_ldl, mj_lda, mj_ii, mj_ll, mj_li, mj_i1, ms_1, ms_2, f1_n, f1_i, f1_r, f1_u, f1_l, f2_n, f2_i, f2_r, f2_u, f2_l, mj_tg, mj_c1, mj_c2, mj_ar, mj_aw, mq_cb, mq_oi, mj_rm, Value.category, -getElem?_pos, List.getElem?_cons_zero, decide_eq_true, decide_eq_false, nl_lt, nl_le, ln_lt, ln_le, nl_eq, ln_eq, nl_add, ln_add, nl_sub, ln_mul, nI_sub, nI_mul, nI_add, nI_lt_iff, nI_le_iff, nI_inj, nI_num, mq_ix, nI_1, nl_mul, nl_div, hob, a0, v1, p3, p4]
/-- a record without a credential -/
theorem st_comp {d κ : Nat} {s : Fl} {r : List Int32} {M : mj_H} (h : ks M κ s r) (k a b : Int32) (hk : k = 1 ∨ k = 2 ∨ k = 3 ∨ k = 4) : ∃ M', mj_V (d + 2) 44 [.ref (κ + 1), .int k, .int a, .int b, .null] M = some (none, M') ∧ ks M' κ s (rcn k a b) ∧ mq_fr [κ + 4, κ + 5] M M' := by
  have hob := h.ob
  unfold so at hob
  obtain ⟨M1, p1, r1, f1⟩ := rb_clear (d := d) h
  obtain ⟨M2, p2, r2, f2⟩ := rb_push (d := d) r1 (by simp) k
  have o1 := r1.ob
  have o2 := r2.ob
  unfold so at o1 o2
  have a0 := h.rb.2.2.2.2.2.1
  have a1 := r1.rb.2.2.2.2.2.1
  have a2 := r2.rb.2.2.2.2.2.1
  by_cases hk12 : k = 1 ∨ k = 2
  · obtain ⟨M3, p3, r3, f3⟩ := rb_push (d := d) r2 (by simp) 4
    obtain ⟨M4, p4, r4, f4⟩ := rb_low (d := d) (m := 4) r3 (by simp) a.toInt64
    obtain ⟨M5, p5, r5, f5⟩ := cs_end (d := d) r4 (by simp [bt_low_len]) [(0, .ref (κ + 1)), (1, .int k), (2, .int a), (3, .int b), (4, .null)] rfl
    have o3 := r3.ob
    unfold so at o3
    have a3 := r3.rb.2.2.2.2.2.1
    rw [n4] at p4
    refine ⟨M5, ?_, ?_, (((f1.tr f2).tr f3).tr f4).tr f5⟩
    · rcases hk12 with rfl | rfl <;> simp (disch := (first | omega | decide)) [c44n4, s44_0, s44_1, s44_4, s44_7, s44_8, s44_11, s44_12, s44_15, s44_16, s44_44, s44_45, s44_48, s44_49, s44_52, s44_53, s44_56, s44_57, s44_60, s44_63, s44_64, s44_67, s44_69, s44_72, s44_73, s44_76, s44_77, s44_78, s44_79, s44_82, s44_83, s44_86, s44_87, s44_88, s44_89, s44_92, s44_95, s44_97, s44_100, s44_101, s44_104, s44_106, s44_108, s44_111, s44_112, s44_115, s44_116, s44_119, s44_121, s44_124, s44_125, s44_126, s44_129, s44_130, s44_133, s44_135, s44_138, s44_139, s44_140, s44_143, s44_144, s44_147, s44_149, s44_152, s44_153, s44_154, s44_157, s44_158, s44_161, s44_163, s44_166, s44_168, s44_171, s44_174, s44_177, s44_178, s44_181, s44_182, s44_185, s44_186, s44_189, s44_190, s44_191, s44_192, s44_196, s44_199, s44_200, s44_203, s44_204, s44_205, s44_208, s44_211, s44_214, s44_215, s44_216, s44_219, mq_k0s, mq_k1s, mq_k2s, mq_k4s, mq_k5s, mq_k5n, mq_k5as, mq_k6s, mj_pu, mj_lo, mj_br, mj_hr, mj_hw, mq_gf, mq_len, mq_al, mq_pf, mq_ok, mj_re, mq_lkm, mq_lkn, mj_ldi, mj_ldl, mj_lda, mj_ii, mj_ll, mj_li, mj_i1, ms_1, ms_2, f1_n, f1_i, f1_r, f1_u, f1_l, f2_n, f2_i, f2_r, f2_u, f2_l, mj_tg, mj_c1, mj_c2, mj_ar, mj_aw, mq_cb, mq_oi, mj_rm, Value.category, -getElem?_pos, List.getElem?_cons_zero, decide_eq_true, decide_eq_false, nl_lt, nl_le, ln_lt, ln_le, nl_eq, ln_eq, nl_add, ln_add, nl_sub, ln_mul, nI_sub, nI_mul, nI_add, nI_lt_iff, nI_le_iff, nI_inj, nI_num, mq_ix, nI_1, nl_mul, nl_div, hob, o1, o2, o3, a0, a1, a2, a3, p1, p2, p3, p4] <;> exact p5
    · have e : [] ++ [k &&& 255] ++ [(4 : Int32) &&& 255] ++ bt_low a.toInt64 4 = k :: nI (b4 a).length :: b4 a := by
        rw [b4_low, b4_len]
        rcases hk12 with rfl | rfl <;> rfl
      rw [e] at r5
      have e2 : rcn k a b = rc k (b4 a) := by rcases hk12 with rfl | rfl <;> rfl
      rw [e2]; exact r5
  · by_cases hk3 : k = 3
    · subst hk3
      obtain ⟨M3, p3, r3, f3⟩ := rb_push (d := d) r2 (by simp) 1
      obtain ⟨M4, p4, r4, f4⟩ := rb_push (d := d) r3 (by simp) a
      obtain ⟨M5, p5, r5, f5⟩ := cs_end (d := d) r4 (by simp) [(0, .ref (κ + 1)), (1, .int 3), (2, .int a), (3, .int b), (4, .null)] rfl
      have o3 := r3.ob
      unfold so at o3
      have a3 := r3.rb.2.2.2.2.2.1
      have e : [] ++ [(3 : Int32) &&& 255] ++ [(1 : Int32) &&& 255] ++ [a &&& 255] = 3 :: nI [a &&& 255].length :: [a &&& 255] := by rw [a3_3, a3_1]; rfl
      rw [e] at r5
      refine ⟨M5, ?_, r5, (((f1.tr f2).tr f3).tr f4).tr f5⟩
      simp (disch := (first | omega | decide)) [c44n4, s44_0, s44_1, s44_4, s44_7, s44_8, s44_11, s44_12, s44_15, s44_16, s44_44, s44_45, s44_48, s44_49, s44_52, s44_53, s44_56, s44_57, s44_60, s44_63, s44_64, s44_67, s44_69, s44_72, s44_73, s44_76, s44_77, s44_78, s44_79, s44_82, s44_83, s44_86, s44_87, s44_88, s44_89, s44_92, s44_95, s44_97, s44_100, s44_101, s44_104, s44_106, s44_108, s44_111, s44_112, s44_115, s44_116, s44_119, s44_121, s44_124, s44_125, s44_126, s44_129, s44_130, s44_133, s44_135, s44_138, s44_139, s44_140, s44_143, s44_144, s44_147, s44_149, s44_152, s44_153, s44_154, s44_157, s44_158, s44_161, s44_163, s44_166, s44_168, s44_171, s44_174, s44_177, s44_178, s44_181, s44_182, s44_185, s44_186, s44_189, s44_190, s44_191, s44_192, s44_196, s44_199, s44_200, s44_203, s44_204, s44_205, s44_208, s44_211, s44_214, s44_215, s44_216, s44_219, mq_k0s, mq_k1s, mq_k2s, mq_k4s, mq_k5s, mq_k5n, mq_k5as, mq_k6s, mj_pu, mj_lo, mj_br, mj_hr, mj_hw, mq_gf, mq_len, mq_al, mq_pf, mq_ok, mj_re, mq_lkm, mq_lkn, mj_ldi, mj_ldl, mj_lda, mj_ii, mj_ll, mj_li, mj_i1, ms_1, ms_2, f1_n, f1_i, f1_r, f1_u, f1_l, f2_n, f2_i, f2_r, f2_u, f2_l, mj_tg, mj_c1, mj_c2, mj_ar, mj_aw, mq_cb, mq_oi, mj_rm, Value.category, -getElem?_pos, List.getElem?_cons_zero, decide_eq_true, decide_eq_false, nl_lt, nl_le, ln_lt, ln_le, nl_eq, ln_eq, nl_add, ln_add, nl_sub, ln_mul, nI_sub, nI_mul, nI_add, nI_lt_iff, nI_le_iff, nI_inj, nI_num, mq_ix, nI_1, nl_mul, nl_div, hob, o1, o2, o3, a0, a1, a2, a3, p1, p2, p3, p4]
      exact p5
    · have hk4 : k = 4 := by rcases hk with h | h | h | h <;> first | exact h | exact absurd h hk3 | exact absurd (Or.inl h) hk12 | exact absurd (Or.inr h) hk12
      subst hk4
      obtain ⟨M3, p3, r3, f3⟩ := rb_push (d := d) r2 (by simp) 8
      obtain ⟨M4, p4, r4, f4⟩ := rb_low (d := d) (m := 4) r3 (by simp) a.toInt64
      obtain ⟨M5, p5, r5, f5⟩ := rb_low (d := d) (m := 4) r4 (by simp [bt_low_len]) b.toInt64
      obtain ⟨M6, p6, r6, f6⟩ := cs_end (d := d) r5 (by simp [bt_low_len]) [(0, .ref (κ + 1)), (1, .int 4), (2, .int a), (3, .int b), (4, .null)] rfl
      have o3 := r3.ob
      have o4 := r4.ob
      unfold so at o3 o4
      have a3 := r3.rb.2.2.2.2.2.1
      have a4 := r4.rb.2.2.2.2.2.1
      rw [n4] at p4 p5
      refine ⟨M6, ?_, ?_, ((((f1.tr f2).tr f3).tr f4).tr f5).tr f6⟩
      · simp (disch := (first | omega | decide)) [c44n4, s44_0, s44_1, s44_4, s44_7, s44_8, s44_11, s44_12, s44_15, s44_16, s44_44, s44_45, s44_48, s44_49, s44_52, s44_53, s44_56, s44_57, s44_60, s44_63, s44_64, s44_67, s44_69, s44_72, s44_73, s44_76, s44_77, s44_78, s44_79, s44_82, s44_83, s44_86, s44_87, s44_88, s44_89, s44_92, s44_95, s44_97, s44_100, s44_101, s44_104, s44_106, s44_108, s44_111, s44_112, s44_115, s44_116, s44_119, s44_121, s44_124, s44_125, s44_126, s44_129, s44_130, s44_133, s44_135, s44_138, s44_139, s44_140, s44_143, s44_144, s44_147, s44_149, s44_152, s44_153, s44_154, s44_157, s44_158, s44_161, s44_163, s44_166, s44_168, s44_171, s44_174, s44_177, s44_178, s44_181, s44_182, s44_185, s44_186, s44_189, s44_190, s44_191, s44_192, s44_196, s44_199, s44_200, s44_203, s44_204, s44_205, s44_208, s44_211, s44_214, s44_215, s44_216, s44_219, mq_k0s, mq_k1s, mq_k2s, mq_k4s, mq_k5s, mq_k5n, mq_k5as, mq_k6s, mj_pu, mj_lo, mj_br, mj_hr, mj_hw, mq_gf, mq_len, mq_al, mq_pf, mq_ok, mj_re, mq_lkm, mq_lkn, mj_ldi, mj_ldl, mj_lda, mj_ii, mj_ll, mj_li, mj_i1, ms_1, ms_2, f1_n, f1_i, f1_r, f1_u, f1_l, f2_n, f2_i, f2_r, f2_u, f2_l, mj_tg, mj_c1, mj_c2, mj_ar, mj_aw, mq_cb, mq_oi, mj_rm, Value.category, -getElem?_pos, List.getElem?_cons_zero, decide_eq_true, decide_eq_false, nl_lt, nl_le, ln_lt, ln_le, nl_eq, ln_eq, nl_add, ln_add, nl_sub, ln_mul, nI_sub, nI_mul, nI_add, nI_lt_iff, nI_le_iff, nI_inj, nI_num, mq_ix, nI_1, nl_mul, nl_div, hob, o1, o2, o3, o4, a0, a1, a2, a3, a4, p1, p2, p3, p4, p5]
        exact p6
      · rw [b4_low, b4_low, a3_4, a3_8, List.append_assoc _ (b4 a)] at r6; exact r6
/-- a record of a credential's count -/
theorem st_comp4 {d κ x : Nat} {s : Fl} {r : List Int32} {M : mj_H} (h : ks M κ s r) (a b : Int32) : ∃ M', mj_V (d + 2) 44 [.ref (κ + 1), .int 4, .int a, .int b, .ref x] M = some (none, M') ∧ ks M' κ s (rcCount a b) ∧ mq_fr [κ + 4, κ + 5] M M' := by
  have hob := h.ob
  unfold so at hob
  obtain ⟨M1, p1, r1, f1⟩ := rb_clear (d := d) h
  obtain ⟨M2, p2, r2, f2⟩ := rb_push (d := d) r1 (by simp) 4
  obtain ⟨M3, p3, r3, f3⟩ := rb_push (d := d) r2 (by simp) 8
  obtain ⟨M4, p4, r4, f4⟩ := rb_low (d := d) (m := 4) r3 (by simp) a.toInt64
  obtain ⟨M5, p5, r5, f5⟩ := rb_low (d := d) (m := 4) r4 (by simp [bt_low_len]) b.toInt64
  obtain ⟨M6, p6, r6, f6⟩ := cs_end (d := d) r5 (by simp [bt_low_len]) [(0, .ref (κ + 1)), (1, .int 4), (2, .int a), (3, .int b), (4, .ref x)] rfl
  have o1 := r1.ob
  have o2 := r2.ob
  have o3 := r3.ob
  have o4 := r4.ob
  unfold so at o1 o2 o3 o4
  have a0 := h.rb.2.2.2.2.2.1
  have a1 := r1.rb.2.2.2.2.2.1
  have a2 := r2.rb.2.2.2.2.2.1
  have a3 := r3.rb.2.2.2.2.2.1
  have a4 := r4.rb.2.2.2.2.2.1
  rw [n4] at p4 p5
  refine ⟨M6, ?_, ?_, ((((f1.tr f2).tr f3).tr f4).tr f5).tr f6⟩
  · simp (disch := (first | omega | decide)) [c44, s44_0, s44_1, s44_4, s44_7, s44_8, s44_11, s44_12, s44_15, s44_16, s44_44, s44_45, s44_48, s44_49, s44_52, s44_53, s44_56, s44_57, s44_60, s44_63, s44_64, s44_67, s44_69, s44_72, s44_73, s44_76, s44_77, s44_78, s44_79, s44_82, s44_83, s44_86, s44_87, s44_88, s44_89, s44_92, s44_95, s44_97, s44_100, s44_101, s44_104, s44_106, s44_108, s44_111, s44_112, s44_115, s44_116, s44_119, s44_121, s44_124, s44_125, s44_126, s44_129, s44_130, s44_133, s44_135, s44_138, s44_139, s44_140, s44_143, s44_144, s44_147, s44_149, s44_152, s44_153, s44_154, s44_157, s44_158, s44_161, s44_163, s44_166, s44_168, s44_171, s44_174, s44_177, s44_178, s44_181, s44_182, s44_185, s44_186, s44_189, s44_190, s44_191, s44_192, s44_196, s44_199, s44_200, s44_203, s44_204, s44_205, s44_208, s44_211, s44_214, s44_215, s44_216, s44_219, mq_k0s, mq_k1s, mq_k2s, mq_k4s, mq_k5s, mq_k5n, mq_k5as, mq_k6s, mj_pu, mj_lo, mj_br, mj_hr, mj_hw, mq_gf, mq_len, mq_al, mq_pf, mq_ok, mj_re, mq_lkm, mq_lkn, mj_ldi, mj_ldl, mj_lda, mj_ii, mj_ll, mj_li, mj_i1, ms_1, ms_2, f1_n, f1_i, f1_r, f1_u, f1_l, f2_n, f2_i, f2_r, f2_u, f2_l, mj_tg, mj_c1, mj_c2, mj_ar, mj_aw, mq_cb, mq_oi, mj_rm, Value.category, -getElem?_pos, List.getElem?_cons_zero, decide_eq_true, decide_eq_false, nl_lt, nl_le, ln_lt, ln_le, nl_eq, ln_eq, nl_add, ln_add, nl_sub, ln_mul, nI_sub, nI_mul, nI_add, nI_lt_iff, nI_le_iff, nI_inj, nI_num, mq_ix, nI_1, nl_mul, nl_div, hob, o1, o2, o3, o4, a0, a1, a2, a3, a4, p1, p2, p3, p4, p5]
    exact p6
  · rw [b4_low, b4_low, a3_4, a3_8, List.append_assoc _ (b4 a)] at r6; exact r6
/-- a credential's record -/
theorem st_comp5 {d κ x : Nat} {s : Fl} {r : List Int32} {M : mj_H} {c : Cr} (h : ks M κ s r) (hx : M[x]? = some (cc c)) (hxn : x ≠ κ + 4 ∧ x ≠ κ + 5) (hw : c.2.2.2.1.length ≤ 8) (h8 : ∀ v ∈ c.2.2.2.1, v &&& 255 = v) (a b : Int32) : ∃ M', mj_V (d + 2) 44 [.ref (κ + 1), .int 5, .int a, .int b, .ref x] M = some (none, M') ∧ ks M' κ s c.row ∧ mq_fr [κ + 4, κ + 5] M M' := by
  have hob := h.ob
  unfold so at hob
  unfold cc at hx
  obtain ⟨M1, p1, r1, f1⟩ := rb_clear (d := d) h
  obtain ⟨M2, p2, r2, f2⟩ := rb_push (d := d) r1 (by simp) 5
  obtain ⟨M3, p3, r3, f3⟩ := rb_push (d := d) r2 (by simp) (nI (12 + c.2.2.2.1.length))
  obtain ⟨M4, p4, r4, f4⟩ := rb_low (d := d) (m := 4) r3 (by simp) c.1.toInt64
  obtain ⟨M5, p5, r5, f5⟩ := rb_low (d := d) (m := 4) r4 (by simp [bt_low_len]) c.2.1.toInt64
  obtain ⟨M6, p6, r6, f6⟩ := rb_low (d := d) (m := 4) r5 (by simp [bt_low_len]) c.2.2.1.toInt64
  obtain ⟨M7, p7, r7, f7⟩ := rb_low (d := d) (m := c.2.2.2.1.length) r6 (by simp [bt_low_len]; omega) (bt_lo c.2.2.2.1)
  obtain ⟨M8, p8, r8, f8⟩ := cs_end (d := d) r7 (by simp [bt_low_len]; omega) [(0, .ref (κ + 1)), (1, .int 5), (2, .int a), (3, .int b), (4, .ref x)] rfl
  have xx : ∀ {M'}, mq_fr [κ + 4, κ + 5] M M' → M'[x]? = M[x]? := fun hf => hf.2 x (by simp [hxn])
  have x2 := xx (f1.tr f2)
  have x3 := xx ((f1.tr f2).tr f3)
  have x4 := xx (((f1.tr f2).tr f3).tr f4)
  have x5 := xx ((((f1.tr f2).tr f3).tr f4).tr f5)
  have x6 := xx (((((f1.tr f2).tr f3).tr f4).tr f5).tr f6)
  rw [hx] at x2 x3 x4 x5 x6
  have o1 := r1.ob
  have o2 := r2.ob
  have o3 := r3.ob
  have o4 := r4.ob
  have o5 := r5.ob
  have o6 := r6.ob
  unfold so at o1 o2 o3 o4 o5 o6
  have a0 := h.rb.2.2.2.2.2.1
  have a1 := r1.rb.2.2.2.2.2.1
  have a2 := r2.rb.2.2.2.2.2.1
  have a3 := r3.rb.2.2.2.2.2.1
  have a4 := r4.rb.2.2.2.2.2.1
  have a5 := r5.rb.2.2.2.2.2.1
  have a6 := r6.rb.2.2.2.2.2.1
  rw [n4] at p4 p5 p6
  refine ⟨M8, ?_, ?_, ((((((f1.tr f2).tr f3).tr f4).tr f5).tr f6).tr f7).tr f8⟩
  · simp (disch := (first | omega | decide)) [c44, s44_0, s44_1, s44_4, s44_7, s44_8, s44_11, s44_12, s44_15, s44_16, s44_44, s44_45, s44_48, s44_49, s44_52, s44_53, s44_56, s44_57, s44_60, s44_63, s44_64, s44_67, s44_69, s44_72, s44_73, s44_76, s44_77, s44_78, s44_79, s44_82, s44_83, s44_86, s44_87, s44_88, s44_89, s44_92, s44_95, s44_97, s44_100, s44_101, s44_104, s44_106, s44_108, s44_111, s44_112, s44_115, s44_116, s44_119, s44_121, s44_124, s44_125, s44_126, s44_129, s44_130, s44_133, s44_135, s44_138, s44_139, s44_140, s44_143, s44_144, s44_147, s44_149, s44_152, s44_153, s44_154, s44_157, s44_158, s44_161, s44_163, s44_166, s44_168, s44_171, s44_174, s44_177, s44_178, s44_181, s44_182, s44_185, s44_186, s44_189, s44_190, s44_191, s44_192, s44_196, s44_199, s44_200, s44_203, s44_204, s44_205, s44_208, s44_211, s44_214, s44_215, s44_216, s44_219, mq_k0s, mq_k1s, mq_k2s, mq_k4s, mq_k5s, mq_k5n, mq_k5as, mq_k6s, mj_pu, mj_lo, mj_br, mj_hr, mj_hw, mq_gf, mq_len, mq_al, mq_pf, mq_ok, mj_re, mq_lkm, mq_lkn, mj_ldi, mj_ldl, mj_lda, mj_ii, mj_ll, mj_li, mj_i1, ms_1, ms_2, f1_n, f1_i, f1_r, f1_u, f1_l, f2_n, f2_i, f2_r, f2_u, f2_l, mj_tg, mj_c1, mj_c2, mj_ar, mj_aw, mq_cb, mq_oi, mj_rm, Value.category, -getElem?_pos, List.getElem?_cons_zero, decide_eq_true, decide_eq_false, nl_lt, nl_le, ln_lt, ln_le, nl_eq, ln_eq, nl_add, ln_add, nl_sub, ln_mul, nI_sub, nI_mul, nI_add, nI_lt_iff, nI_le_iff, nI_inj, nI_num, mq_ix, nI_1, nl_mul, nl_div, hob, o1, o2, o3, o4, o5, o6, a0, a1, a2, a3, a4, a5, a6, x2, x3, x4, x5, x6, p1, p2, p3, p4, p5, p6, p7]
    exact p8
  · rw [b4_low, b4_low, b4_low, bt_lo_low _ h8 hw] at r8
    have e : [] ++ [(5 : Int32) &&& 255] ++ [nI (12 + c.2.2.2.1.length) &&& 255] ++ b4 c.1 ++ b4 c.2.1 ++ b4 c.2.2.1 ++ c.2.2.2.1 = 5 :: nI (b4 c.1 ++ (b4 c.2.1 ++ (b4 c.2.2.1 ++ c.2.2.2.1))).length :: (b4 c.1 ++ (b4 c.2.1 ++ (b4 c.2.2.1 ++ c.2.2.2.1))) := by
      have e1 : nI (12 + c.2.2.2.1.length) &&& 255 = nI (12 + c.2.2.2.1.length) := by
        have : ∀ k : Nat, k ≤ 8 → nI (12 + k) &&& 255 = nI (12 + k) := by decide
        exact this _ hw
      have e2 : (b4 c.1 ++ (b4 c.2.1 ++ (b4 c.2.2.1 ++ c.2.2.2.1))).length = 12 + c.2.2.2.1.length := by simp [b4_len]; omega
      rw [e1, e2, a3_5]
      simp [List.append_assoc]
    rw [e] at r8
    exact r8
end
