/- d5.mpower -/
section
set_option maxRecDepth 512
/-! The model: power, commands. -/
/-- a flash that can be woken -/
def fsI (s : Fl) : Prop := (∀ v ∈ s.1, v &&& 255 = v) ∧ ((fs_gg s.1 0).isSome ∨ (fs_gg s.1 1).isSome) ∧ (pzP okS (fs_ar s.1 (fs_use s.1).1) 256 4 St.none) ∧ ((fs_up s).2.2.2.2.2.1 + 1 < 65536) ∧ ((fs_up s).2.2.2.2.2.2.2.2.2.1 &&& 255 = (fs_up s).2.2.2.2.2.2.2.2.2.1) ∧ (4 + (fs_up s).2.2.2.2.2.2.2.recs.length ≤ 256) ∧ ((fs_up s).2.2.2.2.2.2.2.2.2.2.2.length ≤ 12)
theorem fsI.h8 {s : Fl} (hh_ : fsI s) : ∀ v ∈ s.1, v &&& 255 = v := hh_.1
theorem fsI.hg {s : Fl} (hh_ : fsI s) : (fs_gg s.1 0).isSome ∨ (fs_gg s.1 1).isSome := hh_.2.1
theorem fsI.hP {s : Fl} (hh_ : fsI s) : pzP okS (fs_ar s.1 (fs_use s.1).1) 256 4 St.none := hh_.2.2.1
theorem fsI.gn {s : Fl} (hh_ : fsI s) : (fs_up s).2.2.2.2.2.1 + 1 < 65536 := hh_.2.2.2.1
theorem fsI.tr {s : Fl} (hh_ : fsI s) : (fs_up s).2.2.2.2.2.2.2.2.2.1 &&& 255 = (fs_up s).2.2.2.2.2.2.2.2.2.1 := hh_.2.2.2.2.1
theorem fsI.rm {s : Fl} (hh_ : fsI s) : 4 + (fs_up s).2.2.2.2.2.2.2.recs.length ≤ 256 := hh_.2.2.2.2.2.1
theorem fsI.c12 {s : Fl} (hh_ : fsI s) : (fs_up s).2.2.2.2.2.2.2.2.2.2.2.length ≤ 12 := hh_.2.2.2.2.2.2
theorem fsI_mk_ {s : Fl} (f_0_ : ∀ v ∈ s.1, v &&& 255 = v) (f_1_ : (fs_gg s.1 0).isSome ∨ (fs_gg s.1 1).isSome) (f_2_ : pzP okS (fs_ar s.1 (fs_use s.1).1) 256 4 St.none) (f_3_ : (fs_up s).2.2.2.2.2.1 + 1 < 65536) (f_4_ : (fs_up s).2.2.2.2.2.2.2.2.2.1 &&& 255 = (fs_up s).2.2.2.2.2.2.2.2.2.1) (f_5_ : 4 + (fs_up s).2.2.2.2.2.2.2.recs.length ≤ 256) (f_6_ : (fs_up s).2.2.2.2.2.2.2.2.2.2.2.length ≤ 12) : fsI s := And.intro f_0_ (And.intro f_1_ (And.intro f_2_ (And.intro f_3_ (And.intro f_4_ (And.intro f_5_ f_6_)))))
section
variable {d g : Nat} {B : Bs} {x : Fx} {y : Sy} {H : Ho} {k : Ky} {m : Mk} {T : Tm} {D O : List Int32} {j : Nat}
set_option maxHeartbeats 16000000 in
theorem q_wakeM (hx : xk x) (hj : j < 3) (hm : wm m) (hk : kr k m ∨ (fs_wake k.1.1.1.1).2.1 = true ∧ m.1.1.1.1.1 = nI k.1.2.1.1 ∧ m.1.1.1.1.2 = k.1.2.1.2 ∧ m.1.1.1.2 = k.1.2.2.1) (ha : ansR k m) (hf : k.1.1.1.1.1.length = 512) (hI : fsI k.1.1.1.1) (hoff : k.1.1.1.1.2.1 = false ∨ True) (hy : yz y T D O) :
    ∃ m' y' D' O', mj_V (d + 6) 251 [.ref 67, .int (nI j)] (mm B (x.wk j k.1.1.1.1 m) y) = some (none, mm B (x.wk j (ky_wake k T).1.1.1.1.1 m') y') ∧ kMr (ky_wake k T).1 m' ∧ yz y' (ky_wake k T).2 D' O' := by
  obtain ⟨m', y', a1, a2, a3, a4, a5⟩ := q_wake (d := d) (B := B) hx hj hm hf hI.h8 hI.hg hI.hP hI.gn hI.tr hI.rm hI.c12 hy
  unfold ky_wake ky_renew
  generalize fs_wake k.1.1.1.1 = W at *
  dsimp only
  cases hon : W.2.1 with
  | true =>
    rw [hon] at a3 a4
    rw [if_pos rfl] at a3 a4 ⊢
    try dsimp only
    refine ⟨m', y', D, O, a5, (kMr_mk_ a1 ?_ a2 (fun _ => ?_) ?_), a4⟩
    · have e : ∀ f : Mk → Int32, (∀ m, f (mr m) = f m) → f m' = f (mAnew ((((((m.1.1.1.1.1, m.1.1.1.1.2), m.1.1.1.2), (m.1.1.2.1, m.1.1.2.2)), (((m.1.2.1.1.1, 0), m.1.2.1.2), (m.1.2.2.1, m.1.2.2.2))), ((((m.2.1.1.1.1, m.2.1.1.1.2), m.2.1.1.2), (m.2.1.2.1, m.2.1.2.2)), (((m.2.2.1.1.1, m.2.2.1.1.2), m.2.2.1.2), (m.2.2.2.1, m.2.2.2.2)))) : Mk) T.2.2) := fun f hf => by rw [← hf m', a3, hf]
      have hp : m.1.1.1.1.1 = nI k.1.2.1.1 ∧ m.1.1.1.1.2 = k.1.2.1.2 ∧ m.1.1.1.2 = k.1.2.2.1 := by
        rcases hk with h | h
        · exact ⟨h.pr, h.ta, h.an⟩
        · exact h.2
      exact (kr_mk_ ((e (·.1.1.1.1.1) (fun _ => rfl)).trans hp.1) ((e (·.1.1.1.1.2) (fun _ => rfl)).trans hp.2.1) ((e (·.1.1.1.2) (fun _ => rfl)).trans hp.2.2) (e (·.1.1.2.1) (fun _ => rfl)) (e (·.1.1.2.2) (fun _ => rfl)) (e (·.1.2.1.1.1) (fun _ => rfl)) (e (·.1.2.1.1.2) (fun _ => rfl)))
    · have e : ∀ f : Mk → Int32, (∀ m, f (mr m) = f m) → f m' = f (mAnew ((((((m.1.1.1.1.1, m.1.1.1.1.2), m.1.1.1.2), (m.1.1.2.1, m.1.1.2.2)), (((m.1.2.1.1.1, 0), m.1.2.1.2), (m.1.2.2.1, m.1.2.2.2))), ((((m.2.1.1.1.1, m.2.1.1.1.2), m.2.1.1.2), (m.2.1.2.1, m.2.1.2.2)), (((m.2.2.1.1.1, m.2.2.1.1.2), m.2.2.1.2), (m.2.2.2.1, m.2.2.2.2)))) : Mk) T.2.2) := fun f hf => by rw [← hf m', a3, hf]
      exact lr.z rfl (e (·.1.2.1.2) (fun _ => rfl)) (e (·.1.2.2.1) (fun _ => rfl))
    · have e1 : m'.2.1.1.1.2 = m.2.1.1.1.2 := by
        have : (mr m').2.1.1.1.2 = (mr (mAnew ((((((m.1.1.1.1.1, m.1.1.1.1.2), m.1.1.1.2), (m.1.1.2.1, m.1.1.2.2)), (((m.1.2.1.1.1, 0), m.1.2.1.2), (m.1.2.2.1, m.1.2.2.2))), ((((m.2.1.1.1.1, m.2.1.1.1.2), m.2.1.1.2), (m.2.1.2.1, m.2.1.2.2)), (((m.2.2.1.1.1, m.2.2.1.1.2), m.2.2.1.2), (m.2.2.2.1, m.2.2.2.2)))) : Mk) T.2.2)).2.1.1.1.2 := by rw [a3]
        exact this
      have e2 : m'.2.2.2.2 = m.2.2.2.2 := by
        have : (mr m').2.2.2.2 = (mr (mAnew ((((((m.1.1.1.1.1, m.1.1.1.1.2), m.1.1.1.2), (m.1.1.2.1, m.1.1.2.2)), (((m.1.2.1.1.1, 0), m.1.2.1.2), (m.1.2.2.1, m.1.2.2.2))), ((((m.2.1.1.1.1, m.2.1.1.1.2), m.2.1.1.2), (m.2.1.2.1, m.2.1.2.2)), (((m.2.2.1.1.1, m.2.2.1.1.2), m.2.2.1.2), (m.2.2.2.1, m.2.2.2.2)))) : Mk) T.2.2)).2.2.2.2 := by rw [a3]
        exact this
      unfold ansR
      rw [e1, e2]
      exact ha
  | false =>
    rw [hon] at a3 a4
    simp only [Bool.false_eq_true, if_false] at a3 a4 ⊢
    refine ⟨m', y', D, O, a5, (kMr_mk_ a1 ?_ a2 (fun h => (by
      have : W.2.1 = true := h
      rw [hon] at this; cases this)) ?_), a4⟩
    · rcases hk with h | h
      · have := kr_mr a3 h
        exact (kr_mk_ this.pr this.ta this.an this.ag this.tk this.wr this.he)
      · rw [hon] at h; cases h.1
    · have e1 : m'.2.1.1.1.2 = m.2.1.1.1.2 := by
        have : (mr m').2.1.1.1.2 = (mr m).2.1.1.1.2 := by rw [a3]
        exact this
      have e2 : m'.2.2.2.2 = m.2.2.2.2 := by
        have : (mr m').2.2.2.2 = (mr m).2.2.2.2 := by rw [a3]
        exact this
      unfold ansR
      rw [e1, e2]
      exact ha
theorem o_power (z : mz x y H) (i : Int32) (b : Bool) (hI : ∀ k ∈ H.2.2.1, k.1.1.1.1.2.1 = false → fsI k.1.1.1.1) (hfl : ∀ k ∈ H.2.2.1, k.1.1.1.1.2.1 = false → (fs_wake k.1.1.1.1).1.length = 512) : oR (d + 7) 270 [.ref 67, .int i, .int (on1 b)] B x y (ho_power H i b) := by
  have rk := q_isKey (d := d + 5) (B := B) (y := y) z.k.n z.k.n3 i
  unfold ho_power
  cases hi : ix i H.2.2.1.length with
  | none =>
    rw [hi] at rk
    refine ⟨x, y, ?_, z⟩
    simp only [on1, Option.isSome_none, Bool.false_eq_true, if_false] at rk
    generalize on1 b = bv
    simp (disch := (first | omega | decide)) [S_cb_mmade4_0, S_bx_mcan1_0, S_b8_mkey_1, S_b8_mkey_0, S_b1_mterm_0, S_b1_copy_0, S_b0_mod_7, S_b0_mod_6, S_b0_mod_5, S_b0_mod_3, S_b0_mod_2, S_b0_mod_1, S_b0_mod_0, S_cb_mmade4_1h, S_bx_mcan1_1h, S_b0_mod_4h, c270, s270_0, s270_1, s270_2, s270_5, s270_8, s270_9, s270_10, s270_11, s270_14, s270_15, s270_18, s270_19, s270_20, s270_23, s270_24, s270_25, s270_28, s270_31, s270_32, s270_35, s270_36, s270_39, s270_40, s270_41, s270_42, s270_43, s270_46, s270_47, s270_48, mq_k0s, mq_k1s, mq_k2s, mq_k4s, mq_k5s, mq_k5n, mq_k5as, mq_k6s, mj_pu, mj_lo, mj_br, mj_hr, mj_hw, mq_gf, mq_len, mq_al, mq_pf, mq_ok, mj_re, mq_lkm, mq_lkn, mj_ldi, mj_ldl, mj_lda, mj_ii, mj_ll, mj_li, mj_i1, ms_1, ms_2, f1_n, f1_i, f1_r, f1_u, f1_l, f2_n, f2_i, f2_r, f2_u, f2_l, mj_tg, mj_c1, mj_c2, mj_ar, mj_aw, mq_cb, mq_oi, mj_rm, Value.category, -getElem?_pos, List.getElem?_cons_zero, decide_eq_true, decide_eq_false, nl_lt, nl_le, ln_lt, ln_le, nl_eq, ln_eq, nl_add, ln_add, nl_sub, ln_mul, nI_sub, nI_mul, nI_add, nI_lt_iff, nI_le_iff, nI_inj, nI_num, mq_ix, nI_1, nl_mul, nl_div, rk, narrow_b0]
  | some j =>
    rw [hi] at rk
    obtain ⟨k, hk, rfl⟩ := key_at hi
    obtain ⟨hj, m, e, R, hf⟩ := z.key hk
    have hx := z.k.k
    have hmem := List.mem_of_getElem? hk
    dsimp only
    rw [hk]
    dsimp only
    rw [e] at rk
    simp only [on1, Option.isSome_some, if_true] at rk
    unfold ky_switch
    cases b with
    | false =>
      rw [if_pos rfl]
      have R' : kMr (((((((k.1.1.1.1.1, (false, (k.1.1.1.1.2.2.1, (k.1.1.1.1.2.2.2.1, (k.1.1.1.1.2.2.2.2.1, (k.1.1.1.1.2.2.2.2.2.1, (k.1.1.1.1.2.2.2.2.2.2.1, k.1.1.1.1.2.2.2.2.2.2.2))))))) : Fl), k.1.1.1.2), (k.1.1.2.1, k.1.1.2.2)), ((k.1.2.1.1, k.1.2.1.2), (k.1.2.2.1, k.1.2.2.2))), (((k.2.1.1.1, k.2.1.1.2), (k.2.1.2.1, k.2.1.2.2)), ((k.2.2.1.1, k.2.2.1.2), k.2.2.2))) : Ky) m := (kMr_mk_ R.w ((kr_mk_ R.r.pr R.r.ta R.r.an R.r.ag R.r.tk R.r.wr R.r.he)) R.c (fun h => (by cases h)) R.a)
      refine ⟨_, y, ?_, z.kt (q := ((((((((k.1.1.1.1.1, (false, (k.1.1.1.1.2.2.1, (k.1.1.1.1.2.2.2.1, (k.1.1.1.1.2.2.2.2.1, (k.1.1.1.1.2.2.2.2.2.1, (k.1.1.1.1.2.2.2.2.2.2.1, k.1.1.1.1.2.2.2.2.2.2.2))))))) : Fl), k.1.1.1.2), (k.1.1.2.1, k.1.1.2.2)), ((k.1.2.1.1, k.1.2.1.2), (k.1.2.2.1, k.1.2.2.2))), (((k.2.1.1.1, k.2.1.1.2), (k.2.1.2.1, k.2.1.2.2)), ((k.2.2.1.1, k.2.2.1.2), k.2.2.2))) : Ky), H.2.1)) hk R' hf z.y⟩
      conv => lhs; rw [e]
      simp only [on1, Bool.false_eq_true, if_false]
      simp (disch := (first | omega | decide)) [S_cb_mmade4_0, S_bx_mcan1_0, S_b8_mkey_1, S_b8_mkey_0, S_b1_mterm_0, S_b1_copy_0, S_b0_mod_7, S_b0_mod_6, S_b0_mod_5, S_b0_mod_3, S_b0_mod_2, S_b0_mod_1, S_b0_mod_0, S_cb_mmade4_1h, S_bx_mcan1_1h, S_b0_mod_4h, c270, s270_0, s270_1, s270_2, s270_5, s270_8, s270_9, s270_10, s270_11, s270_14, s270_15, s270_18, s270_19, s270_20, s270_23, s270_24, s270_25, s270_28, s270_31, s270_32, s270_35, s270_36, s270_39, s270_40, s270_41, s270_42, s270_43, s270_46, s270_47, s270_48, mq_k0s, mq_k1s, mq_k2s, mq_k4s, mq_k5s, mq_k5n, mq_k5as, mq_k6s, mj_pu, mj_lo, mj_br, mj_hr, mj_hw, mq_gf, mq_len, mq_al, mq_pf, mq_ok, mj_re, mq_lkm, mq_lkn, mj_ldi, mj_ldl, mj_lda, mj_ii, mj_ll, mj_li, mj_i1, ms_1, ms_2, f1_n, f1_i, f1_r, f1_u, f1_l, f2_n, f2_i, f2_r, f2_u, f2_l, mj_tg, mj_c1, mj_c2, mj_ar, mj_aw, mq_cb, mq_oi, mj_rm, Value.category, -getElem?_pos, List.getElem?_cons_zero, decide_eq_true, decide_eq_false, nl_lt, nl_le, ln_lt, ln_le, nl_eq, ln_eq, nl_add, ln_add, nl_sub, ln_mul, nI_sub, nI_mul, nI_add, nI_lt_iff, nI_le_iff, nI_inj, nI_num, mq_ix, nI_1, nl_mul, nl_div, wkc_on hx hj, wkl_on hx, wkc_acts hx hj, wkl_acts hx, wkc_limit hx hj, wkl_limit hx, wkc_generation hx hj, wkl_generation hx, wkc_area hx hj, wkl_area hx, wkc_fend hx hj, wkl_fend hx, wkc_master hx hj, wkl_master hx, wkc_pinOf hx hj, wkl_pinOf hx, wkc_tries hx hj, wkl_tries hx, wkc_own hx hj, wkl_own hx, wkc_creds hx hj, wkl_creds hx, wkc_presses hx hj, wkl_presses hx, wkc_taken hx hj, wkl_taken hx, wkc_answered hx hj, wkl_answered hx, wkc_agreeing hx hj, wkl_agreeing hx, wkc_token hx hj, wkl_token hx, wkc_wrong hx hj, wkl_wrong hx, wkc_heard hx hj, wkl_heard hx, wkc_listed hx hj, wkl_listed hx, wkc_listAt hx hj, wkl_listAt hx, wkc_listHash hx hj, wkl_listHash hx, wkc_listFlags hx hj, wkl_listFlags hx, wkc_answerSize hx hj, wkl_answerSize hx, wkc_flash hx hj, wkl_flash hx hj, rk, on1, narrow, narrow_b0]
    | true =>
      rw [if_neg (by simp [S_cb_mmade4_0, S_bx_mcan1_0, S_b8_mkey_1, S_b8_mkey_0, S_b1_mterm_0, S_b1_copy_0, S_b0_mod_7, S_b0_mod_6, S_b0_mod_5, S_b0_mod_3, S_b0_mod_2, S_b0_mod_1, S_b0_mod_0, S_cb_mmade4_1h, S_bx_mcan1_1h, S_b0_mod_4h])]
      cases ho : k.1.1.1.1.2.1 with
      | true =>
        rw [if_pos rfl]
        refine ⟨x, y, ?_, by
          have := z.kt (q := (k, H.2.1)) hk R hf z.y
          rw [← e] at this
          exact this⟩
        conv => lhs; rw [e]
        conv => rhs; rw [e]
        simp only [on1, if_true, ho]
        simp (disch := (first | omega | decide)) [S_cb_mmade4_0, S_bx_mcan1_0, S_b8_mkey_1, S_b8_mkey_0, S_b1_mterm_0, S_b1_copy_0, S_b0_mod_7, S_b0_mod_6, S_b0_mod_5, S_b0_mod_3, S_b0_mod_2, S_b0_mod_1, S_b0_mod_0, S_cb_mmade4_1h, S_bx_mcan1_1h, S_b0_mod_4h, c270, s270_0, s270_1, s270_2, s270_5, s270_8, s270_9, s270_10, s270_11, s270_14, s270_15, s270_18, s270_19, s270_20, s270_23, s270_24, s270_25, s270_28, s270_31, s270_32, s270_35, s270_36, s270_39, s270_40, s270_41, s270_42, s270_43, s270_46, s270_47, s270_48, mq_k0s, mq_k1s, mq_k2s, mq_k4s, mq_k5s, mq_k5n, mq_k5as, mq_k6s, mj_pu, mj_lo, mj_br, mj_hr, mj_hw, mq_gf, mq_len, mq_al, mq_pf, mq_ok, mj_re, mq_lkm, mq_lkn, mj_ldi, mj_ldl, mj_lda, mj_ii, mj_ll, mj_li, mj_i1, ms_1, ms_2, f1_n, f1_i, f1_r, f1_u, f1_l, f2_n, f2_i, f2_r, f2_u, f2_l, mj_tg, mj_c1, mj_c2, mj_ar, mj_aw, mq_cb, mq_oi, mj_rm, Value.category, -getElem?_pos, List.getElem?_cons_zero, decide_eq_true, decide_eq_false, nl_lt, nl_le, ln_lt, ln_le, nl_eq, ln_eq, nl_add, ln_add, nl_sub, ln_mul, nI_sub, nI_mul, nI_add, nI_lt_iff, nI_le_iff, nI_inj, nI_num, mq_ix, nI_1, nl_mul, nl_div, wkc_on hx hj, wkl_on hx, wkc_acts hx hj, wkl_acts hx, wkc_limit hx hj, wkl_limit hx, wkc_generation hx hj, wkl_generation hx, wkc_area hx hj, wkl_area hx, wkc_fend hx hj, wkl_fend hx, wkc_master hx hj, wkl_master hx, wkc_pinOf hx hj, wkl_pinOf hx, wkc_tries hx hj, wkl_tries hx, wkc_own hx hj, wkl_own hx, wkc_creds hx hj, wkl_creds hx, wkc_presses hx hj, wkl_presses hx, wkc_taken hx hj, wkl_taken hx, wkc_answered hx hj, wkl_answered hx, wkc_agreeing hx hj, wkl_agreeing hx, wkc_token hx hj, wkl_token hx, wkc_wrong hx hj, wkl_wrong hx, wkc_heard hx hj, wkl_heard hx, wkc_listed hx hj, wkl_listed hx, wkc_listAt hx hj, wkl_listAt hx, wkc_listHash hx hj, wkl_listHash hx, wkc_listFlags hx hj, wkl_listFlags hx, wkc_answerSize hx hj, wkl_answerSize hx, wkc_flash hx hj, wkl_flash hx hj, rk, ho, on1, narrow_b1]
      | false =>
        rw [if_neg (by simp [S_cb_mmade4_0, S_bx_mcan1_0, S_b8_mkey_1, S_b8_mkey_0, S_b1_mterm_0, S_b1_copy_0, S_b0_mod_7, S_b0_mod_6, S_b0_mod_5, S_b0_mod_3, S_b0_mod_2, S_b0_mod_1, S_b0_mod_0, S_cb_mmade4_1h, S_bx_mcan1_1h, S_b0_mod_4h])]
        obtain ⟨D, O, hy⟩ := z.y
        obtain ⟨m', y', D', O', p1, R', z1⟩ := q_wakeM (d := d) (B := B) hx hj R.w (Or.inl R.r) R.a hf (hI k hmem ho) (Or.inr trivial) hy
        have hes : (ky_wake k H.2.1).1.1.1.1.1 = fs_wake k.1.1.1.1 := by unfold ky_wake ky_renew; generalize fs_wake k.1.1.1.1 = W; split <;> rfl
        refine ⟨_, y', ?_, z.kt (q := ky_wake k H.2.1) hk R' (by rw [hes]; exact hfl k hmem ho) ⟨D', O', z1⟩⟩
        conv => lhs; rw [e]
        simp only [on1, if_true]
        cases ho' : (ky_wake k H.2.1).1.1.1.1.1.2.1
        · simp (disch := (first | omega | decide)) [S_cb_mmade4_0, S_bx_mcan1_0, S_b8_mkey_1, S_b8_mkey_0, S_b1_mterm_0, S_b1_copy_0, S_b0_mod_7, S_b0_mod_6, S_b0_mod_5, S_b0_mod_3, S_b0_mod_2, S_b0_mod_1, S_b0_mod_0, S_cb_mmade4_1h, S_bx_mcan1_1h, S_b0_mod_4h, c270, s270_0, s270_1, s270_2, s270_5, s270_8, s270_9, s270_10, s270_11, s270_14, s270_15, s270_18, s270_19, s270_20, s270_23, s270_24, s270_25, s270_28, s270_31, s270_32, s270_35, s270_36, s270_39, s270_40, s270_41, s270_42, s270_43, s270_46, s270_47, s270_48, mq_k0s, mq_k1s, mq_k2s, mq_k4s, mq_k5s, mq_k5n, mq_k5as, mq_k6s, mj_pu, mj_lo, mj_br, mj_hr, mj_hw, mq_gf, mq_len, mq_al, mq_pf, mq_ok, mj_re, mq_lkm, mq_lkn, mj_ldi, mj_ldl, mj_lda, mj_ii, mj_ll, mj_li, mj_i1, ms_1, ms_2, f1_n, f1_i, f1_r, f1_u, f1_l, f2_n, f2_i, f2_r, f2_u, f2_l, mj_tg, mj_c1, mj_c2, mj_ar, mj_aw, mq_cb, mq_oi, mj_rm, Value.category, -getElem?_pos, List.getElem?_cons_zero, decide_eq_true, decide_eq_false, nl_lt, nl_le, ln_lt, ln_le, nl_eq, ln_eq, nl_add, ln_add, nl_sub, ln_mul, nI_sub, nI_mul, nI_add, nI_lt_iff, nI_le_iff, nI_inj, nI_num, mq_ix, nI_1, nl_mul, nl_div, wkc_on hx hj, wkl_on hx, wkc_acts hx hj, wkl_acts hx, wkc_limit hx hj, wkl_limit hx, wkc_generation hx hj, wkl_generation hx, wkc_area hx hj, wkl_area hx, wkc_fend hx hj, wkl_fend hx, wkc_master hx hj, wkl_master hx, wkc_pinOf hx hj, wkl_pinOf hx, wkc_tries hx hj, wkl_tries hx, wkc_own hx hj, wkl_own hx, wkc_creds hx hj, wkl_creds hx, wkc_presses hx hj, wkl_presses hx, wkc_taken hx hj, wkl_taken hx, wkc_answered hx hj, wkl_answered hx, wkc_agreeing hx hj, wkl_agreeing hx, wkc_token hx hj, wkl_token hx, wkc_wrong hx hj, wkl_wrong hx, wkc_heard hx hj, wkl_heard hx, wkc_listed hx hj, wkl_listed hx, wkc_listAt hx hj, wkl_listAt hx, wkc_listHash hx hj, wkl_listHash hx, wkc_listFlags hx hj, wkl_listFlags hx, wkc_answerSize hx hj, wkl_answerSize hx, wkc_flash hx hj, wkl_flash hx hj, rk, ho, on1, p1, ho', narrow_b0]
        · simp (disch := (first | omega | decide)) [S_cb_mmade4_0, S_bx_mcan1_0, S_b8_mkey_1, S_b8_mkey_0, S_b1_mterm_0, S_b1_copy_0, S_b0_mod_7, S_b0_mod_6, S_b0_mod_5, S_b0_mod_3, S_b0_mod_2, S_b0_mod_1, S_b0_mod_0, S_cb_mmade4_1h, S_bx_mcan1_1h, S_b0_mod_4h, c270, s270_0, s270_1, s270_2, s270_5, s270_8, s270_9, s270_10, s270_11, s270_14, s270_15, s270_18, s270_19, s270_20, s270_23, s270_24, s270_25, s270_28, s270_31, s270_32, s270_35, s270_36, s270_39, s270_40, s270_41, s270_42, s270_43, s270_46, s270_47, s270_48, mq_k0s, mq_k1s, mq_k2s, mq_k4s, mq_k5s, mq_k5n, mq_k5as, mq_k6s, mj_pu, mj_lo, mj_br, mj_hr, mj_hw, mq_gf, mq_len, mq_al, mq_pf, mq_ok, mj_re, mq_lkm, mq_lkn, mj_ldi, mj_ldl, mj_lda, mj_ii, mj_ll, mj_li, mj_i1, ms_1, ms_2, f1_n, f1_i, f1_r, f1_u, f1_l, f2_n, f2_i, f2_r, f2_u, f2_l, mj_tg, mj_c1, mj_c2, mj_ar, mj_aw, mq_cb, mq_oi, mj_rm, Value.category, -getElem?_pos, List.getElem?_cons_zero, decide_eq_true, decide_eq_false, nl_lt, nl_le, ln_lt, ln_le, nl_eq, ln_eq, nl_add, ln_add, nl_sub, ln_mul, nI_sub, nI_mul, nI_add, nI_lt_iff, nI_le_iff, nI_inj, nI_num, mq_ix, nI_1, nl_mul, nl_div, wkc_on hx hj, wkl_on hx, wkc_acts hx hj, wkl_acts hx, wkc_limit hx hj, wkl_limit hx, wkc_generation hx hj, wkl_generation hx, wkc_area hx hj, wkl_area hx, wkc_fend hx hj, wkl_fend hx, wkc_master hx hj, wkl_master hx, wkc_pinOf hx hj, wkl_pinOf hx, wkc_tries hx hj, wkl_tries hx, wkc_own hx hj, wkl_own hx, wkc_creds hx hj, wkl_creds hx, wkc_presses hx hj, wkl_presses hx, wkc_taken hx hj, wkl_taken hx, wkc_answered hx hj, wkl_answered hx, wkc_agreeing hx hj, wkl_agreeing hx, wkc_token hx hj, wkl_token hx, wkc_wrong hx hj, wkl_wrong hx, wkc_heard hx hj, wkl_heard hx, wkc_listed hx hj, wkl_listed hx, wkc_listAt hx hj, wkl_listAt hx, wkc_listHash hx hj, wkl_listHash hx, wkc_listFlags hx hj, wkl_listFlags hx, wkc_answerSize hx hj, wkl_answerSize hx, wkc_flash hx hj, wkl_flash hx hj, rk, ho, on1, p1, ho', narrow_b1]
theorem xm.of (z : xt x H.1) (hm : x.2.1.1.1.2.2.length = 640) (hb : ∀ v ∈ H.1, v &&& 255 = v) {n : Nat} (hn : n ≤ H.1.length) : xm (x.wms (cpy x.2.1.1.1.2.2 0 x.1.1.1.2.1.1 0 n) n) (H.1.take n) ∧ (cpy x.2.1.1.1.2.2 0 x.1.1.1.2.1.1 0 n).length = 640 := by
  have hle := z.1.le
  have htl : x.1.1.1.2.1.1.length = 400 := by obtain ⟨g, -, hl⟩ := z.1; exact hl
  have e : (x.1.1.1.2.1.1.drop 0).take n = H.1.take n := by
    rw [z.1.sub (q := 0) (by omega), List.drop_zero]
  have e2 : cpy x.2.1.1.1.2.2 0 x.1.1.1.2.1.1 0 n = spl x.2.1.1.1.2.2 0 (H.1.take n) := by rw [cpy_spl (by omega), e]
  have hl : (H.1.take n).length = n := by rw [List.length_take]; omega
  refine ⟨⟨?_, by rw [hl]; rfl, fun v hv => hb v (List.mem_of_mem_take hv)⟩, by rw [cpy_len (by omega) (by omega), hm]⟩
  show tq 640 (cpy x.2.1.1.1.2.2 0 x.1.1.1.2.1.1 0 n) _
  rw [e2, ← hm]
  exact tq.of rfl (by rw [hl]; omega)
theorem o_command (z : mz x y H) (i n : Int32) (hb : ∀ v ∈ H.1, v &&& 255 = v) (hI : ∀ k ∈ H.2.2.1, (k.1.1.1.1.2.1 = true → kI k (g + 3)) ∧ k.2.1.2.2 ≤ 8) (hT8 : tk8 H.2.1) (hT9 : tk9 H.2.1) (hT : H.2.1.1.length + 4 < 1000) (hfl : ∀ ms, ∀ k ∈ H.2.2.1, (ky_recv ms k H.2.1).2.1.1.1.1.1.1.length = 512) : oR (d + 11) 274 [.ref 67, .int i, .int n] B x y (ho_command H i n) := by
  have rm := q_many (d := d + 9) (B := B) (y := y) z.t n
  have etp : tpN H.1 n = tp H n := rfl
  rw [etp] at rm
  have rk := q_isKey (d := d + 9) (B := B) (y := y) z.k.n z.k.n3 i
  have hle := z.t.1.le
  unfold ho_command
  cases hi : ix i H.2.2.1.length with
  | none =>
    rw [hi] at rk
    simp only [on1, Option.isSome_none, Bool.false_eq_true, if_false] at rk
    dsimp only
    refine ⟨x, y, ?_, z⟩
    generalize oN (tp H n) = nv at *
    simp (disch := (first | omega | decide)) [S_cb_mmade4_0, S_bx_mcan1_0, S_b8_mkey_1, S_b8_mkey_0, S_b1_mterm_0, S_b1_copy_0, S_b0_mod_7, S_b0_mod_6, S_b0_mod_5, S_b0_mod_3, S_b0_mod_2, S_b0_mod_1, S_b0_mod_0, S_cb_mmade4_1h, S_bx_mcan1_1h, S_b0_mod_4h, c274, s274_0, s274_1, s274_2, s274_5, s274_6, s274_7, s274_8, s274_11, s274_14, s274_15, s274_16, s274_19, s274_20, s274_21, s274_22, s274_25, s274_26, s274_27, s274_30, s274_31, s274_32, s274_35, s274_36, s274_37, s274_40, s274_41, s274_42, s274_45, s274_47, s274_50, s274_52, s274_55, s274_56, s274_59, s274_60, s274_61, mq_k0s, mq_k1s, mq_k2s, mq_k4s, mq_k5s, mq_k5n, mq_k5as, mq_k6s, mj_pu, mj_lo, mj_br, mj_hr, mj_hw, mq_gf, mq_len, mq_al, mq_pf, mq_ok, mj_re, mq_lkm, mq_lkn, mj_ldi, mj_ldl, mj_lda, mj_ii, mj_ll, mj_li, mj_i1, ms_1, ms_2, f1_n, f1_i, f1_r, f1_u, f1_l, f2_n, f2_i, f2_r, f2_u, f2_l, mj_tg, mj_c1, mj_c2, mj_ar, mj_aw, mq_cb, mq_oi, mj_rm, Value.category, -getElem?_pos, List.getElem?_cons_zero, decide_eq_true, decide_eq_false, nl_lt, nl_le, ln_lt, ln_le, nl_eq, ln_eq, nl_add, ln_add, nl_sub, ln_mul, nI_sub, nI_mul, nI_add, nI_lt_iff, nI_le_iff, nI_inj, nI_num, mq_ix, nI_1, nl_mul, nl_div, rm, rk, narrow]
  | some j =>
    rw [hi] at rk
    simp only [on1, Option.isSome_some, if_true] at rk
    cases hn : tp H n with
    | none =>
      rw [hn] at rm
      dsimp only
      refine ⟨x, y, ?_, z⟩
      simp only [oN] at rm
      simp (disch := (first | omega | decide)) [S_cb_mmade4_0, S_bx_mcan1_0, S_b8_mkey_1, S_b8_mkey_0, S_b1_mterm_0, S_b1_copy_0, S_b0_mod_7, S_b0_mod_6, S_b0_mod_5, S_b0_mod_3, S_b0_mod_2, S_b0_mod_1, S_b0_mod_0, S_cb_mmade4_1h, S_bx_mcan1_1h, S_b0_mod_4h, c274, s274_0, s274_1, s274_2, s274_5, s274_6, s274_7, s274_8, s274_11, s274_14, s274_15, s274_16, s274_19, s274_20, s274_21, s274_22, s274_25, s274_26, s274_27, s274_30, s274_31, s274_32, s274_35, s274_36, s274_37, s274_40, s274_41, s274_42, s274_45, s274_47, s274_50, s274_52, s274_55, s274_56, s274_59, s274_60, s274_61, mq_k0s, mq_k1s, mq_k2s, mq_k4s, mq_k5s, mq_k5n, mq_k5as, mq_k6s, mj_pu, mj_lo, mj_br, mj_hr, mj_hw, mq_gf, mq_len, mq_al, mq_pf, mq_ok, mj_re, mq_lkm, mq_lkn, mj_ldi, mj_ldl, mj_lda, mj_ii, mj_ll, mj_li, mj_i1, ms_1, ms_2, f1_n, f1_i, f1_r, f1_u, f1_l, f2_n, f2_i, f2_r, f2_u, f2_l, mj_tg, mj_c1, mj_c2, mj_ar, mj_aw, mq_cb, mq_oi, mj_rm, Value.category, -getElem?_pos, List.getElem?_cons_zero, decide_eq_true, decide_eq_false, nl_lt, nl_le, ln_lt, ln_le, nl_eq, ln_eq, nl_add, ln_add, nl_sub, ln_mul, nI_sub, nI_mul, nI_add, nI_lt_iff, nI_le_iff, nI_inj, nI_num, mq_ix, nI_1, nl_mul, nl_div, rm, rk, narrow]
    | some c =>
      rw [hn] at rm
      simp only [oN] at rm
      obtain ⟨k, hk, rfl⟩ := key_at hi
      have hmem := List.mem_of_getElem? hk
      dsimp only
      rw [hk]
      dsimp only
      have hc : c ≤ H.1.length := by
        unfold tp at hn
        split at hn
        · cases hn; exact Nat.le_refl _
        · split at hn
          · cases hn
          · split at hn
            · cases hn; assumption
            · cases hn
      obtain ⟨hxm, hl6⟩ := xm.of z.t z.m hb hc
      have z1 : mz (x.wms (cpy x.2.1.1.1.2.2 0 x.1.1.1.2.1.1 0 c) c) y H := z.wms hl6
      obtain ⟨hj, m, e, R, hf⟩ := z1.key hk
      obtain ⟨D, O, hy⟩ := z.y
      obtain ⟨m', y', D', O', p1, R', z2, hne⟩ := q_given (d := d) (B := B) (x := x.wms (cpy x.2.1.1.1.2.2 0 x.1.1.1.2.1.1 0 c) c) (y := y) (j := j) (g := g) hxm (by rw [List.length_take]; omega) z1.k.k hj R (hI k hmem).1 (hI k hmem).2 hy hT8 hT9 hT
      rw [← e] at p1
      have htl : x.1.1.1.2.1.1.length = 400 := by obtain ⟨g, -, hl⟩ := z.t.1; exact hl
      have hml := z.m
      have hnm : ¬ nI c = -1 := fun w => (nI_m1 (a := c) (by omega)).mp w
      have hx := z1.k.k
      refine ⟨_, y', ?_, z1.kt (q := (ky_recv (H.1.take c) k H.2.1).2) hk R' (hfl _ k hmem) ⟨D', O', z2⟩⟩
      have to45 : ∀ r, mj_Rn (d + 10) mj_m274 45 [(0, .ref 67), (1, .int (nI j))] [.int (ky_recv (H.1.take c) k H.2.1).1] (mm B ((x.wms (cpy x.2.1.1.1.2.2 0 x.1.1.1.2.1.1 0 c) c).wk j (ky_recv (H.1.take c) k H.2.1).2.1.1.1.1.1 m') y') = some r → mj_V (d + 11) 274 [.ref 67, .int (nI j), .int n] (mm B x y) = some r := by
        intro r hr
        generalize (ky_recv (H.1.take c) k H.2.1).1 = st at *
        generalize mm B ((x.wms (cpy x.2.1.1.1.2.2 0 x.1.1.1.2.1.1 0 c) c).wk j (ky_recv (H.1.take c) k H.2.1).2.1.1.1.1.1 m') y' = E at *
        simp only [Fx.wms] at p1
        simp (disch := (first | omega | decide)) [S_cb_mmade4_0, S_bx_mcan1_0, S_b8_mkey_1, S_b8_mkey_0, S_b1_mterm_0, S_b1_copy_0, S_b0_mod_7, S_b0_mod_6, S_b0_mod_5, S_b0_mod_3, S_b0_mod_2, S_b0_mod_1, S_b0_mod_0, S_cb_mmade4_1h, S_bx_mcan1_1h, S_b0_mod_4h, c274, s274_0, s274_1, s274_2, s274_5, s274_6, s274_7, s274_8, s274_11, s274_14, s274_15, s274_16, s274_19, s274_20, s274_21, s274_22, s274_25, s274_26, s274_27, s274_30, s274_31, s274_32, s274_35, s274_36, s274_37, s274_40, s274_41, s274_42, s274_47, s274_50, s274_52, s274_55, s274_56, s274_59, s274_60, s274_61, mq_k0s, mq_k1s, mq_k2s, mq_k4s, mq_k5s, mq_k5n, mq_k5as, mq_k6s, mj_pu, mj_lo, mj_br, mj_hr, mj_hw, mq_gf, mq_len, mq_al, mq_pf, mq_ok, mj_re, mq_lkm, mq_lkn, mj_ldi, mj_ldl, mj_lda, mj_ii, mj_ll, mj_li, mj_i1, ms_1, ms_2, f1_n, f1_i, f1_r, f1_u, f1_l, f2_n, f2_i, f2_r, f2_u, f2_l, mj_tg, mj_c1, mj_c2, mj_ar, mj_aw, mq_cb, mq_oi, mj_rm, Value.category, -getElem?_pos, List.getElem?_cons_zero, decide_eq_true, decide_eq_false, nl_lt, nl_le, ln_lt, ln_le, nl_eq, ln_eq, nl_add, ln_add, nl_sub, ln_mul, nI_sub, nI_mul, nI_add, nI_lt_iff, nI_le_iff, nI_inj, nI_num, mq_ix, nI_1, nl_mul, nl_div, rm, rk, hnm, htl, hml, p1]
        refine mq_wk ?_ hr
        simp [S_cb_mmade4_0, S_bx_mcan1_0, S_b8_mkey_1, S_b8_mkey_0, S_b1_mterm_0, S_b1_copy_0, S_b0_mod_7, S_b0_mod_6, S_b0_mod_5, S_b0_mod_3, S_b0_mod_2, S_b0_mod_1, S_b0_mod_0, S_cb_mmade4_1h, S_bx_mcan1_1h, S_b0_mod_4h, mq_sub, mj_lk]
      apply to45
      clear to45 p1
      have ha := R'.a
      generalize ky_recv (H.1.take c) k H.2.1 = q at *
      obtain ⟨st, K, T'⟩ := q
      dsimp only at *
      by_cases h3 : st = -3
      · rw [if_pos h3]
        simp (disch := (first | omega | decide)) [S_cb_mmade4_0, S_bx_mcan1_0, S_b8_mkey_1, S_b8_mkey_0, S_b1_mterm_0, S_b1_copy_0, S_b0_mod_7, S_b0_mod_6, S_b0_mod_5, S_b0_mod_3, S_b0_mod_2, S_b0_mod_1, S_b0_mod_0, S_cb_mmade4_1h, S_bx_mcan1_1h, S_b0_mod_4h, s274_0, s274_1, s274_2, s274_5, s274_6, s274_7, s274_8, s274_11, s274_14, s274_15, s274_16, s274_19, s274_20, s274_21, s274_22, s274_25, s274_26, s274_27, s274_30, s274_31, s274_32, s274_35, s274_36, s274_37, s274_40, s274_41, s274_42, s274_45, s274_47, s274_50, s274_52, s274_55, s274_56, s274_59, s274_60, s274_61, mq_k0s, mq_k1s, mq_k2s, mq_k4s, mq_k5s, mq_k5n, mq_k5as, mq_k6s, mj_pu, mj_lo, mj_br, mj_hr, mj_hw, mq_gf, mq_len, mq_al, mq_pf, mq_ok, mj_re, mq_lkm, mq_lkn, mj_ldi, mj_ldl, mj_lda, mj_ii, mj_ll, mj_li, mj_i1, ms_1, ms_2, f1_n, f1_i, f1_r, f1_u, f1_l, f2_n, f2_i, f2_r, f2_u, f2_l, mj_tg, mj_c1, mj_c2, mj_ar, mj_aw, mq_cb, mq_oi, mj_rm, Value.category, -getElem?_pos, List.getElem?_cons_zero, decide_eq_true, decide_eq_false, nl_lt, nl_le, ln_lt, ln_le, nl_eq, ln_eq, nl_add, ln_add, nl_sub, ln_mul, nI_sub, nI_mul, nI_add, nI_lt_iff, nI_le_iff, nI_inj, nI_num, mq_ix, nI_1, nl_mul, nl_div, h3, narrow]
      · rw [if_neg h3]
        have hr : m'.2.1.1.1.2 = nI K.1.1.1.2.length := by
          rcases ha with ⟨a, -⟩ | ⟨-, -, a, -⟩
          · rcases hne with w | w
            · exact absurd w h3
            · exact absurd a w
          · exact a
        generalize x.wms (cpy x.2.1.1.1.2.2 0 x.1.1.1.2.1.1 0 c) c = X at *
        have hx : xk X := z1.k.k
        simp (disch := (first | omega | decide)) [S_cb_mmade4_0, S_bx_mcan1_0, S_b8_mkey_1, S_b8_mkey_0, S_b1_mterm_0, S_b1_copy_0, S_b0_mod_7, S_b0_mod_6, S_b0_mod_5, S_b0_mod_3, S_b0_mod_2, S_b0_mod_1, S_b0_mod_0, S_cb_mmade4_1h, S_bx_mcan1_1h, S_b0_mod_4h, s274_0, s274_1, s274_2, s274_5, s274_6, s274_7, s274_8, s274_11, s274_14, s274_15, s274_16, s274_19, s274_20, s274_21, s274_22, s274_25, s274_26, s274_27, s274_30, s274_31, s274_32, s274_35, s274_36, s274_37, s274_40, s274_41, s274_42, s274_45, s274_47, s274_50, s274_52, s274_55, s274_56, s274_59, s274_60, s274_61, mq_k0s, mq_k1s, mq_k2s, mq_k4s, mq_k5s, mq_k5n, mq_k5as, mq_k6s, mj_pu, mj_lo, mj_br, mj_hr, mj_hw, mq_gf, mq_len, mq_al, mq_pf, mq_ok, mj_re, mq_lkm, mq_lkn, mj_ldi, mj_ldl, mj_lda, mj_ii, mj_ll, mj_li, mj_i1, ms_1, ms_2, f1_n, f1_i, f1_r, f1_u, f1_l, f2_n, f2_i, f2_r, f2_u, f2_l, mj_tg, mj_c1, mj_c2, mj_ar, mj_aw, mq_cb, mq_oi, mj_rm, Value.category, -getElem?_pos, List.getElem?_cons_zero, decide_eq_true, decide_eq_false, nl_lt, nl_le, ln_lt, ln_le, nl_eq, ln_eq, nl_add, ln_add, nl_sub, ln_mul, nI_sub, nI_mul, nI_add, nI_lt_iff, nI_le_iff, nI_inj, nI_num, mq_ix, nI_1, nl_mul, nl_div, wkc_on hx hj, wkl_on hx, wkc_acts hx hj, wkl_acts hx, wkc_limit hx hj, wkl_limit hx, wkc_generation hx hj, wkl_generation hx, wkc_area hx hj, wkl_area hx, wkc_fend hx hj, wkl_fend hx, wkc_master hx hj, wkl_master hx, wkc_pinOf hx hj, wkl_pinOf hx, wkc_tries hx hj, wkl_tries hx, wkc_own hx hj, wkl_own hx, wkc_creds hx hj, wkl_creds hx, wkc_presses hx hj, wkl_presses hx, wkc_taken hx hj, wkl_taken hx, wkc_answered hx hj, wkl_answered hx, wkc_agreeing hx hj, wkl_agreeing hx, wkc_token hx hj, wkl_token hx, wkc_wrong hx hj, wkl_wrong hx, wkc_heard hx hj, wkl_heard hx, wkc_listed hx hj, wkl_listed hx, wkc_listAt hx hj, wkl_listAt hx, wkc_listHash hx hj, wkl_listHash hx, wkc_listFlags hx hj, wkl_listFlags hx, wkc_answerSize hx hj, wkl_answerSize hx, wkc_flash hx hj, wkl_flash hx hj, h3, hr, narrow]
end
end
