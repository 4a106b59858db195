/- f5.calls -/
section
set_option maxRecDepth 512
/-! What each call asks, out of what is kept. -/
section
variable {n d : Nat} {M : mj_H} {H : Ho} {ys : List Int32}
theorem cR.mk0 {J : Nat} {as : List Value} {r : Int32 × Ho} {κs πs : List Nat} {row : List Int32} (z : hz M H κs πs row) (h : mj_V d J as M = some (some (.int r.1), M)) (e : r.2 = H) : cR d J as M r := ⟨M, h, ⟨κs, πs, row, by rw [e]; exact z⟩, hf.rf⟩
theorem an_2 (H : Ho) (i p : Int32) : (ho_answer H i p).2 = H := by
  unfold ho_answer
  split
  · rfl
  · split
    · rfl
    · rfl
theorem fl_2 (H : Ho) (i p : Int32) : (ho_flash H i p).2 = H := by
  unfold ho_flash
  split
  · rfl
  · split
    · rfl
    · rfl
theorem to_2 (H : Ho) (i p : Int32) : (ho_told H i p).2 = H := by
  unfold ho_told
  split
  · rfl
  · split
    · rfl
    · rfl
theorem cr_2 (H : Ho) (i p w : Int32) : (ho_credential H i p w).2 = H := by
  unfold ho_credential
  split
  · rfl
  · split
    · rfl
    · split
      · rfl
      · split
        · rfl
        · rfl
theorem ac_2 (H : Ho) (i p w : Int32) : (ho_account H i p w).2 = H := by
  unfold ho_account
  split
  · rfl
  · split
    · rfl
    · split
      · rfl
      · split
        · rfl
        · rfl
theorem new_by (m : Int32) : ∀ v ∈ fs_new m, v &&& 255 = v := by
  unfold fs_new
  refine app_by ?_ (app_by (rK_1 m).b ?_)
  · unfold hdr ck2
    exact app_by (bt_low_by _ _) (bt_low_by _ _)
  · intro v hv
    rw [(List.mem_replicate.mp hv).2]
    decide
theorem FI.on {k u g : Nat} {s : Fl} {rs : List (List Int32)} {o : List Int32} (h : FI k s.1 u g rs (List.replicate (252 - rs.flatten.length) 255) o) : (fs_wake s).2.1 = true := by
  have hup := h.up
  unfold fs_wake
  rw [hup]
  dsimp only
  have hd : (fs_ar s.1 u).drop (4 + rs.flatten.length) = List.replicate (252 - rs.flatten.length) 255 := by
    rw [h.ar, ← List.append_assoc]
    exact drop_pre (by rw [List.length_append, hdr_len])
  rw [hd, if_pos]
  rw [List.all_replicate]
  simp [S_cb_mmade4_0, S_bx_mcan1_0, S_b8_mkey_1, S_b8_mkey_0, S_b1_mterm_0, S_b1_copy_0, S_b0_mod_7, S_b0_mod_6, S_b0_mod_5, S_b0_mod_3, S_b0_mod_2, S_b0_mod_1, S_b0_mod_0, S_cb_mmade4_1h, S_bx_mcan1_1h, S_b0_mod_4h]
theorem FS.newF (k : Nat) (m : Int32) : FI k (fs_new m) 0 1 [rc 1 (b4 m)] (List.replicate (252 - [rc 1 (b4 m)].flatten.length) 255) (List.replicate 256 255) := by
  have e : fs_new m = two 0 (hdr 1 ++ ([rc 1 (b4 m)].flatten ++ List.replicate (252 - [rc 1 (b4 m)].flatten.length) 255)) (List.replicate 256 255) := by
    have hl : [rc 1 (b4 m)].flatten = rc 1 (b4 m) := by simp [S_cb_mmade4_0, S_bx_mcan1_0, S_b8_mkey_1, S_b8_mkey_0, S_b1_mterm_0, S_b1_copy_0, S_b0_mod_7, S_b0_mod_6, S_b0_mod_5, S_b0_mod_3, S_b0_mod_2, S_b0_mod_1, S_b0_mod_0, S_cb_mmade4_1h, S_bx_mcan1_1h, S_b0_mod_4h]
    unfold fs_new two
    rw [if_pos rfl, hl, rc_len, b4_len, List.append_assoc, List.append_assoc, List.replicate_append_replicate]
  rw [e]
  refine FI.new (by decide) (by decide) List.length_replicate (fun k hk => ?_) (fun r hr => ?_) ?_ ?_
  · have : gga (List.replicate 256 255) = none := gga_255 255 255 (List.replicate 252 255)
    rw [this] at hk
    cases hk
  · simp only [List.mem_singleton] at hr
    subst hr
    exact rK_1 m
  · rw [List.foldl_cons, List.foldl_nil, lrn_1]
    exact Gd.born m
  · rw [List.flatten_cons, List.flatten_nil, List.append_nil, rc_len, b4_len]
    decide
theorem born_fs (T : Tm) (k : Nat) (hk : k < 2 ^ 30) : FS k 1 (ky_born T).1.1.1.1 := FS.new _ hk
theorem born_I (T : Tm) : fsI (ky_born T).1.1.1.1 ∧ (fs_wake (ky_born T).1.1.1.1).2.1 = true ∧ (fs_wake (ky_born T).1.1.1.1).1.length = 512 := by
  have f := born_fs T 0 (by decide)
  exact ⟨f.I (new_by _) (by decide), FI.on (s := (ky_born T).1.1.1.1) (FS.newF 0 _), (f.wake (by decide) (by decide)).len⟩
/-- what is so after n calls, for the next -/
def QI (n : Nat) (H : Ho) : Prop := (HI n H) ∧ (BY H) ∧ (H.2.1.1.length ≤ 819) ∧ (∀ k ∈ H.2.2.1, KI H.2.1.1.length 400 k)
theorem QI.i {n : Nat} {H : Ho} (hh_ : QI n H) : HI n H := hh_.1
theorem QI.b {n : Nat} {H : Ho} (hh_ : QI n H) : BY H := hh_.2.1
theorem QI.f {n : Nat} {H : Ho} (hh_ : QI n H) : H.2.1.1.length ≤ 819 := hh_.2.2.1
theorem QI.k {n : Nat} {H : Ho} (hh_ : QI n H) : ∀ k ∈ H.2.2.1, KI H.2.1.1.length 400 k := hh_.2.2.2
theorem QI_mk_ {n : Nat} {H : Ho} (f_0_ : HI n H) (f_1_ : BY H) (f_2_ : H.2.1.1.length ≤ 819) (f_3_ : ∀ k ∈ H.2.2.1, KI H.2.1.1.length 400 k) : QI n H := And.intro f_0_ (And.intro f_1_ (And.intro f_2_ f_3_))
theorem LI.q (L : LI ys n M H) (hn : n ≤ 63) : QI n H := by
  obtain ⟨κs, πs, row, z⟩ := L.h
  have := L.i.t.few
  exact (QI_mk_ L.i z.by (by omega) (fun k hk => (L.i.k k hk).mono (Nat.le_refl _) (by omega)))
theorem QI.g (q : QI n H) : ∀ k ∈ H.2.2.1, kg k := fun k hk => (q.k k hk).g (by decide)
theorem QI.t (q : QI n H) (hn : n ≤ 63) : TI 819 H.2.1 := q.i.t.mono (by omega)
theorem QI.oa (q : QI n H) : ∀ p ∈ H.2.2.2.2, okA p := fun p hp => (q.i.p p hp).1.1
theorem QI.ag (q : QI n H) (hn : n ≤ 63) : ∀ k ∈ H.2.2.1, agI k H.2.1 0 := fun k hk => ag_I (q.t hn) (by decide) (q.k k hk) (by decide)
theorem QI.cm (q : QI n H) : ∀ k ∈ H.2.2.1, (k.1.1.1.1.2.1 = true → kI k (0 + 3)) ∧ k.2.1.2.2 ≤ 8 := fun k hk => ⟨fun _ => (q.k k hk).i (by have := q.f; omega) (by decide), (q.k k hk).l⟩
theorem QI.sk (q : QI n H) (hn : n ≤ 63) {k : Ky} (hk : k ∈ H.2.2.1) (h : Hd) (kind c how : Int32) {ms : List Int32} (hm : cbB ms 0 = 1 ∨ cbB ms 0 = 2 ∨ cbB ms 0 = 8) : skI k (cl_T h H.2.1 kind c how) ms 0 := by
  have t := cl_ts h H.2.1 kind c how
  exact sk_I (t.i _ (q.t hn)) (by decide) ((q.k k hk).mono t.le (Nat.le_refl _)) (by decide) hm
theorem mkM_1 (a b : Int32) (n u : List Int32) (l : List Ac) (h : Int32) : cbB (mkMsg a b n u l h) 0 = 1 := rfl
theorem sgM_1 (a b : Int32) (n : List Int32) (l : List Ac) (h : Int32) : cbB (sgMsg a b n l h) 0 = 2 := rfl
end
end
