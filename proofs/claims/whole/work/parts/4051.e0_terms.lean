/- e0.terms -/
section
set_option maxRecDepth 512
/-! Pure: what terms are, and how they grow. -/
theorem ix_mem' {rows : List (List Int32)} {row : List Int32} (h : row ∈ rows) : tm_ix rows row ≠ 0 := by
  obtain ⟨k, hk, e⟩ := List.getElem_of_mem h
  have key : ∀ t, k < t → t ≤ rows.length → tm_last rows row t ≠ 0 := by
    intro t
    induction t with
    | zero => intro h; omega
    | succ t ih =>
      intro h1 h2
      unfold tm_last
      split
      · omega
      · next hne =>
        by_cases hkt : k = t
        · subst hkt
          exfalso
          apply hne
          rw [List.getElem?_eq_getElem hk, e]
        · exact ih (by omega) (by omega)
  exact key _ hk (Nat.le_refl _)
theorem ix_at {rows : List (List Int32)} {row : List Int32} (h : tm_ix rows row ≠ 0) : rows[tm_ix rows row - 1]? = some row := by
  have key : ∀ t, tm_last rows row t ≠ 0 → rows[tm_last rows row t - 1]? = some row := by
    intro t
    induction t with
    | zero => intro h; exact absurd rfl h
    | succ t ih =>
      unfold tm_last
      split
      · next he => intro _; exact he
      · exact ih
  exact key _ h
theorem pre_get {α : Type} {a b : List α} (h : a <+: b) {i : Nat} {v : α} (hi : a[i]? = some v) : b[i]? = some v := by
  obtain ⟨c, rfl⟩ := h
  rw [List.getElem?_append_left (get_lt hi)]
  exact hi
theorem ix_pre {rows rows' : List (List Int32)} {row : List Int32} (h : rows <+: rows') (nd : rows'.Nodup) (hm : row ∈ rows) : tm_ix rows' row = tm_ix rows row := by
  have h1 := ix_mem' hm
  have h2 := ix_mem' (h.subset hm)
  have a1 := pre_get h (ix_at h1)
  have a2 := ix_at h2
  have e := (List.getElem?_inj (get_lt a1) nd).mp (a1.trans a2.symm)
  omega
/-- what a term may be; f counts the FRESH ones -/
def rO (f : Nat) (r : List Int32) : Prop := (r ≠ []) ∧ (r.getD 0 0 = 1 → ∃ i, i < f ∧ r = [1, nI i]) ∧ (r.getD 0 0 = 2 → ∃ s, s ≠ 0 ∧ r = [2, s]) ∧ (r.getD 0 0 = 4 → ∃ a b, a ≠ 0 ∧ r = 4 :: a :: b ∧ b.length ≤ 400 ∧ ∀ v ∈ b, v &&& 255 = v) ∧ (r.getD 0 0 = 5 → ∃ a b, a ≠ 0 ∧ r = 5 :: a :: b) ∧ (r.getD 0 0 = 8 → ∃ a b c, b ≠ 0 ∧ r = [8, a, b, c]) ∧ (r.getD 0 0 = 9 → ∃ a b, r = [9, a, b])
theorem rO.ne {f : Nat} {r : List Int32} (hh_ : rO f r) : r ≠ [] := hh_.1
theorem rO.f1 {f : Nat} {r : List Int32} (hh_ : rO f r) : r.getD 0 0 = 1 → ∃ i, i < f ∧ r = [1, nI i] := hh_.2.1
theorem rO.p2 {f : Nat} {r : List Int32} (hh_ : rO f r) : r.getD 0 0 = 2 → ∃ s, s ≠ 0 ∧ r = [2, s] := hh_.2.2.1
theorem rO.e4 {f : Nat} {r : List Int32} (hh_ : rO f r) : r.getD 0 0 = 4 → ∃ a b, a ≠ 0 ∧ r = 4 :: a :: b ∧ b.length ≤ 400 ∧ ∀ v ∈ b, v &&& 255 = v := hh_.2.2.2.1
theorem rO.m5 {f : Nat} {r : List Int32} (hh_ : rO f r) : r.getD 0 0 = 5 → ∃ a b, a ≠ 0 ∧ r = 5 :: a :: b := hh_.2.2.2.2.1
theorem rO.w8 {f : Nat} {r : List Int32} (hh_ : rO f r) : r.getD 0 0 = 8 → ∃ a b c, b ≠ 0 ∧ r = [8, a, b, c] := hh_.2.2.2.2.2.1
theorem rO.s9 {f : Nat} {r : List Int32} (hh_ : rO f r) : r.getD 0 0 = 9 → ∃ a b, r = [9, a, b] := hh_.2.2.2.2.2.2
theorem rO_mk_ {f : Nat} {r : List Int32} (f_0_ : r ≠ []) (f_1_ : r.getD 0 0 = 1 → ∃ i, i < f ∧ r = [1, nI i]) (f_2_ : r.getD 0 0 = 2 → ∃ s, s ≠ 0 ∧ r = [2, s]) (f_3_ : r.getD 0 0 = 4 → ∃ a b, a ≠ 0 ∧ r = 4 :: a :: b ∧ b.length ≤ 400 ∧ ∀ v ∈ b, v &&& 255 = v) (f_4_ : r.getD 0 0 = 5 → ∃ a b, a ≠ 0 ∧ r = 5 :: a :: b) (f_5_ : r.getD 0 0 = 8 → ∃ a b c, b ≠ 0 ∧ r = [8, a, b, c]) (f_6_ : r.getD 0 0 = 9 → ∃ a b, r = [9, a, b]) : rO f r := And.intro f_0_ (And.intro f_1_ (And.intro f_2_ (And.intro f_3_ (And.intro f_4_ (And.intro f_5_ f_6_)))))
theorem rO.mono {f g : Nat} {r : List Int32} (h : rO f r) (hg : f ≤ g) : rO g r :=
  (rO_mk_ h.ne (fun e => by obtain ⟨i, hi, e⟩ := h.f1 e; exact ⟨i, by omega, e⟩) h.p2 h.e4 h.m5 h.w8 h.s9)
theorem rO.any {f : Nat} {k : Int32} {b : List Int32} (hk : k = 3 ∨ k = 6 ∨ k = 7 ∨ k = 10) : rO f (k :: b) := by
  rcases hk with rfl | rfl | rfl | rfl <;> exact (rO_mk_ (by simp [S_cb_mmade4_0, S_bx_mcan1_0, S_b8_mkey_1, S_b8_mkey_0, S_b1_mterm_0, S_b1_copy_0, S_b0_mod_7, S_b0_mod_6, S_b0_mod_5, S_b0_mod_3, S_b0_mod_2, S_b0_mod_1, S_b0_mod_0, S_cb_mmade4_1h, S_bx_mcan1_1h, S_b0_mod_4h]) (fun e => absurd e (by simp [S_cb_mmade4_0, S_bx_mcan1_0, S_b8_mkey_1, S_b8_mkey_0, S_b1_mterm_0, S_b1_copy_0, S_b0_mod_7, S_b0_mod_6, S_b0_mod_5, S_b0_mod_3, S_b0_mod_2, S_b0_mod_1, S_b0_mod_0, S_cb_mmade4_1h, S_bx_mcan1_1h, S_b0_mod_4h])) (fun e => absurd e (by simp [S_cb_mmade4_0, S_bx_mcan1_0, S_b8_mkey_1, S_b8_mkey_0, S_b1_mterm_0, S_b1_copy_0, S_b0_mod_7, S_b0_mod_6, S_b0_mod_5, S_b0_mod_3, S_b0_mod_2, S_b0_mod_1, S_b0_mod_0, S_cb_mmade4_1h, S_bx_mcan1_1h, S_b0_mod_4h])) (fun e => absurd e (by simp [S_cb_mmade4_0, S_bx_mcan1_0, S_b8_mkey_1, S_b8_mkey_0, S_b1_mterm_0, S_b1_copy_0, S_b0_mod_7, S_b0_mod_6, S_b0_mod_5, S_b0_mod_3, S_b0_mod_2, S_b0_mod_1, S_b0_mod_0, S_cb_mmade4_1h, S_bx_mcan1_1h, S_b0_mod_4h])) (fun e => absurd e (by simp [S_cb_mmade4_0, S_bx_mcan1_0, S_b8_mkey_1, S_b8_mkey_0, S_b1_mterm_0, S_b1_copy_0, S_b0_mod_7, S_b0_mod_6, S_b0_mod_5, S_b0_mod_3, S_b0_mod_2, S_b0_mod_1, S_b0_mod_0, S_cb_mmade4_1h, S_bx_mcan1_1h, S_b0_mod_4h])) (fun e => absurd e (by simp [S_cb_mmade4_0, S_bx_mcan1_0, S_b8_mkey_1, S_b8_mkey_0, S_b1_mterm_0, S_b1_copy_0, S_b0_mod_7, S_b0_mod_6, S_b0_mod_5, S_b0_mod_3, S_b0_mod_2, S_b0_mod_1, S_b0_mod_0, S_cb_mmade4_1h, S_bx_mcan1_1h, S_b0_mod_4h])) (fun e => absurd e (by simp [S_cb_mmade4_0, S_bx_mcan1_0, S_b8_mkey_1, S_b8_mkey_0, S_b1_mterm_0, S_b1_copy_0, S_b0_mod_7, S_b0_mod_6, S_b0_mod_5, S_b0_mod_3, S_b0_mod_2, S_b0_mod_1, S_b0_mod_0, S_cb_mmade4_1h, S_bx_mcan1_1h, S_b0_mod_4h])))
theorem rO.pub {f : Nat} {s : Int32} (hs : s ≠ 0) : rO f [2, s] := (rO_mk_ (by simp [S_cb_mmade4_0, S_bx_mcan1_0, S_b8_mkey_1, S_b8_mkey_0, S_b1_mterm_0, S_b1_copy_0, S_b0_mod_7, S_b0_mod_6, S_b0_mod_5, S_b0_mod_3, S_b0_mod_2, S_b0_mod_1, S_b0_mod_0, S_cb_mmade4_1h, S_bx_mcan1_1h, S_b0_mod_4h]) (fun e => absurd e (by simp [S_cb_mmade4_0, S_bx_mcan1_0, S_b8_mkey_1, S_b8_mkey_0, S_b1_mterm_0, S_b1_copy_0, S_b0_mod_7, S_b0_mod_6, S_b0_mod_5, S_b0_mod_3, S_b0_mod_2, S_b0_mod_1, S_b0_mod_0, S_cb_mmade4_1h, S_bx_mcan1_1h, S_b0_mod_4h])) (fun _ => ⟨s, hs, rfl⟩) (fun e => absurd e (by simp [S_cb_mmade4_0, S_bx_mcan1_0, S_b8_mkey_1, S_b8_mkey_0, S_b1_mterm_0, S_b1_copy_0, S_b0_mod_7, S_b0_mod_6, S_b0_mod_5, S_b0_mod_3, S_b0_mod_2, S_b0_mod_1, S_b0_mod_0, S_cb_mmade4_1h, S_bx_mcan1_1h, S_b0_mod_4h])) (fun e => absurd e (by simp [S_cb_mmade4_0, S_bx_mcan1_0, S_b8_mkey_1, S_b8_mkey_0, S_b1_mterm_0, S_b1_copy_0, S_b0_mod_7, S_b0_mod_6, S_b0_mod_5, S_b0_mod_3, S_b0_mod_2, S_b0_mod_1, S_b0_mod_0, S_cb_mmade4_1h, S_bx_mcan1_1h, S_b0_mod_4h])) (fun e => absurd e (by simp [S_cb_mmade4_0, S_bx_mcan1_0, S_b8_mkey_1, S_b8_mkey_0, S_b1_mterm_0, S_b1_copy_0, S_b0_mod_7, S_b0_mod_6, S_b0_mod_5, S_b0_mod_3, S_b0_mod_2, S_b0_mod_1, S_b0_mod_0, S_cb_mmade4_1h, S_bx_mcan1_1h, S_b0_mod_4h])) (fun e => absurd e (by simp [S_cb_mmade4_0, S_bx_mcan1_0, S_b8_mkey_1, S_b8_mkey_0, S_b1_mterm_0, S_b1_copy_0, S_b0_mod_7, S_b0_mod_6, S_b0_mod_5, S_b0_mod_3, S_b0_mod_2, S_b0_mod_1, S_b0_mod_0, S_cb_mmade4_1h, S_bx_mcan1_1h, S_b0_mod_4h])))
theorem rO.enc {f : Nat} {a : Int32} {b : List Int32} (ha : a ≠ 0) (hl : b.length ≤ 400) (hb : ∀ v ∈ b, v &&& 255 = v) : rO f (4 :: a :: b) := (rO_mk_ (by simp [S_cb_mmade4_0, S_bx_mcan1_0, S_b8_mkey_1, S_b8_mkey_0, S_b1_mterm_0, S_b1_copy_0, S_b0_mod_7, S_b0_mod_6, S_b0_mod_5, S_b0_mod_3, S_b0_mod_2, S_b0_mod_1, S_b0_mod_0, S_cb_mmade4_1h, S_bx_mcan1_1h, S_b0_mod_4h]) (fun e => absurd e (by simp [S_cb_mmade4_0, S_bx_mcan1_0, S_b8_mkey_1, S_b8_mkey_0, S_b1_mterm_0, S_b1_copy_0, S_b0_mod_7, S_b0_mod_6, S_b0_mod_5, S_b0_mod_3, S_b0_mod_2, S_b0_mod_1, S_b0_mod_0, S_cb_mmade4_1h, S_bx_mcan1_1h, S_b0_mod_4h])) (fun e => absurd e (by simp [S_cb_mmade4_0, S_bx_mcan1_0, S_b8_mkey_1, S_b8_mkey_0, S_b1_mterm_0, S_b1_copy_0, S_b0_mod_7, S_b0_mod_6, S_b0_mod_5, S_b0_mod_3, S_b0_mod_2, S_b0_mod_1, S_b0_mod_0, S_cb_mmade4_1h, S_bx_mcan1_1h, S_b0_mod_4h])) (fun _ => ⟨a, b, ha, rfl, hl, hb⟩) (fun e => absurd e (by simp [S_cb_mmade4_0, S_bx_mcan1_0, S_b8_mkey_1, S_b8_mkey_0, S_b1_mterm_0, S_b1_copy_0, S_b0_mod_7, S_b0_mod_6, S_b0_mod_5, S_b0_mod_3, S_b0_mod_2, S_b0_mod_1, S_b0_mod_0, S_cb_mmade4_1h, S_bx_mcan1_1h, S_b0_mod_4h])) (fun e => absurd e (by simp [S_cb_mmade4_0, S_bx_mcan1_0, S_b8_mkey_1, S_b8_mkey_0, S_b1_mterm_0, S_b1_copy_0, S_b0_mod_7, S_b0_mod_6, S_b0_mod_5, S_b0_mod_3, S_b0_mod_2, S_b0_mod_1, S_b0_mod_0, S_cb_mmade4_1h, S_bx_mcan1_1h, S_b0_mod_4h])) (fun e => absurd e (by simp [S_cb_mmade4_0, S_bx_mcan1_0, S_b8_mkey_1, S_b8_mkey_0, S_b1_mterm_0, S_b1_copy_0, S_b0_mod_7, S_b0_mod_6, S_b0_mod_5, S_b0_mod_3, S_b0_mod_2, S_b0_mod_1, S_b0_mod_0, S_cb_mmade4_1h, S_bx_mcan1_1h, S_b0_mod_4h])))
theorem rO.mac {f : Nat} {a : Int32} {b : List Int32} (ha : a ≠ 0) : rO f (5 :: a :: b) := (rO_mk_ (by simp [S_cb_mmade4_0, S_bx_mcan1_0, S_b8_mkey_1, S_b8_mkey_0, S_b1_mterm_0, S_b1_copy_0, S_b0_mod_7, S_b0_mod_6, S_b0_mod_5, S_b0_mod_3, S_b0_mod_2, S_b0_mod_1, S_b0_mod_0, S_cb_mmade4_1h, S_bx_mcan1_1h, S_b0_mod_4h]) (fun e => absurd e (by simp [S_cb_mmade4_0, S_bx_mcan1_0, S_b8_mkey_1, S_b8_mkey_0, S_b1_mterm_0, S_b1_copy_0, S_b0_mod_7, S_b0_mod_6, S_b0_mod_5, S_b0_mod_3, S_b0_mod_2, S_b0_mod_1, S_b0_mod_0, S_cb_mmade4_1h, S_bx_mcan1_1h, S_b0_mod_4h])) (fun e => absurd e (by simp [S_cb_mmade4_0, S_bx_mcan1_0, S_b8_mkey_1, S_b8_mkey_0, S_b1_mterm_0, S_b1_copy_0, S_b0_mod_7, S_b0_mod_6, S_b0_mod_5, S_b0_mod_3, S_b0_mod_2, S_b0_mod_1, S_b0_mod_0, S_cb_mmade4_1h, S_bx_mcan1_1h, S_b0_mod_4h])) (fun e => absurd e (by simp [S_cb_mmade4_0, S_bx_mcan1_0, S_b8_mkey_1, S_b8_mkey_0, S_b1_mterm_0, S_b1_copy_0, S_b0_mod_7, S_b0_mod_6, S_b0_mod_5, S_b0_mod_3, S_b0_mod_2, S_b0_mod_1, S_b0_mod_0, S_cb_mmade4_1h, S_bx_mcan1_1h, S_b0_mod_4h])) (fun _ => ⟨a, b, ha, rfl⟩) (fun e => absurd e (by simp [S_cb_mmade4_0, S_bx_mcan1_0, S_b8_mkey_1, S_b8_mkey_0, S_b1_mterm_0, S_b1_copy_0, S_b0_mod_7, S_b0_mod_6, S_b0_mod_5, S_b0_mod_3, S_b0_mod_2, S_b0_mod_1, S_b0_mod_0, S_cb_mmade4_1h, S_bx_mcan1_1h, S_b0_mod_4h])) (fun e => absurd e (by simp [S_cb_mmade4_0, S_bx_mcan1_0, S_b8_mkey_1, S_b8_mkey_0, S_b1_mterm_0, S_b1_copy_0, S_b0_mod_7, S_b0_mod_6, S_b0_mod_5, S_b0_mod_3, S_b0_mod_2, S_b0_mod_1, S_b0_mod_0, S_cb_mmade4_1h, S_bx_mcan1_1h, S_b0_mod_4h])))
theorem rO.wrap {f : Nat} {a b c : Int32} (hb : b ≠ 0) : rO f [8, a, b, c] := (rO_mk_ (by simp [S_cb_mmade4_0, S_bx_mcan1_0, S_b8_mkey_1, S_b8_mkey_0, S_b1_mterm_0, S_b1_copy_0, S_b0_mod_7, S_b0_mod_6, S_b0_mod_5, S_b0_mod_3, S_b0_mod_2, S_b0_mod_1, S_b0_mod_0, S_cb_mmade4_1h, S_bx_mcan1_1h, S_b0_mod_4h]) (fun e => absurd e (by simp [S_cb_mmade4_0, S_bx_mcan1_0, S_b8_mkey_1, S_b8_mkey_0, S_b1_mterm_0, S_b1_copy_0, S_b0_mod_7, S_b0_mod_6, S_b0_mod_5, S_b0_mod_3, S_b0_mod_2, S_b0_mod_1, S_b0_mod_0, S_cb_mmade4_1h, S_bx_mcan1_1h, S_b0_mod_4h])) (fun e => absurd e (by simp [S_cb_mmade4_0, S_bx_mcan1_0, S_b8_mkey_1, S_b8_mkey_0, S_b1_mterm_0, S_b1_copy_0, S_b0_mod_7, S_b0_mod_6, S_b0_mod_5, S_b0_mod_3, S_b0_mod_2, S_b0_mod_1, S_b0_mod_0, S_cb_mmade4_1h, S_bx_mcan1_1h, S_b0_mod_4h])) (fun e => absurd e (by simp [S_cb_mmade4_0, S_bx_mcan1_0, S_b8_mkey_1, S_b8_mkey_0, S_b1_mterm_0, S_b1_copy_0, S_b0_mod_7, S_b0_mod_6, S_b0_mod_5, S_b0_mod_3, S_b0_mod_2, S_b0_mod_1, S_b0_mod_0, S_cb_mmade4_1h, S_bx_mcan1_1h, S_b0_mod_4h])) (fun e => absurd e (by simp [S_cb_mmade4_0, S_bx_mcan1_0, S_b8_mkey_1, S_b8_mkey_0, S_b1_mterm_0, S_b1_copy_0, S_b0_mod_7, S_b0_mod_6, S_b0_mod_5, S_b0_mod_3, S_b0_mod_2, S_b0_mod_1, S_b0_mod_0, S_cb_mmade4_1h, S_bx_mcan1_1h, S_b0_mod_4h])) (fun _ => ⟨a, b, c, hb, rfl⟩) (fun e => absurd e (by simp [S_cb_mmade4_0, S_bx_mcan1_0, S_b8_mkey_1, S_b8_mkey_0, S_b1_mterm_0, S_b1_copy_0, S_b0_mod_7, S_b0_mod_6, S_b0_mod_5, S_b0_mod_3, S_b0_mod_2, S_b0_mod_1, S_b0_mod_0, S_cb_mmade4_1h, S_bx_mcan1_1h, S_b0_mod_4h])))
theorem rO.sent {f : Nat} {a b : Int32} : rO f [9, a, b] := (rO_mk_ (by simp [S_cb_mmade4_0, S_bx_mcan1_0, S_b8_mkey_1, S_b8_mkey_0, S_b1_mterm_0, S_b1_copy_0, S_b0_mod_7, S_b0_mod_6, S_b0_mod_5, S_b0_mod_3, S_b0_mod_2, S_b0_mod_1, S_b0_mod_0, S_cb_mmade4_1h, S_bx_mcan1_1h, S_b0_mod_4h]) (fun e => absurd e (by simp [S_cb_mmade4_0, S_bx_mcan1_0, S_b8_mkey_1, S_b8_mkey_0, S_b1_mterm_0, S_b1_copy_0, S_b0_mod_7, S_b0_mod_6, S_b0_mod_5, S_b0_mod_3, S_b0_mod_2, S_b0_mod_1, S_b0_mod_0, S_cb_mmade4_1h, S_bx_mcan1_1h, S_b0_mod_4h])) (fun e => absurd e (by simp [S_cb_mmade4_0, S_bx_mcan1_0, S_b8_mkey_1, S_b8_mkey_0, S_b1_mterm_0, S_b1_copy_0, S_b0_mod_7, S_b0_mod_6, S_b0_mod_5, S_b0_mod_3, S_b0_mod_2, S_b0_mod_1, S_b0_mod_0, S_cb_mmade4_1h, S_bx_mcan1_1h, S_b0_mod_4h])) (fun e => absurd e (by simp [S_cb_mmade4_0, S_bx_mcan1_0, S_b8_mkey_1, S_b8_mkey_0, S_b1_mterm_0, S_b1_copy_0, S_b0_mod_7, S_b0_mod_6, S_b0_mod_5, S_b0_mod_3, S_b0_mod_2, S_b0_mod_1, S_b0_mod_0, S_cb_mmade4_1h, S_bx_mcan1_1h, S_b0_mod_4h])) (fun e => absurd e (by simp [S_cb_mmade4_0, S_bx_mcan1_0, S_b8_mkey_1, S_b8_mkey_0, S_b1_mterm_0, S_b1_copy_0, S_b0_mod_7, S_b0_mod_6, S_b0_mod_5, S_b0_mod_3, S_b0_mod_2, S_b0_mod_1, S_b0_mod_0, S_cb_mmade4_1h, S_bx_mcan1_1h, S_b0_mod_4h])) (fun e => absurd e (by simp [S_cb_mmade4_0, S_bx_mcan1_0, S_b8_mkey_1, S_b8_mkey_0, S_b1_mterm_0, S_b1_copy_0, S_b0_mod_7, S_b0_mod_6, S_b0_mod_5, S_b0_mod_3, S_b0_mod_2, S_b0_mod_1, S_b0_mod_0, S_cb_mmade4_1h, S_bx_mcan1_1h, S_b0_mod_4h])) (fun _ => ⟨a, b, rfl⟩))
theorem rO.fre {f i : Nat} (hi : i < f) : rO f [1, nI i] := (rO_mk_ (by simp [S_cb_mmade4_0, S_bx_mcan1_0, S_b8_mkey_1, S_b8_mkey_0, S_b1_mterm_0, S_b1_copy_0, S_b0_mod_7, S_b0_mod_6, S_b0_mod_5, S_b0_mod_3, S_b0_mod_2, S_b0_mod_1, S_b0_mod_0, S_cb_mmade4_1h, S_bx_mcan1_1h, S_b0_mod_4h]) (fun _ => ⟨i, hi, rfl⟩) (fun e => absurd e (by simp [S_cb_mmade4_0, S_bx_mcan1_0, S_b8_mkey_1, S_b8_mkey_0, S_b1_mterm_0, S_b1_copy_0, S_b0_mod_7, S_b0_mod_6, S_b0_mod_5, S_b0_mod_3, S_b0_mod_2, S_b0_mod_1, S_b0_mod_0, S_cb_mmade4_1h, S_bx_mcan1_1h, S_b0_mod_4h])) (fun e => absurd e (by simp [S_cb_mmade4_0, S_bx_mcan1_0, S_b8_mkey_1, S_b8_mkey_0, S_b1_mterm_0, S_b1_copy_0, S_b0_mod_7, S_b0_mod_6, S_b0_mod_5, S_b0_mod_3, S_b0_mod_2, S_b0_mod_1, S_b0_mod_0, S_cb_mmade4_1h, S_bx_mcan1_1h, S_b0_mod_4h])) (fun e => absurd e (by simp [S_cb_mmade4_0, S_bx_mcan1_0, S_b8_mkey_1, S_b8_mkey_0, S_b1_mterm_0, S_b1_copy_0, S_b0_mod_7, S_b0_mod_6, S_b0_mod_5, S_b0_mod_3, S_b0_mod_2, S_b0_mod_1, S_b0_mod_0, S_cb_mmade4_1h, S_bx_mcan1_1h, S_b0_mod_4h])) (fun e => absurd e (by simp [S_cb_mmade4_0, S_bx_mcan1_0, S_b8_mkey_1, S_b8_mkey_0, S_b1_mterm_0, S_b1_copy_0, S_b0_mod_7, S_b0_mod_6, S_b0_mod_5, S_b0_mod_3, S_b0_mod_2, S_b0_mod_1, S_b0_mod_0, S_cb_mmade4_1h, S_bx_mcan1_1h, S_b0_mod_4h])) (fun e => absurd e (by simp [S_cb_mmade4_0, S_bx_mcan1_0, S_b8_mkey_1, S_b8_mkey_0, S_b1_mterm_0, S_b1_copy_0, S_b0_mod_7, S_b0_mod_6, S_b0_mod_5, S_b0_mod_3, S_b0_mod_2, S_b0_mod_1, S_b0_mod_0, S_cb_mmade4_1h, S_bx_mcan1_1h, S_b0_mod_4h])))
/-- the terms are sound; n bounds all -/
def TI (n : Nat) (T : Tm) : Prop := (T.1.length ≤ n) ∧ (T.2.1 ≤ n) ∧ (T.2.2 ≤ n) ∧ (T.1.Nodup) ∧ (∀ r ∈ T.1, rO T.2.1 r)
theorem TI.few {n : Nat} {T : Tm} (hh_ : TI n T) : T.1.length ≤ n := hh_.1
theorem TI.fr {n : Nat} {T : Tm} (hh_ : TI n T) : T.2.1 ≤ n := hh_.2.1
theorem TI.se {n : Nat} {T : Tm} (hh_ : TI n T) : T.2.2 ≤ n := hh_.2.2.1
theorem TI.nd {n : Nat} {T : Tm} (hh_ : TI n T) : T.1.Nodup := hh_.2.2.2.1
theorem TI.ok {n : Nat} {T : Tm} (hh_ : TI n T) : ∀ r ∈ T.1, rO T.2.1 r := hh_.2.2.2.2
theorem TI_mk_ {n : Nat} {T : Tm} (f_0_ : T.1.length ≤ n) (f_1_ : T.2.1 ≤ n) (f_2_ : T.2.2 ≤ n) (f_3_ : T.1.Nodup) (f_4_ : ∀ r ∈ T.1, rO T.2.1 r) : TI n T := And.intro f_0_ (And.intro f_1_ (And.intro f_2_ (And.intro f_3_ f_4_)))
theorem TI.mono {n m : Nat} {T : Tm} (h : TI n T) (hm : n ≤ m) : TI m T := (TI_mk_ (Nat.le_trans h.few hm) (Nat.le_trans h.fr hm) (Nat.le_trans h.se hm) h.nd h.ok)
theorem TI.add {n : Nat} {T : Tm} {r : List Int32} (h : TI n T) (hr : rO T.2.1 r) : TI (n + 1) (tm_mk T r) := by
  unfold tm_mk
  by_cases h0 : tm_ix T.1 r = 0
  · rw [if_pos h0]
    refine (TI_mk_ ?_ (Nat.le_succ_of_le h.fr) (Nat.le_succ_of_le h.se) ?_ ?_)
    · rw [List.length_append]
      have := h.few
      simp [S_cb_mmade4_0, S_bx_mcan1_0, S_b8_mkey_1, S_b8_mkey_0, S_b1_mterm_0, S_b1_copy_0, S_b0_mod_7, S_b0_mod_6, S_b0_mod_5, S_b0_mod_3, S_b0_mod_2, S_b0_mod_1, S_b0_mod_0, S_cb_mmade4_1h, S_bx_mcan1_1h, S_b0_mod_4h]
      omega
    · rw [List.nodup_append]
      refine ⟨h.nd, by simp [S_cb_mmade4_0, S_bx_mcan1_0, S_b8_mkey_1, S_b8_mkey_0, S_b1_mterm_0, S_b1_copy_0, S_b0_mod_7, S_b0_mod_6, S_b0_mod_5, S_b0_mod_3, S_b0_mod_2, S_b0_mod_1, S_b0_mod_0, S_cb_mmade4_1h, S_bx_mcan1_1h, S_b0_mod_4h], ?_⟩
      intro a ha b hb e
      simp only [List.mem_singleton] at hb
      subst hb e
      exact ix_mem' ha h0
    · intro a ha
      rcases List.mem_append.mp ha with ha | ha
      · exact h.ok a ha
      · simp only [List.mem_singleton] at ha
        subst ha
        exact hr
  · rw [if_neg h0]
    exact h.mono (by omega)
theorem TI.sec {n k : Nat} {T : Tm} (h : TI n T) : TI (n + k) ((T.1, (T.2.1, T.2.2 + k)) : Tm) := (TI_mk_ (Nat.le_trans h.few (by omega)) (Nat.le_trans h.fr (by omega)) (by have := h.se; show T.2.2 + k ≤ n + k; omega) h.nd h.ok)
theorem TI.new {n : Nat} {T : Tm} (h : TI n T) (hn : n < 2 ^ 30) : [1, nI T.2.1] ∉ T.1 := by
  intro w
  obtain ⟨i, hi, e⟩ := (h.ok _ w).f1 (by simp [S_cb_mmade4_0, S_bx_mcan1_0, S_b8_mkey_1, S_b8_mkey_0, S_b1_mterm_0, S_b1_copy_0, S_b0_mod_7, S_b0_mod_6, S_b0_mod_5, S_b0_mod_3, S_b0_mod_2, S_b0_mod_1, S_b0_mod_0, S_cb_mmade4_1h, S_bx_mcan1_1h, S_b0_mod_4h])
  have hf := h.fr
  simp only [List.cons.injEq, true_and, and_true] at e
  rw [nI_inj (by omega) (by omega)] at e
  omega
theorem TI.no {n : Nat} {T : Tm} (h : TI n T) (hn : n < 2 ^ 30) : tm_no T [1, nI T.2.1] = T.1.length + 1 := by
  unfold tm_no
  have : tm_ix T.1 [1, nI T.2.1] = 0 := Decidable.of_not_not (fun w => h.new hn (ix_mem w))
  rw [if_pos this]
theorem TI.fresh {n : Nat} {T : Tm} (h : TI n T) : TI (n + 1) (tm_fresh T) := by
  have h1 : TI n ((T.1, (T.2.1 + 1 - 1, T.2.2)) : Tm) := h
  have h2 : TI (n + 1) ((T.1, (T.2.1 + 1, T.2.2)) : Tm) := (TI_mk_ (Nat.le_succ_of_le h.few) (by have := h.fr; show T.2.1 + 1 ≤ n + 1; omega) (Nat.le_succ_of_le h.se) h.nd (fun r hr => (h.ok r hr).mono (Nat.le_succ _)))
  unfold tm_fresh tm_mk
  by_cases h0 : tm_ix T.1 [1, nI T.2.1] = 0
  · rw [if_pos h0]
    refine (TI_mk_ ?_ h2.fr h2.se ?_ ?_)
    · show (T.1 ++ [[1, nI T.2.1]]).length ≤ n + 1
      rw [List.length_append]
      have := h.few
      simp [S_cb_mmade4_0, S_bx_mcan1_0, S_b8_mkey_1, S_b8_mkey_0, S_b1_mterm_0, S_b1_copy_0, S_b0_mod_7, S_b0_mod_6, S_b0_mod_5, S_b0_mod_3, S_b0_mod_2, S_b0_mod_1, S_b0_mod_0, S_cb_mmade4_1h, S_bx_mcan1_1h, S_b0_mod_4h]
      omega
    · show (T.1 ++ [[1, nI T.2.1]]).Nodup
      rw [List.nodup_append]
      refine ⟨h.nd, by simp [S_cb_mmade4_0, S_bx_mcan1_0, S_b8_mkey_1, S_b8_mkey_0, S_b1_mterm_0, S_b1_copy_0, S_b0_mod_7, S_b0_mod_6, S_b0_mod_5, S_b0_mod_3, S_b0_mod_2, S_b0_mod_1, S_b0_mod_0, S_cb_mmade4_1h, S_bx_mcan1_1h, S_b0_mod_4h], ?_⟩
      intro a ha b hb e
      simp only [List.mem_singleton] at hb
      subst hb e
      exact ix_mem' ha h0
    · intro a ha
      rcases List.mem_append.mp ha with ha | ha
      · exact h2.ok a ha
      · simp only [List.mem_singleton] at ha
        subst ha
        exact rO.fre (Nat.lt_succ_self _)
  · rw [if_neg h0]
    exact h2
/-- terms grow: by at most a -/
def TS (a : Nat) (T T' : Tm) : Prop := (T.1 <+: T'.1) ∧ (∀ n, TI n T → TI (n + a) T')
theorem TS.p {a : Nat} {T T' : Tm} (hh_ : TS a T T') : T.1 <+: T'.1 := hh_.1
theorem TS.i {a : Nat} {T T' : Tm} (hh_ : TS a T T') : ∀ n, TI n T → TI (n + a) T' := hh_.2
theorem TS_mk_ {a : Nat} {T T' : Tm} (f_0_ : T.1 <+: T'.1) (f_1_ : ∀ n, TI n T → TI (n + a) T') : TS a T T' := And.intro f_0_ f_1_
theorem TS.rf {a : Nat} {T : Tm} : TS a T T := (TS_mk_ List.prefix_rfl (fun n h => h.mono (by omega)))
theorem TS.tr {a b : Nat} {T T' T'' : Tm} (h : TS a T T') (g : TS b T' T'') : TS (a + b) T T'' := (TS_mk_ (h.p.trans g.p) (fun n q => by rw [← Nat.add_assoc]; exact g.i _ (h.i n q)))
theorem TS.mono {a b : Nat} {T T' : Tm} (h : TS a T T') (hb : a ≤ b) : TS b T T' := (TS_mk_ h.p (fun n q => (h.i n q).mono (by omega)))
theorem mk_pre (T : Tm) (r : List Int32) : T.1 <+: (tm_mk T r).1 := by
  unfold tm_mk
  split
  · exact List.prefix_append ..
  · exact List.prefix_rfl
theorem TS.add {T : Tm} {r : List Int32} (hr : rO T.2.1 r) : TS 1 T (tm_mk T r) := (TS_mk_ (mk_pre T r) (fun _ q => q.add hr))
theorem TS.fresh {T : Tm} : TS 1 T (tm_fresh T) := (TS_mk_ (mk_pre T _) (fun _ q => q.fresh))
theorem TS.sec {T : Tm} (k : Nat) : TS k T ((T.1, (T.2.1, T.2.2 + k)) : Tm) := (TS_mk_ List.prefix_rfl (fun _ q => q.sec))
/-- what a row says at a number -/
theorem row_get {rows : List (List Int32)} {k : Nat} (hk : k < 2 ^ 30) (h1 : 1 ≤ k) : tm_row rows (nI k) = rows.getD (k - 1) [] := by
  unfold tm_row
  have : ¬ nI k < 1 := by rw [show (1 : Int32) = nI 1 from rfl]; exact nI_nlt h1 (by omega)
  rw [if_neg this, nI_clamp (by omega)]
theorem row_mem {rows : List (List Int32)} {t : Int32} (h : tm_row rows t ≠ []) : ∃ k : Nat, 1 ≤ k ∧ k ≤ rows.length ∧ k < 2 ^ 31 ∧ t = nI k ∧ rows[k - 1]? = some (tm_row rows t) := by
  unfold tm_row at h ⊢
  by_cases h1 : t < 1
  · rw [if_pos h1] at h; exact absurd rfl h
  · rw [if_neg h1] at h ⊢
    have h0 : ¬ t < 0 := by rw [Int32.lt_iff_toInt_lt] at h1 ⊢; simp [S_cb_mmade4_0, S_bx_mcan1_0, S_b8_mkey_1, S_b8_mkey_0, S_b1_mterm_0, S_b1_copy_0, S_b0_mod_7, S_b0_mod_6, S_b0_mod_5, S_b0_mod_3, S_b0_mod_2, S_b0_mod_1, S_b0_mod_0, S_cb_mmade4_1h, S_bx_mcan1_1h, S_b0_mod_4h] at h1 ⊢; omega
    obtain ⟨k, hk, rfl⟩ := nI_of h0
    have hk1 : 1 ≤ k := by
      rcases Nat.lt_or_ge k 1 with w | w
      · exfalso; apply h1; rw [show (1 : Int32) = nI 1 from rfl]; exact nI_lt w (by omega)
      · exact w
    rw [nI_clamp hk] at h ⊢
    have hl : k - 1 < rows.length := by
      rcases Nat.lt_or_ge (k - 1) rows.length with w | w
      · exact w
      · exfalso; apply h; rw [List.getD_eq_getElem?_getD, List.getElem?_eq_none w]; rfl
    refine ⟨k, hk1, by omega, hk, rfl, ?_⟩
    rw [List.getD_eq_getElem?_getD, List.getElem?_eq_getElem hl]
    rfl
theorem row_pre {rows rows' : List (List Int32)} (h : rows <+: rows') {t : Int32} (hn : tm_row rows t ≠ []) : tm_row rows' t = tm_row rows t := by
  obtain ⟨k, h1, h2, h3, rfl, e⟩ := row_mem hn
  have e' := pre_get h e
  generalize hr : tm_row rows (nI k) = r at *
  unfold tm_row
  have : ¬ nI k < 1 := by rw [show (1 : Int32) = nI 1 from rfl]; exact nI_nlt h1 (by omega)
  rw [if_neg this, nI_clamp h3, List.getD_eq_getElem?_getD, e']
  rfl
theorem bt_ne {l : List Int32} {s : Int32} (h : bt_at l 0 = s) (hs : s ≠ -1) : l ≠ [] := by
  intro e
  subst e
  exact hs h.symm
theorem bt_0 {l : List Int32} (h : l ≠ []) : bt_at l 0 = l.getD 0 0 := by
  cases l with
  | nil => exact absurd rfl h
  | cons a l => rfl
theorem sort_pre {rows rows' : List (List Int32)} (h : rows <+: rows') {t s : Int32} (hs : s ≠ -1) (e : bt_at (tm_row rows t) 0 = s) : bt_at (tm_row rows' t) 0 = s := by rw [row_pre h (bt_ne e hs)]; exact e
theorem mk_mem (T : Tm) (r : List Int32) : r ∈ (tm_mk T r).1 := by
  unfold tm_mk
  by_cases h : tm_ix T.1 r = 0
  · rw [if_pos h]; exact List.mem_append_right _ (by simp [S_cb_mmade4_0, S_bx_mcan1_0, S_b8_mkey_1, S_b8_mkey_0, S_b1_mterm_0, S_b1_copy_0, S_b0_mod_7, S_b0_mod_6, S_b0_mod_5, S_b0_mod_3, S_b0_mod_2, S_b0_mod_1, S_b0_mod_0, S_cb_mmade4_1h, S_bx_mcan1_1h, S_b0_mod_4h])
  · rw [if_neg h]; exact ix_mem h
theorem no_at (T : Tm) (r : List Int32) : (tm_mk T r).1[tm_no T r - 1]? = some r := by
  unfold tm_mk tm_no
  by_cases h : tm_ix T.1 r = 0
  · rw [if_pos h, if_pos h, Nat.add_sub_cancel]
    simp [S_cb_mmade4_0, S_bx_mcan1_0, S_b8_mkey_1, S_b8_mkey_0, S_b1_mterm_0, S_b1_copy_0, S_b0_mod_7, S_b0_mod_6, S_b0_mod_5, S_b0_mod_3, S_b0_mod_2, S_b0_mod_1, S_b0_mod_0, S_cb_mmade4_1h, S_bx_mcan1_1h, S_b0_mod_4h]
  · rw [if_neg h, if_neg h]; exact ix_at h
theorem no_row {T : Tm} {r : List Int32} (hl : T.1.length < 2 ^ 29) : tm_row (tm_mk T r).1 (nI (tm_no T r)) = r := by
  have h := tm_no_b T r
  rw [row_get (by omega) (by omega), List.getD_eq_getElem?_getD, no_at]
  rfl
theorem no_same {T : Tm} {r : List Int32} (h : r ∈ T.1) : tm_no T r = tm_ix T.1 r ∧ tm_mk T r = T := by
  have := ix_mem' h
  unfold tm_no tm_mk
  rw [if_neg this, if_neg this]
  exact ⟨rfl, rfl⟩
/-- a term's number stands -/
theorem no_pre {T T' : Tm} {r : List Int32} (h : (tm_mk T r).1 <+: T'.1) (nd : T'.1.Nodup) : tm_no T' r = tm_no T r ∧ tm_mk T' r = T' ∧ tm_ix T'.1 r = tm_no T r := by
  have hm := h.subset (mk_mem T r)
  obtain ⟨e1, e2⟩ := no_same hm
  have h2 := ix_mem' hm
  have a1 := pre_get h (no_at T r)
  have a2 := ix_at h2
  have e := (List.getElem?_inj (get_lt a1) nd).mp (a1.trans a2.symm)
  have := tm_no_b T r
  refine ⟨by rw [e1]; omega, e2, by omega⟩
theorem TI.k8 {n : Nat} {T : Tm} (h : TI n T) : tk8 T := by
  have g : ∀ {t s}, bt_at (tm_row T.1 t) 0 = s → s ≠ -1 → rO T.2.1 (tm_row T.1 t) ∧ (tm_row T.1 t).getD 0 0 = s := by
    intro t s e hs
    have hne := bt_ne e hs
    obtain ⟨k, -, -, -, -, e'⟩ := row_mem hne
    exact ⟨h.ok _ (List.mem_of_getElem? e'), by rw [← bt_0 hne]; exact e⟩
  refine (tk8_mk_ (fun t e => ?_) (fun t e => ?_) (fun t e => ?_) (fun t e => ?_))
  · obtain ⟨o, e⟩ := g e (by decide)
    obtain ⟨a, b, c, hb, e⟩ := o.w8 e
    rw [e]
    exact ⟨rfl, hb⟩
  · obtain ⟨o, e⟩ := g e (by decide)
    obtain ⟨s, -, e⟩ := o.p2 e
    rw [e]
    rfl
  · obtain ⟨o, e⟩ := g e (by decide)
    obtain ⟨a, b, -, e, -⟩ := o.e4 e
    rw [e]
    simp [S_cb_mmade4_0, S_bx_mcan1_0, S_b8_mkey_1, S_b8_mkey_0, S_b1_mterm_0, S_b1_copy_0, S_b0_mod_7, S_b0_mod_6, S_b0_mod_5, S_b0_mod_3, S_b0_mod_2, S_b0_mod_1, S_b0_mod_0, S_cb_mmade4_1h, S_bx_mcan1_1h, S_b0_mod_4h]
  · obtain ⟨o, e⟩ := g e (by decide)
    obtain ⟨a, b, e⟩ := o.s9 e
    rw [e]
    rfl
theorem TI.k9 {n : Nat} {T : Tm} (h : TI n T) : tk9 T := by
  refine (tk9_mk_ (fun r w => ?_) (fun r w => ?_) (fun r w => ?_))
  · obtain ⟨a, b, ha, e, -⟩ := (h.ok _ w).e4 (by simp [S_cb_mmade4_0, S_bx_mcan1_0, S_b8_mkey_1, S_b8_mkey_0, S_b1_mterm_0, S_b1_copy_0, S_b0_mod_7, S_b0_mod_6, S_b0_mod_5, S_b0_mod_3, S_b0_mod_2, S_b0_mod_1, S_b0_mod_0, S_cb_mmade4_1h, S_bx_mcan1_1h, S_b0_mod_4h])
    simp [S_cb_mmade4_0, S_bx_mcan1_0, S_b8_mkey_1, S_b8_mkey_0, S_b1_mterm_0, S_b1_copy_0, S_b0_mod_7, S_b0_mod_6, S_b0_mod_5, S_b0_mod_3, S_b0_mod_2, S_b0_mod_1, S_b0_mod_0, S_cb_mmade4_1h, S_bx_mcan1_1h, S_b0_mod_4h] at e
    exact ha e.1.symm
  · obtain ⟨a, b, ha, e⟩ := (h.ok _ w).m5 (by simp [S_cb_mmade4_0, S_bx_mcan1_0, S_b8_mkey_1, S_b8_mkey_0, S_b1_mterm_0, S_b1_copy_0, S_b0_mod_7, S_b0_mod_6, S_b0_mod_5, S_b0_mod_3, S_b0_mod_2, S_b0_mod_1, S_b0_mod_0, S_cb_mmade4_1h, S_bx_mcan1_1h, S_b0_mod_4h])
    simp [S_cb_mmade4_0, S_bx_mcan1_0, S_b8_mkey_1, S_b8_mkey_0, S_b1_mterm_0, S_b1_copy_0, S_b0_mod_7, S_b0_mod_6, S_b0_mod_5, S_b0_mod_3, S_b0_mod_2, S_b0_mod_1, S_b0_mod_0, S_cb_mmade4_1h, S_bx_mcan1_1h, S_b0_mod_4h] at e
    exact ha e.1.symm
  · obtain ⟨s, hs, e⟩ := (h.ok _ w).p2 (by simp [S_cb_mmade4_0, S_bx_mcan1_0, S_b8_mkey_1, S_b8_mkey_0, S_b1_mterm_0, S_b1_copy_0, S_b0_mod_7, S_b0_mod_6, S_b0_mod_5, S_b0_mod_3, S_b0_mod_2, S_b0_mod_1, S_b0_mod_0, S_cb_mmade4_1h, S_bx_mcan1_1h, S_b0_mod_4h])
    simp [S_cb_mmade4_0, S_bx_mcan1_0, S_b8_mkey_1, S_b8_mkey_0, S_b1_mterm_0, S_b1_copy_0, S_b0_mod_7, S_b0_mod_6, S_b0_mod_5, S_b0_mod_3, S_b0_mod_2, S_b0_mod_1, S_b0_mod_0, S_cb_mmade4_1h, S_bx_mcan1_1h, S_b0_mod_4h] at e
    exact hs e.1.symm
theorem TI.e402 {n : Nat} {T : Tm} (h : TI n T) : ∀ r ∈ T.1, r.getD 0 0 = 4 → (∀ v ∈ r.drop 2, v &&& 255 = v) ∧ r.length ≤ 402 := by
  intro r hr e
  obtain ⟨a, b, -, e, hl, hb⟩ := (h.ok r hr).e4 e
  subst e
  exact ⟨hb, by simp [S_cb_mmade4_0, S_bx_mcan1_0, S_b8_mkey_1, S_b8_mkey_0, S_b1_mterm_0, S_b1_copy_0, S_b0_mod_7, S_b0_mod_6, S_b0_mod_5, S_b0_mod_3, S_b0_mod_2, S_b0_mod_1, S_b0_mod_0, S_cb_mmade4_1h, S_bx_mcan1_1h, S_b0_mod_4h]; omega⟩
theorem TI.o402 {n : Nat} {T : Tm} (h : TI n T) : ∀ t, bt_at (tm_row T.1 t) 0 = 4 → (tm_row T.1 t).length ≤ 402 := by
  intro t e
  have hne := bt_ne e (by decide)
  obtain ⟨k, -, -, -, -, e'⟩ := row_mem hne
  exact (h.e402 _ (List.mem_of_getElem? e') (by rw [← bt_0 hne]; exact e)).2
end
