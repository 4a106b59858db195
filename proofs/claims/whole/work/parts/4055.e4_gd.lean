/- e4.gd -/
section
set_option maxRecDepth 512
/-! Pure: what a record leaves of a sound state. -/
section
variable {n m G : Nat} {σ : St} {k : Ky} {T T' : Tm}
theorem Gd.tries (h : Gd n σ) {t : Nat} (ht : t ≤ 8) (b : Int32) : Gd n (fs_lrn σ (rcn 3 (nI t) b)) := by
  rw [lrn_3, hd_n t (by omega)]
  exact (Gd_mk_ h.u h.r h.c h.d h.p (⟨t, ht, rfl⟩))
theorem Gd.pin (h : Gd n σ) (a b : Int32) : Gd n (fs_lrn σ (rcn 2 a b)) := by
  rw [lrn_2]
  exact (Gd_mk_ h.u h.r h.c h.d h.p (⟨8, Nat.le_refl _, rfl⟩))
theorem Gd.count (h : Gd n σ) (id c : Int32) : Gd n (fs_lrn σ (rcCount id c)) := by
  have hr := cnt_room σ id c
  rw [lrn_cnt]
  unfold fs_count at hr ⊢
  by_cases h0 : id = 0
  · rw [if_pos h0]
    exact (Gd_mk_ h.u h.r h.c h.d h.p h.t)
  · rw [if_neg h0] at hr ⊢
    have at_ : ∀ (i : Nat) (a : Cr), (σ.2.2.2.2.map (fun x => if x.1 = id then ((x.1, (x.2.1, (x.2.2.1, (x.2.2.2.1, c)))) : Cr) else x))[i]? = some a → ∃ x, σ.2.2.2.2[i]? = some x ∧ x.1 = a.1 ∧ x.2.1 = a.2.1 ∧ x.2.2.2.1 = a.2.2.2.1 := by
      intro i a ha
      rw [List.getElem?_map] at ha
      cases hx : σ.2.2.2.2[i]? with
      | none => rw [hx] at ha; cases ha
      | some x =>
        rw [hx] at ha
        simp only [Option.map_some, Option.some.injEq] at ha
        refine ⟨x, rfl, ?_⟩
        rw [← ha]
        split <;> exact ⟨rfl, rfl, rfl⟩
    refine (Gd_mk_ ?_ (by rw [hr]; exact h.r) ?_ ?_ ?_ h.t)
    · intro a ha
      obtain ⟨i, hi, e⟩ := List.getElem_of_mem ha
      obtain ⟨x, hx, -, -, e3⟩ := at_ i a (by rw [List.getElem?_eq_getElem hi, e])
      rw [← e3]
      exact h.u x (List.mem_of_getElem? hx)
    · intro a ha
      obtain ⟨i, hi, e⟩ := List.getElem_of_mem ha
      obtain ⟨x, hx, e1, e2, e3⟩ := at_ i a (by rw [List.getElem?_eq_getElem hi, e])
      rw [← e1, ← e2, ← e3]
      exact h.c x (List.mem_of_getElem? hx)
    · intro i j a b ha hb e
      obtain ⟨x, hx, e1, -, -⟩ := at_ i a ha
      obtain ⟨y, hy, f1, -, -⟩ := at_ j b hb
      exact h.d i j x y hx hy (by rw [e1, f1, e])
    · intro i j a b ha hb e e'
      obtain ⟨x, hx, -, e2, e3⟩ := at_ i a ha
      obtain ⟨y, hy, -, f2, f3⟩ := at_ j b hb
      exact h.p i j x y hx hy (by rw [e2, f2, e]) (by rw [e3, f3, e'])
theorem room_set : ∀ (l : List Cr) (i : Nat) (a c : Cr), l[i]? = some a → a.2.2.2.1.length = c.2.2.2.1.length → fs_room (l.set i c) = fs_room l := by
  intro l
  induction l with
  | nil => intro i a c h; cases h
  | cons x l ih =>
    intro i a c h e
    cases i with
    | zero =>
      cases h
      unfold fs_room
      simp [S_cb_mmade4_0, S_bx_mcan1_0, S_b8_mkey_1, S_b8_mkey_0, S_b1_mterm_0, S_b1_copy_0, S_b0_mod_7, S_b0_mod_6, S_b0_mod_5, S_b0_mod_3, S_b0_mod_2, S_b0_mod_1, S_b0_mod_0, S_cb_mmade4_1h, S_bx_mcan1_1h, S_b0_mod_4h, e]
    | succ i =>
      have := ih i a c h e
      unfold fs_room at this ⊢
      rw [List.set_cons_succ, List.map_cons, List.sum_cons, this, List.map_cons, List.sum_cons]
theorem pl_at {cr : List Cr} {party : Int32} {u : List Int32} (h : fs_pl cr party u < cr.length) : ∃ x, cr[fs_pl cr party u]? = some x ∧ x.2.1 = party ∧ x.2.2.2.1 = u := by
  refine ⟨cr[fs_pl cr party u], List.getElem?_eq_getElem h, ?_⟩
  unfold fs_pl at h ⊢
  have := List.findIdx_getElem (w := h)
  simpa [S_cb_mmade4_0, S_bx_mcan1_0, S_b8_mkey_1, S_b8_mkey_0, S_b1_mterm_0, S_b1_copy_0, S_b0_mod_7, S_b0_mod_6, S_b0_mod_5, S_b0_mod_3, S_b0_mod_2, S_b0_mod_1, S_b0_mod_0, S_cb_mmade4_1h, S_bx_mcan1_1h, S_b0_mod_4h] using this
theorem pl_no {cr : List Cr} {party : Int32} {u : List Int32} (h : ¬ fs_pl cr party u < cr.length) : ∀ x ∈ cr, ¬ (x.2.1 = party ∧ x.2.2.2.1 = u) := by
  have h1 : fs_pl cr party u = cr.length := by
    have : fs_pl cr party u ≤ cr.length := List.findIdx_le_length
    omega
  unfold fs_pl at h1
  rw [List.findIdx_eq_length] at h1
  intro x hx
  simpa [S_cb_mmade4_0, S_bx_mcan1_0, S_b8_mkey_1, S_b8_mkey_0, S_b1_mterm_0, S_b1_copy_0, S_b0_mod_7, S_b0_mod_6, S_b0_mod_5, S_b0_mod_3, S_b0_mod_2, S_b0_mod_1, S_b0_mod_0, S_cb_mmade4_1h, S_bx_mcan1_1h, S_b0_mod_4h] using h1 x hx
theorem Gd.cred (h : Gd n σ) {c : Cr} (hu : c.2.2.2.1.length ≤ 8 ∧ ∀ v ∈ c.2.2.2.1, v &&& 255 = v) (h1 : 1 ≤ c.2.2.2.1.length) {i : Nat} (hid : c.1 = nI i) (hi : n < i) (him : i ≤ m) (hm : m < 2 ^ 30) (hp : c.2.1 ≠ 0) (hroom : fs_pl σ.2.2.2.2 c.2.1 c.2.2.2.1 = σ.2.2.2.2.length → fs_room σ.2.2.2.2 + 28 + c.2.2.2.1.length ≤ 195) : Gd m (fs_cred σ c) := by
  have old : ∀ a ∈ σ.2.2.2.2, a.1 ≠ c.1 := by
    intro a ha w
    obtain ⟨⟨j, j1, j2, e⟩, -⟩ := h.c a ha
    rw [e, hid, nI_inj (by omega) (by omega)] at w
    omega
  have hmn : n ≤ m := by omega
  have hM := h.mono hmn
  unfold fs_cred
  by_cases hlt : fs_pl σ.2.2.2.2 c.2.1 c.2.2.2.1 < σ.2.2.2.2.length
  · obtain ⟨x, hx, xp, xu⟩ := pl_at hlt
    rw [if_pos hlt]
    generalize fs_pl σ.2.2.2.2 c.2.1 c.2.2.2.1 = q at *
    have at_ : ∀ (i : Nat) (a : Cr), (σ.2.2.2.2.set q c)[i]? = some a → (i = q ∧ a = c) ∨ (i ≠ q ∧ σ.2.2.2.2[i]? = some a) := by
      intro i a ha
      rw [List.getElem?_set] at ha
      by_cases hq : q = i
      · rw [if_pos hq, if_pos hlt] at ha
        cases ha
        exact Or.inl ⟨hq.symm, rfl⟩
      · rw [if_neg hq] at ha
        exact Or.inr ⟨fun w => hq w.symm, ha⟩
    refine (Gd_mk_ ?_ ?_ ?_ ?_ ?_ h.t)
    · intro a ha
      rcases List.mem_or_eq_of_mem_set ha with ha | rfl
      · exact h.u a ha
      · exact hu
    · dsimp only
      rw [room_set σ.2.2.2.2 q x c hx (by rw [xu])]
      exact h.r
    · intro a ha
      rcases List.mem_or_eq_of_mem_set ha with ha | rfl
      · exact hM.c a ha
      · exact ⟨⟨i, by omega, him, hid⟩, hp, h1⟩
    · intro i j a b ha hb e
      rcases at_ i a ha with ⟨i1, ea⟩ | ⟨i1, ha'⟩
      · rcases at_ j b hb with ⟨j1, eb⟩ | ⟨j1, hb'⟩
        · omega
        · exact absurd (by rw [← e, ea]) (old b (List.mem_of_getElem? hb'))
      · rcases at_ j b hb with ⟨j1, eb⟩ | ⟨j1, hb'⟩
        · exact absurd (by rw [e, eb]) (old a (List.mem_of_getElem? ha'))
        · exact h.d i j a b ha' hb' e
    · intro i j a b ha hb e e'
      rcases at_ i a ha with ⟨i1, ea⟩ | ⟨i1, ha'⟩
      · rcases at_ j b hb with ⟨j1, eb⟩ | ⟨j1, hb'⟩
        · omega
        · rw [i1]; exact h.p q j x b hx hb' (by rw [xp, ← e, ea]) (by rw [xu, ← e', ea])
      · rcases at_ j b hb with ⟨j1, eb⟩ | ⟨j1, hb'⟩
        · rw [j1]; exact h.p i q a x ha' hx (by rw [xp, e, eb]) (by rw [xu, e', eb])
        · exact h.p i j a b ha' hb' e e'
  · have no := pl_no hlt
    rw [if_neg hlt]
    have hpl : fs_pl σ.2.2.2.2 c.2.1 c.2.2.2.1 = σ.2.2.2.2.length := by
      have : fs_pl σ.2.2.2.2 c.2.1 c.2.2.2.1 ≤ σ.2.2.2.2.length := List.findIdx_le_length
      omega
    have at_ : ∀ (i : Nat) (a : Cr), (σ.2.2.2.2 ++ [c])[i]? = some a → (i = σ.2.2.2.2.length ∧ a = c) ∨ σ.2.2.2.2[i]? = some a := by
      intro i a ha
      rcases Nat.lt_or_ge i σ.2.2.2.2.length with w | w
      · rw [List.getElem?_append_left w] at ha
        exact Or.inr ha
      · rw [List.getElem?_append_right w] at ha
        have hi := get_lt ha
        rw [List.length_singleton] at hi
        have : i = σ.2.2.2.2.length := by omega
        subst this
        rw [Nat.sub_self] at ha
        cases ha
        exact Or.inl ⟨rfl, rfl⟩
    refine (Gd_mk_ ?_ ?_ ?_ ?_ ?_ h.t)
    · intro a ha
      rcases List.mem_append.mp ha with ha | ha
      · exact h.u a ha
      · simp only [List.mem_singleton] at ha
        subst ha
        exact hu
    · have := hroom hpl
      unfold fs_room at this ⊢
      rw [List.map_append, List.sum_append]
      simp [S_cb_mmade4_0, S_bx_mcan1_0, S_b8_mkey_1, S_b8_mkey_0, S_b1_mterm_0, S_b1_copy_0, S_b0_mod_7, S_b0_mod_6, S_b0_mod_5, S_b0_mod_3, S_b0_mod_2, S_b0_mod_1, S_b0_mod_0, S_cb_mmade4_1h, S_bx_mcan1_1h, S_b0_mod_4h]
      omega
    · intro a ha
      rcases List.mem_append.mp ha with ha | ha
      · exact hM.c a ha
      · simp only [List.mem_singleton] at ha
        subst ha
        exact ⟨⟨i, by omega, him, hid⟩, hp, h1⟩
    · intro i j a b ha hb e
      rcases at_ i a ha with ⟨i1, ea⟩ | ha'
      · rcases at_ j b hb with ⟨j1, eb⟩ | hb'
        · omega
        · exact absurd (by rw [← e, ea]) (old b (List.mem_of_getElem? hb'))
      · rcases at_ j b hb with ⟨j1, eb⟩ | hb'
        · exact absurd (by rw [e, eb]) (old a (List.mem_of_getElem? ha'))
        · exact h.d i j a b ha' hb' e
    · intro i j a b ha hb e e'
      rcases at_ i a ha with ⟨i1, ea⟩ | ha'
      · rcases at_ j b hb with ⟨j1, eb⟩ | hb'
        · omega
        · exact absurd ⟨by rw [← e, ea], by rw [← e', ea]⟩ (no b (List.mem_of_getElem? hb'))
      · rcases at_ j b hb with ⟨j1, eb⟩ | hb'
        · exact absurd ⟨by rw [e, eb], by rw [e', eb]⟩ (no a (List.mem_of_getElem? ha'))
        · exact h.p i j a b ha' hb' e e'
end
end
