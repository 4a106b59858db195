/- d1.mwk -/
section
set_option maxRecDepth 512
/-! The model: keys laid side by side. -/
theorem spl_at {l s : List Int32} {p i : Nat} (h : p + s.length ≤ l.length) : (spl l p s)[i]? = if p ≤ i ∧ i < p + s.length then s[i - p]? else l[i]? := by
  by_cases c : p ≤ i ∧ i < p + s.length
  · rw [if_pos c]
    obtain ⟨q, rfl⟩ : ∃ q, i = p + q := ⟨i - p, by omega⟩
    rw [spl_get (by omega) (by omega), Nat.add_sub_cancel_left]
  · rw [if_neg c]
    unfold spl
    by_cases c1 : i < p
    · rw [List.getElem?_append_left (by simp [S_cb_mmade4_0, S_bx_mcan1_0, S_b8_mkey_1, S_b8_mkey_0, S_b1_mterm_0, S_b1_copy_0, S_b0_mod_7, S_b0_mod_6, S_b0_mod_5, S_b0_mod_3, S_b0_mod_2, S_b0_mod_1, S_b0_mod_0, S_cb_mmade4_1h, S_bx_mcan1_1h, S_b0_mod_4h]; omega), List.getElem?_take, if_pos c1]
    · rw [List.getElem?_append_right (by simp [S_cb_mmade4_0, S_bx_mcan1_0, S_b8_mkey_1, S_b8_mkey_0, S_b1_mterm_0, S_b1_copy_0, S_b0_mod_7, S_b0_mod_6, S_b0_mod_5, S_b0_mod_3, S_b0_mod_2, S_b0_mod_1, S_b0_mod_0, S_cb_mmade4_1h, S_bx_mcan1_1h, S_b0_mod_4h]; omega), List.getElem?_append_right (by simp [S_cb_mmade4_0, S_bx_mcan1_0, S_b8_mkey_1, S_b8_mkey_0, S_b1_mterm_0, S_b1_copy_0, S_b0_mod_7, S_b0_mod_6, S_b0_mod_5, S_b0_mod_3, S_b0_mod_2, S_b0_mod_1, S_b0_mod_0, S_cb_mmade4_1h, S_bx_mcan1_1h, S_b0_mod_4h]; omega), List.getElem?_drop]
      congr 1
      simp [S_cb_mmade4_0, S_bx_mcan1_0, S_b8_mkey_1, S_b8_mkey_0, S_b1_mterm_0, S_b1_copy_0, S_b0_mod_7, S_b0_mod_6, S_b0_mod_5, S_b0_mod_3, S_b0_mod_2, S_b0_mod_1, S_b0_mod_0, S_cb_mmade4_1h, S_bx_mcan1_1h, S_b0_mod_4h]
      omega
theorem spl_eq {l a b : List Int32} {p : Nat} (ha : p + a.length ≤ l.length) (hb : b.length = a.length) : spl (spl l p a) p b = spl l p b := by
  apply List.ext_getElem?
  intro i
  rw [spl_at (by rw [spl_len ha]; omega), spl_at ha, spl_at (by omega)]
  split
  · rfl
  · next c => rw [if_neg (by omega)]
theorem spl_self {l : List Int32} {p n : Nat} (h : p + n ≤ l.length) : spl l p ((l.drop p).take n) = l := by
  apply List.ext_getElem?
  intro i
  have hl : ((l.drop p).take n).length = n := by simp [S_cb_mmade4_0, S_bx_mcan1_0, S_b8_mkey_1, S_b8_mkey_0, S_b1_mterm_0, S_b1_copy_0, S_b0_mod_7, S_b0_mod_6, S_b0_mod_5, S_b0_mod_3, S_b0_mod_2, S_b0_mod_1, S_b0_mod_0, S_cb_mmade4_1h, S_bx_mcan1_1h, S_b0_mod_4h]; omega
  rw [spl_at (by omega), hl]
  split
  · next c => rw [List.getElem?_take, if_pos (by omega), List.getElem?_drop]; congr 1; omega
  · rfl
theorem spl_comm {l a b : List Int32} {n i j : Nat} (hl : l.length = 3 * n) (ha : a.length = n) (hb : b.length = n) (hi : i < 3) (hj : j < 3) (hij : i ≠ j) : spl (spl l (n * i) a) (n * j) b = spl (spl l (n * j) b) (n * i) a := by
  have b1 : n * i + n ≤ 3 * n := by have := Nat.mul_le_mul_left n (show i + 1 ≤ 3 by omega); rw [Nat.mul_add, Nat.mul_one, Nat.mul_comm n 3] at this; omega
  have b2 : n * j + n ≤ 3 * n := by have := Nat.mul_le_mul_left n (show j + 1 ≤ 3 by omega); rw [Nat.mul_add, Nat.mul_one, Nat.mul_comm n 3] at this; omega
  have dis : n * i + n ≤ n * j ∨ n * j + n ≤ n * i := by
    rcases Nat.lt_or_gt_of_ne hij with h | h
    · left; have := Nat.mul_le_mul_left n (show i + 1 ≤ j by omega); rw [Nat.mul_add, Nat.mul_one] at this; exact this
    · right; have := Nat.mul_le_mul_left n (show j + 1 ≤ i by omega); rw [Nat.mul_add, Nat.mul_one] at this; exact this
  apply List.ext_getElem?
  intro q
  rw [spl_at (by rw [spl_len (by omega)]; omega), spl_at (by omega), spl_at (by rw [spl_len (by omega)]; omega), spl_at (by omega), ha, hb]
  generalize n * i = pi at *
  generalize n * j = pj at *
  by_cases c1 : pj ≤ q ∧ q < pj + n
  · rw [if_pos c1, if_neg (by omega), if_pos c1]
  · rw [if_neg c1, if_neg c1]
section
variable {x : Fx} {i j : Nat} {s s' : Fl} {m m' : Mk}
theorem xk.wk (hx : xk x) (hj : j < 3) (hm : wm m) (hf : s.1.length = 512) : xk (x.wk j s m) := by
  apply xk_mk_
  all_goals (first | (exact (List.length_set ..).trans (by first | exact hx.on | exact hx.acts | exact hx.limit | exact hx.generation | exact hx.area | exact hx.fend | exact hx.master | exact hx.pinOf | exact hx.tries | exact hx.own | exact hx.creds | exact hx.presses | exact hx.taken | exact hx.answered | exact hx.agreeing | exact hx.token | exact hx.wrong | exact hx.heard | exact hx.listed | exact hx.listAt | exact hx.listHash | exact hx.listFlags | exact hx.answerSize)) | exact sln (n := 512) hx.flash hj hf | exact sln (n := 12) hx.credId hj hm.credId | exact sln (n := 12) hx.credHash hj hm.credHash | exact sln (n := 12) hx.credSecret hj hm.credSecret | exact sln (n := 12) hx.credCount hj hm.credCount | exact sln (n := 12) hx.credLong hj hm.credLong | exact sln (n := 96) hx.credUser hj hm.credUser | exact sln (n := 12) hx.list hj hm.list | exact sln (n := 400) hx.answers hj hm.answers)
theorem nb {n j : Nat} (hj : j < 3) : n * j + n ≤ 3 * n := by
  have := Nat.mul_le_mul_left n (show j + 1 ≤ 3 by omega)
  rw [Nat.mul_add, Nat.mul_one, Nat.mul_comm n 3] at this
  exact this
theorem wk_wk (hx : xk x) (hj : j < 3) (hm : wm m) (hm' : wm m') (hf : s.1.length = 512) (hf' : s'.1.length = 512) : (x.wk j s m).wk j s' m' = x.wk j s' m' := by
  have e : ∀ (n : Nat) (l a b : List Int32), l.length = 3 * n → a.length = n → b.length = n → spl (spl l (n * j) a) (n * j) b = spl l (n * j) b := by
    intro n l a b h1 h2 h3
    have := nb (n := n) hj
    exact spl_eq (by omega) (by omega)
  unfold Fx.wk
  simp only [List.set_set]
  rw [e 512 _ _ _ hx.flash hf hf', e 12 _ _ _ hx.credId hm.credId hm'.credId, e 12 _ _ _ hx.credHash hm.credHash hm'.credHash, e 12 _ _ _ hx.credSecret hm.credSecret hm'.credSecret, e 12 _ _ _ hx.credCount hm.credCount hm'.credCount, e 12 _ _ _ hx.credLong hm.credLong hm'.credLong, e 96 _ _ _ hx.credUser hm.credUser hm'.credUser, e 12 _ _ _ hx.list hm.list hm'.list, e 400 _ _ _ hx.answers hm.answers hm'.answers]
theorem wk_comm (hx : xk x) (hi : i < 3) (hj : j < 3) (hij : i ≠ j) (hm : wm m) (hm' : wm m') (hf : s.1.length = 512) (hf' : s'.1.length = 512) : (x.wk i s m).wk j s' m' = (x.wk j s' m').wk i s m := by
  have e : ∀ (n : Nat) (l a b : List Int32), l.length = 3 * n → a.length = n → b.length = n → spl (spl l (n * i) a) (n * j) b = spl (spl l (n * j) b) (n * i) a := fun n l a b h1 h2 h3 => spl_comm h1 h2 h3 hi hj hij
  have c : ∀ (l : List Int32) (a b : Int32), (l.set i a).set j b = (l.set j b).set i a := fun l a b => List.set_comm _ _ hij
  unfold Fx.wk
  dsimp only
  rw [e 512 _ _ _ hx.flash hf hf', e 12 _ _ _ hx.credId hm.credId hm'.credId, e 12 _ _ _ hx.credHash hm.credHash hm'.credHash, e 12 _ _ _ hx.credSecret hm.credSecret hm'.credSecret, e 12 _ _ _ hx.credCount hm.credCount hm'.credCount, e 12 _ _ _ hx.credLong hm.credLong hm'.credLong, e 96 _ _ _ hx.credUser hm.credUser hm'.credUser, e 12 _ _ _ hx.list hm.list hm'.list, e 400 _ _ _ hx.answers hm.answers hm'.answers]
  simp only [c]
/-- another key stands -/
theorem wk_oth (hx : xk x) (hi : i < 3) (hj : j < 3) (hij : i ≠ j) (hm : wm m) (hm' : wm m') (hf : s.1.length = 512) (hf' : s'.1.length = 512) (h : x = x.wk i s m) : x.wk j s' m' = (x.wk j s' m').wk i s m := by
  rw [← wk_comm hx hi hj hij hm hm' hf hf', ← h]
end
end
