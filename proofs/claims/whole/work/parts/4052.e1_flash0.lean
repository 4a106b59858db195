/- e1.flash0 -/
section
set_option maxRecDepth 512
/-! Pure: an area of the flash. -/
theorem ck2_len (b : List Int32) : (ck2 b).length = 2 := by unfold ck2; exact bt_low_len _ _
theorem ck2_ne (b : List Int32) : ck2 b ≠ [255, 255] := by
  obtain ⟨n, h1, h2⟩ := ck_lt b
  unfold ck2
  rw [h2, low2_nat (by omega)]
  intro e
  simp only [List.cons.injEq, and_true] at e
  obtain ⟨e1, e2⟩ := e
  rw [show (255 : Int32) = nI 255 from rfl, nI_inj (by omega) (by omega)] at e1 e2
  omega
/-- a record -/
def isR4 (r : List Int32) : Prop := ∃ k b, r = rc k b ∧ fs_kl (uN k) b.length = true
theorem isR4.le {r : List Int32} (h : isR4 r) : 5 ≤ r.length ∧ r.length ≤ 24 := by
  obtain ⟨k, b, rfl, hk⟩ := h
  have := fs_kl_le hk
  rw [rc_len]
  omega
theorem drop_pre {α : Type} {a b : List α} {n : Nat} (h : n = a.length) : (a ++ b).drop n = b := by subst h; simp [S_cb_mmade4_0, S_bx_mcan1_0, S_b8_mkey_1, S_b8_mkey_0, S_b1_mterm_0, S_b1_copy_0, S_b0_mod_7, S_b0_mod_6, S_b0_mod_5, S_b0_mod_3, S_b0_mod_2, S_b0_mod_1, S_b0_mod_0, S_cb_mmade4_1h, S_bx_mcan1_1h, S_b0_mod_4h]
theorem take_pre {α : Type} {a b : List α} {n : Nat} (h : n = a.length) : (a ++ b).take n = a := by subst h; simp [S_cb_mmade4_0, S_bx_mcan1_0, S_b8_mkey_1, S_b8_mkey_0, S_b1_mterm_0, S_b1_copy_0, S_b0_mod_7, S_b0_mod_6, S_b0_mod_5, S_b0_mod_3, S_b0_mod_2, S_b0_mod_1, S_b0_mod_0, S_cb_mmade4_1h, S_bx_mcan1_1h, S_b0_mod_4h]
/-- the record at a place -/
theorem rz_rec {pre rest : List Int32} {k : Int32} {b : List Int32} (hk : fs_kl (uN k) b.length = true) (hl : pre.length + (b.length + 4) ≤ 256) : fs_rz (pre ++ (rc k b ++ rest)) pre.length = b.length + 4 ∧ ((pre ++ (rc k b ++ rest)).drop pre.length).take (b.length + 4) = rc k b := by
  have hb := fs_kl_le hk
  have g1 : (pre ++ (rc k b ++ rest)).getD (pre.length + 1) 0 = nI b.length := by
    rw [List.getD_eq_getElem?_getD, List.getElem?_append_right (by omega), show pre.length + 1 - pre.length = 1 by omega]
    rfl
  have g0 : (pre ++ (rc k b ++ rest)).getD pre.length 0 = k := by
    rw [List.getD_eq_getElem?_getD, List.getElem?_append_right (by omega), Nat.sub_self]
    rfl
  have en : uN (nI b.length) = b.length := by rw [uN_nI, Nat.mod_eq_of_lt (by omega)]
  have d1 : (pre ++ (rc k b ++ rest)).drop pre.length = rc k b ++ rest := drop_pre rfl
  have hd : (pre ++ (rc k b ++ rest)).drop (pre.length + 2 + b.length) = ck2 (k :: nI b.length :: b) ++ rest := by
    rw [Nat.add_assoc, ← List.drop_drop, d1]
    unfold rc
    rw [List.append_assoc]
    exact drop_pre (by simp [S_cb_mmade4_0, S_bx_mcan1_0, S_b8_mkey_1, S_b8_mkey_0, S_b1_mterm_0, S_b1_copy_0, S_b0_mod_7, S_b0_mod_6, S_b0_mod_5, S_b0_mod_3, S_b0_mod_2, S_b0_mod_1, S_b0_mod_0, S_cb_mmade4_1h, S_bx_mcan1_1h, S_b0_mod_4h]; omega)
  have ht : ((pre ++ (rc k b ++ rest)).drop pre.length).take (2 + b.length) = k :: nI b.length :: b := by
    rw [d1]
    unfold rc
    rw [List.append_assoc]
    exact take_pre (by simp [S_cb_mmade4_0, S_bx_mcan1_0, S_b8_mkey_1, S_b8_mkey_0, S_b1_mterm_0, S_b1_copy_0, S_b0_mod_7, S_b0_mod_6, S_b0_mod_5, S_b0_mod_3, S_b0_mod_2, S_b0_mod_1, S_b0_mod_0, S_cb_mmade4_1h, S_bx_mcan1_1h, S_b0_mod_4h]; omega)
  refine ⟨?_, ?_⟩
  · unfold fs_rz
    simp only [g1, g0, en]
    rw [hd, ht, if_pos]
    refine ⟨by omega, hk, take_pre (ck2_len _).symm⟩
  · rw [d1]
    exact take_pre (by rw [rc_len])
/-- no record where the flash is empty -/
theorem rz_255 {ar : List Int32} {p : Nat} (h : p < 256 → ar.getD p 0 = 255) : fs_rz ar p = 0 := by
  unfold fs_rz
  dsimp only
  rw [if_neg]
  intro w
  have := h (by omega)
  rw [this] at w
  have := fs_kl_le w.2.1
  rw [show uN (255 : Int32) = 255 from rfl] at this
  omega
/-- a record that was torn -/
theorem rz_torn {pre : List Int32} {k : Int32} {b : List Int32} {c m : Nat} (hk : fs_kl (uN k) b.length = true) (hp : 4 ≤ pre.length) (hl : pre.length + (b.length + 4) ≤ 256) (hc : c < b.length + 4) (hm : c + m = 256 - pre.length) : fs_rz (pre ++ ((rc k b).take c ++ List.replicate m 255)) pre.length = 0 ∨ (rc k b).take c ++ List.replicate m 255 = rc k b ++ List.replicate (256 - pre.length - (b.length + 4)) 255 := by
  have hb := fs_kl_le hk
  have hrl := rc_len k b
  have hcl : ((rc k b).take c).length = c := by rw [List.length_take]; omega
  have at_ : ∀ q, (pre ++ ((rc k b).take c ++ List.replicate m 255)).getD (pre.length + q) 0 = ((rc k b).take c ++ List.replicate m 255).getD q 0 := by
    intro q
    rw [List.getD_eq_getElem?_getD, List.getElem?_append_right (by omega), Nat.add_sub_cancel_left, List.getD_eq_getElem?_getD]
  have hi : ∀ q, c ≤ q → q < c + m → ((rc k b).take c ++ List.replicate m 255).getD q 0 = 255 := by
    intro q h1 h2
    rw [List.getD_eq_getElem?_getD, List.getElem?_append_right (by omega), List.getElem?_replicate, if_pos (by omega)]
    rfl
  have lo : ∀ q, q < c → ((rc k b).take c ++ List.replicate m 255).getD q 0 = (rc k b).getD q 0 := by
    intro q h1
    rw [List.getD_eq_getElem?_getD, List.getElem?_append_left (by omega), List.getElem?_take, if_pos h1, List.getD_eq_getElem?_getD]
  by_cases c0 : c = 0
  · left
    refine rz_255 (fun _ => ?_)
    have := at_ 0
    rw [Nat.add_zero] at this
    rw [this]
    exact hi 0 (by omega) (by omega)
  by_cases c1 : c = 1
  · left
    unfold fs_rz
    dsimp only
    rw [at_ 1, hi 1 (by omega) (by omega)]
    rw [if_neg]
    intro w
    have := w.1
    rw [show uN (255 : Int32) = 255 from rfl] at this
    omega
  have n1 : (pre ++ ((rc k b).take c ++ List.replicate m 255)).getD (pre.length + 1) 0 = nI b.length := by
    rw [at_ 1, lo 1 (by omega)]
    rfl
  have en : uN (nI b.length) = b.length := by rw [uN_nI, Nat.mod_eq_of_lt (by omega)]
  have dd : ∀ q, (pre ++ ((rc k b).take c ++ List.replicate m 255)).drop (pre.length + q) = ((rc k b).take c ++ List.replicate m 255).drop q := by
    intro q
    rw [← List.drop_drop, drop_pre rfl]
  by_cases c2 : c ≤ 2 + b.length
  · left
    unfold fs_rz
    dsimp only
    rw [n1, en, if_neg]
    intro w
    have w3 := w.2.2
    rw [Nat.add_assoc, dd] at w3
    have e2 : (((rc k b).take c ++ List.replicate m 255).drop (2 + b.length)).take 2 = [255, 255] := by
      rw [List.drop_append, List.drop_eq_nil_of_le (by omega), List.nil_append, hcl, List.drop_replicate, List.take_replicate, Nat.min_eq_left (by omega)]
      rfl
    rw [e2] at w3
    exact ck2_ne _ w3.symm
  · have hc3 : c = b.length + 3 := by omega
    by_cases w : fs_rz (pre ++ ((rc k b).take c ++ List.replicate m 255)) pre.length = 0
    · exact Or.inl w
    · right
      unfold fs_rz at w
      dsimp only at w
      rw [n1, en] at w
      have w3 : ((pre ++ ((rc k b).take c ++ List.replicate m 255)).drop (pre.length + 2 + b.length)).take 2 = ck2 (((pre ++ ((rc k b).take c ++ List.replicate m 255)).drop pre.length).take (2 + b.length)) := by
        apply Decidable.byContradiction
        intro w'
        apply w
        rw [if_neg (fun q => w' q.2.2)]
      have d0 : (pre ++ ((rc k b).take c ++ List.replicate m 255)).drop pre.length = (rc k b).take c ++ List.replicate m 255 := drop_pre rfl
      rw [Nat.add_assoc, dd, d0] at w3
      have e1 : ((rc k b).take c ++ List.replicate m 255).take (2 + b.length) = k :: nI b.length :: b := by
        rw [List.take_append_of_le_length (by omega), List.take_take, Nat.min_eq_left (by omega)]
        unfold rc
        exact take_pre (by simp [S_cb_mmade4_0, S_bx_mcan1_0, S_b8_mkey_1, S_b8_mkey_0, S_b1_mterm_0, S_b1_copy_0, S_b0_mod_7, S_b0_mod_6, S_b0_mod_5, S_b0_mod_3, S_b0_mod_2, S_b0_mod_1, S_b0_mod_0, S_cb_mmade4_1h, S_bx_mcan1_1h, S_b0_mod_4h]; omega)
      rw [e1] at w3
      -- the last byte of the check is 255
      have hck := ck2_len (k :: nI b.length :: b)
      have e3 : (rc k b).take c = (k :: nI b.length :: b) ++ (ck2 (k :: nI b.length :: b)).take 1 := by
        unfold rc
        rw [List.take_append, List.take_of_length_le (by simp [S_cb_mmade4_0, S_bx_mcan1_0, S_b8_mkey_1, S_b8_mkey_0, S_b1_mterm_0, S_b1_copy_0, S_b0_mod_7, S_b0_mod_6, S_b0_mod_5, S_b0_mod_3, S_b0_mod_2, S_b0_mod_1, S_b0_mod_0, S_cb_mmade4_1h, S_bx_mcan1_1h, S_b0_mod_4h]; omega)]
        congr 2
        simp [S_cb_mmade4_0, S_bx_mcan1_0, S_b8_mkey_1, S_b8_mkey_0, S_b1_mterm_0, S_b1_copy_0, S_b0_mod_7, S_b0_mod_6, S_b0_mod_5, S_b0_mod_3, S_b0_mod_2, S_b0_mod_1, S_b0_mod_0, S_cb_mmade4_1h, S_bx_mcan1_1h, S_b0_mod_4h]
        omega
      obtain ⟨a1, a2, ha⟩ : ∃ a1 a2, ck2 (k :: nI b.length :: b) = [a1, a2] := by
        generalize ck2 (k :: nI b.length :: b) = z at *
        match z, hck with
        | [a1, a2], _ => exact ⟨a1, a2, rfl⟩
      rw [ha] at e3 w3
      have e4 : ((rc k b).take c ++ List.replicate m 255).drop (2 + b.length) = a1 :: List.replicate m 255 := by
        rw [e3, List.append_assoc]
        exact drop_pre (by simp [S_cb_mmade4_0, S_bx_mcan1_0, S_b8_mkey_1, S_b8_mkey_0, S_b1_mterm_0, S_b1_copy_0, S_b0_mod_7, S_b0_mod_6, S_b0_mod_5, S_b0_mod_3, S_b0_mod_2, S_b0_mod_1, S_b0_mod_0, S_cb_mmade4_1h, S_bx_mcan1_1h, S_b0_mod_4h]; omega)
      rw [e4] at w3
      obtain ⟨m', rfl⟩ : ∃ m', m = m' + 1 := ⟨m - 1, by omega⟩
      rw [List.replicate_succ] at w3
      simp only [List.take_succ_cons, List.take_zero, List.cons.injEq, and_true, true_and] at w3
      rw [e3, List.replicate_succ]
      have er : rc k b = (k :: nI b.length :: b) ++ [a1, a2] := by unfold rc; rw [ha]
      rw [er, ← w3]
      have : 256 - pre.length - (b.length + 4) = m' := by omega
      rw [this]
      simp [S_cb_mmade4_0, S_bx_mcan1_0, S_b8_mkey_1, S_b8_mkey_0, S_b1_mterm_0, S_b1_copy_0, S_b0_mod_7, S_b0_mod_6, S_b0_mod_5, S_b0_mod_3, S_b0_mod_2, S_b0_mod_1, S_b0_mod_0, S_cb_mmade4_1h, S_bx_mcan1_1h, S_b0_mod_4h]
/-- the records of an area are read -/
theorem pz_all {rest : List Int32} : ∀ (rs : List (List Int32)) (pre : List Int32) (s : St) (f : Nat), (∀ r ∈ rs, isR4 r) → rs.length ≤ f → pre.length + rs.flatten.length ≤ 256 → fs_rz (pre ++ (rs.flatten ++ rest)) (pre.length + rs.flatten.length) = 0 →
    fs_pz (pre ++ (rs.flatten ++ rest)) f pre.length s = (rs.foldl fs_lrn s, pre.length + rs.flatten.length) := by
  intro rs
  induction rs with
  | nil =>
    intro pre s f _ _ hl hz
    rw [List.flatten_nil, List.length_nil, Nat.add_zero] at hz
    simp only [List.flatten_nil, List.nil_append, List.length_nil, Nat.add_zero, List.foldl_nil] at hz ⊢
    cases f with
    | zero => rfl
    | succ f => unfold fs_pz; rw [if_pos hz]
  | cons r rs ih =>
    intro pre s f hr hf hl hz
    obtain ⟨k, b, e, hk⟩ := hr r (List.mem_cons_self ..)
    subst e
    rw [List.flatten_cons, List.length_append, rc_len] at hl
    cases f with
    | zero => simp [S_cb_mmade4_0, S_bx_mcan1_0, S_b8_mkey_1, S_b8_mkey_0, S_b1_mterm_0, S_b1_copy_0, S_b0_mod_7, S_b0_mod_6, S_b0_mod_5, S_b0_mod_3, S_b0_mod_2, S_b0_mod_1, S_b0_mod_0, S_cb_mmade4_1h, S_bx_mcan1_1h, S_b0_mod_4h] at hf
    | succ f =>
      have h := rz_rec (pre := pre) (rest := rs.flatten ++ rest) hk (by omega)
      rw [List.flatten_cons, List.append_assoc]
      unfold fs_pz
      rw [h.1, if_neg (by omega), h.2]
      have e1 : pre ++ (rc k b ++ (rs.flatten ++ rest)) = (pre ++ rc k b) ++ (rs.flatten ++ rest) := by simp [S_cb_mmade4_0, S_bx_mcan1_0, S_b8_mkey_1, S_b8_mkey_0, S_b1_mterm_0, S_b1_copy_0, S_b0_mod_7, S_b0_mod_6, S_b0_mod_5, S_b0_mod_3, S_b0_mod_2, S_b0_mod_1, S_b0_mod_0, S_cb_mmade4_1h, S_bx_mcan1_1h, S_b0_mod_4h]
      have e2 : pre.length + (b.length + 4) = (pre ++ rc k b).length := by rw [List.length_append, rc_len]
      rw [List.foldl_cons, e1, e2]
      rw [List.flatten_cons, List.length_append, List.append_assoc, e1] at hz
      have := ih (pre ++ rc k b) (fs_lrn s (rc k b)) f (fun r hr' => hr r (List.mem_cons_of_mem _ hr')) (by simp [S_cb_mmade4_0, S_bx_mcan1_0, S_b8_mkey_1, S_b8_mkey_0, S_b1_mterm_0, S_b1_copy_0, S_b0_mod_7, S_b0_mod_6, S_b0_mod_5, S_b0_mod_3, S_b0_mod_2, S_b0_mod_1, S_b0_mod_0, S_cb_mmade4_1h, S_bx_mcan1_1h, S_b0_mod_4h] at hf; omega) (by rw [List.length_append, rc_len]; omega) (by rw [List.length_append, Nat.add_assoc]; exact hz)
      rw [this, List.length_append, List.length_append, Nat.add_assoc]
/-- along the reading -/
theorem pz_P {P : St → Prop} {rest : List Int32} : ∀ (rs : List (List Int32)) (pre : List Int32) (s : St) (f : Nat), (∀ r ∈ rs, isR4 r) → rs.length ≤ f → pre.length + rs.flatten.length ≤ 256 → fs_rz (pre ++ (rs.flatten ++ rest)) (pre.length + rs.flatten.length) = 0 → (∀ n, n ≤ rs.length → P ((rs.take n).foldl fs_lrn s)) →
    pzP P (pre ++ (rs.flatten ++ rest)) f pre.length s := by
  intro rs
  induction rs with
  | nil =>
    intro pre s f _ _ hl hz hP
    have h0 := hP 0 (Nat.le_refl _)
    simp only [List.take_zero, List.foldl_nil] at h0
    rw [List.flatten_nil, List.length_nil, Nat.add_zero] at hz
    simp only [List.flatten_nil, List.nil_append] at hz ⊢
    cases f with
    | zero => exact h0
    | succ f => exact ⟨h0, fun w => absurd hz w⟩
  | cons r rs ih =>
    intro pre s f hr hf hl hz hP
    obtain ⟨k, b, e, hk⟩ := hr r (List.mem_cons_self ..)
    subst e
    have h0 := hP 0 (Nat.zero_le _)
    simp only [List.take_zero, List.foldl_nil] at h0
    rw [List.flatten_cons, List.length_append, rc_len] at hl
    cases f with
    | zero => simp [S_cb_mmade4_0, S_bx_mcan1_0, S_b8_mkey_1, S_b8_mkey_0, S_b1_mterm_0, S_b1_copy_0, S_b0_mod_7, S_b0_mod_6, S_b0_mod_5, S_b0_mod_3, S_b0_mod_2, S_b0_mod_1, S_b0_mod_0, S_cb_mmade4_1h, S_bx_mcan1_1h, S_b0_mod_4h] at hf
    | succ f =>
      have h := rz_rec (pre := pre) (rest := rs.flatten ++ rest) hk (by omega)
      rw [List.flatten_cons, List.append_assoc]
      refine ⟨h0, fun _ => ?_⟩
      rw [h.1, h.2]
      have e1 : pre ++ (rc k b ++ (rs.flatten ++ rest)) = (pre ++ rc k b) ++ (rs.flatten ++ rest) := by simp [S_cb_mmade4_0, S_bx_mcan1_0, S_b8_mkey_1, S_b8_mkey_0, S_b1_mterm_0, S_b1_copy_0, S_b0_mod_7, S_b0_mod_6, S_b0_mod_5, S_b0_mod_3, S_b0_mod_2, S_b0_mod_1, S_b0_mod_0, S_cb_mmade4_1h, S_bx_mcan1_1h, S_b0_mod_4h]
      have e2 : pre.length + (b.length + 4) = (pre ++ rc k b).length := by rw [List.length_append, rc_len]
      rw [e1, e2]
      rw [List.flatten_cons, List.length_append, List.append_assoc, e1] at hz
      exact ih (pre ++ rc k b) (fs_lrn s (rc k b)) f (fun r hr' => hr r (List.mem_cons_of_mem _ hr')) (by simp [S_cb_mmade4_0, S_bx_mcan1_0, S_b8_mkey_1, S_b8_mkey_0, S_b1_mterm_0, S_b1_copy_0, S_b0_mod_7, S_b0_mod_6, S_b0_mod_5, S_b0_mod_3, S_b0_mod_2, S_b0_mod_1, S_b0_mod_0, S_cb_mmade4_1h, S_bx_mcan1_1h, S_b0_mod_4h] at hf; omega) (by rw [List.length_append, rc_len]; omega) (by rw [List.length_append, Nat.add_assoc]; exact hz) (fun n hn => by
        have := hP (n + 1) (by simp [S_cb_mmade4_0, S_bx_mcan1_0, S_b8_mkey_1, S_b8_mkey_0, S_b1_mterm_0, S_b1_copy_0, S_b0_mod_7, S_b0_mod_6, S_b0_mod_5, S_b0_mod_3, S_b0_mod_2, S_b0_mod_1, S_b0_mod_0, S_cb_mmade4_1h, S_bx_mcan1_1h, S_b0_mod_4h]; omega)
        rw [List.take_succ_cons, List.foldl_cons] at this
        exact this)
theorem rs_len {rs : List (List Int32)} (h : ∀ r ∈ rs, isR4 r) : 5 * rs.length ≤ rs.flatten.length := by
  induction rs with
  | nil => simp [S_cb_mmade4_0, S_bx_mcan1_0, S_b8_mkey_1, S_b8_mkey_0, S_b1_mterm_0, S_b1_copy_0, S_b0_mod_7, S_b0_mod_6, S_b0_mod_5, S_b0_mod_3, S_b0_mod_2, S_b0_mod_1, S_b0_mod_0, S_cb_mmade4_1h, S_bx_mcan1_1h, S_b0_mod_4h]
  | cons r rs ih =>
    have h1 := (h r (List.mem_cons_self ..)).le
    have h2 := ih (fun r hr => h r (List.mem_cons_of_mem _ hr))
    rw [List.flatten_cons, List.length_append, List.length_cons]
    omega
end
