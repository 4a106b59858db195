/- e2.replay -/
section
set_option maxRecDepth 512
/-! Pure: what the records say together. -/
/-- a state that is sound; the ids are numbers up to n -/
def Gd (n : Nat) (σ : St) : Prop := (okU σ.2.2.2.2) ∧ (fs_room σ.2.2.2.2 ≤ 195) ∧ (∀ c ∈ σ.2.2.2.2, (∃ i, 1 ≤ i ∧ i ≤ n ∧ c.1 = nI i) ∧ c.2.1 ≠ 0 ∧ 1 ≤ c.2.2.2.1.length) ∧ (∀ (i j : Nat) (a b : Cr), σ.2.2.2.2[i]? = some a → σ.2.2.2.2[j]? = some b → a.1 = b.1 → i = j) ∧ (∀ (i j : Nat) (a b : Cr), σ.2.2.2.2[i]? = some a → σ.2.2.2.2[j]? = some b → a.2.1 = b.2.1 → a.2.2.2.1 = b.2.2.2.1 → i = j) ∧ (∃ k, k ≤ 8 ∧ σ.2.2.1 = nI k)
theorem Gd.u {n : Nat} {σ : St} (hh_ : Gd n σ) : okU σ.2.2.2.2 := hh_.1
theorem Gd.r {n : Nat} {σ : St} (hh_ : Gd n σ) : fs_room σ.2.2.2.2 ≤ 195 := hh_.2.1
theorem Gd.c {n : Nat} {σ : St} (hh_ : Gd n σ) : ∀ c ∈ σ.2.2.2.2, (∃ i, 1 ≤ i ∧ i ≤ n ∧ c.1 = nI i) ∧ c.2.1 ≠ 0 ∧ 1 ≤ c.2.2.2.1.length := hh_.2.2.1
theorem Gd.d {n : Nat} {σ : St} (hh_ : Gd n σ) : ∀ (i j : Nat) (a b : Cr), σ.2.2.2.2[i]? = some a → σ.2.2.2.2[j]? = some b → a.1 = b.1 → i = j := hh_.2.2.2.1
theorem Gd.p {n : Nat} {σ : St} (hh_ : Gd n σ) : ∀ (i j : Nat) (a b : Cr), σ.2.2.2.2[i]? = some a → σ.2.2.2.2[j]? = some b → a.2.1 = b.2.1 → a.2.2.2.1 = b.2.2.2.1 → i = j := hh_.2.2.2.2.1
theorem Gd.t {n : Nat} {σ : St} (hh_ : Gd n σ) : ∃ k, k ≤ 8 ∧ σ.2.2.1 = nI k := hh_.2.2.2.2.2
theorem Gd_mk_ {n : Nat} {σ : St} (f_0_ : okU σ.2.2.2.2) (f_1_ : fs_room σ.2.2.2.2 ≤ 195) (f_2_ : ∀ c ∈ σ.2.2.2.2, (∃ i, 1 ≤ i ∧ i ≤ n ∧ c.1 = nI i) ∧ c.2.1 ≠ 0 ∧ 1 ≤ c.2.2.2.1.length) (f_3_ : ∀ (i j : Nat) (a b : Cr), σ.2.2.2.2[i]? = some a → σ.2.2.2.2[j]? = some b → a.1 = b.1 → i = j) (f_4_ : ∀ (i j : Nat) (a b : Cr), σ.2.2.2.2[i]? = some a → σ.2.2.2.2[j]? = some b → a.2.1 = b.2.1 → a.2.2.2.1 = b.2.2.2.1 → i = j) (f_5_ : ∃ k, k ≤ 8 ∧ σ.2.2.1 = nI k) : Gd n σ := And.intro f_0_ (And.intro f_1_ (And.intro f_2_ (And.intro f_3_ (And.intro f_4_ f_5_))))
theorem Gd.mono {n m : Nat} {σ : St} (h : Gd n σ) (hm : n ≤ m) : Gd m σ := (Gd_mk_ h.u h.r (fun c hc => by obtain ⟨⟨i, a, b, e⟩, q⟩ := h.c c hc; exact ⟨⟨i, a, by omega, e⟩, q⟩) h.d h.p h.t)
theorem Gd.ne {n : Nat} {σ : St} (h : Gd n σ) (hn : n < 2 ^ 30) : ∀ c ∈ σ.2.2.2.2, c.1 ≠ 0 ∧ c.2.1 ≠ 0 := by
  intro c hc
  obtain ⟨⟨i, a, b, e⟩, q, -⟩ := h.c c hc
  refine ⟨fun w => ?_, q⟩
  rw [e, show (0 : Int32) = nI 0 from rfl, nI_inj (by omega) (by omega)] at w
  omega
theorem Gd.six {n : Nat} {σ : St} (h : Gd n σ) : σ.2.2.2.2.length ≤ 6 := by
  have h1 := room_len σ.2.2.2.2
  have h2 := h.r
  omega
theorem Gd.recs {n : Nat} {σ : St} (h : Gd n σ) : σ.recs.length ≤ 228 := by
  have h1 := recs_len σ
  have h2 := h.r
  omega
theorem Gd.tr {n : Nat} {σ : St} (h : Gd n σ) : σ.2.2.1 &&& 255 = σ.2.2.1 := by
  obtain ⟨k, hk, e⟩ := h.t
  rw [e]
  exact hd_n k (by omega)
/-- the records of a state -/
def crL (c : Cr) : List (List Int32) := c.row :: (if c.2.2.2.2 = 0 then [] else [rcCount c.1 c.2.2.2.2])
def owL (σ : St) : List (List Int32) := rc 1 (b4 σ.1) :: ((if σ.2.1 = 0 then [] else [rc 2 (b4 σ.2.1)]) ++ ((if σ.2.2.1 = 8 then [] else [rc 3 [σ.2.2.1 &&& 255]]) ++ (if σ.2.2.2.1 = 0 then [] else [rcCount 0 σ.2.2.2.1])))
def reL (σ : St) : List (List Int32) := owL σ ++ σ.2.2.2.2.flatMap crL
theorem crL_fl (c : Cr) : (crL c).flatten = c.recs := by
  unfold crL Cr.recs
  split <;> simp [S_cb_mmade4_0, S_bx_mcan1_0, S_b8_mkey_1, S_b8_mkey_0, S_b1_mterm_0, S_b1_copy_0, S_b0_mod_7, S_b0_mod_6, S_b0_mod_5, S_b0_mod_3, S_b0_mod_2, S_b0_mod_1, S_b0_mod_0, S_cb_mmade4_1h, S_bx_mcan1_1h, S_b0_mod_4h]
theorem reL_fl (σ : St) : (reL σ).flatten = σ.recs := by
  unfold reL St.recs
  rw [List.flatten_append]
  congr 1
  · unfold owL St.own
    rw [List.flatten_cons, List.flatten_append, List.flatten_append]
    congr 2
    · split <;> simp [S_cb_mmade4_0, S_bx_mcan1_0, S_b8_mkey_1, S_b8_mkey_0, S_b1_mterm_0, S_b1_copy_0, S_b0_mod_7, S_b0_mod_6, S_b0_mod_5, S_b0_mod_3, S_b0_mod_2, S_b0_mod_1, S_b0_mod_0, S_cb_mmade4_1h, S_bx_mcan1_1h, S_b0_mod_4h]
    · congr 1
      · split <;> simp [S_cb_mmade4_0, S_bx_mcan1_0, S_b8_mkey_1, S_b8_mkey_0, S_b1_mterm_0, S_b1_copy_0, S_b0_mod_7, S_b0_mod_6, S_b0_mod_5, S_b0_mod_3, S_b0_mod_2, S_b0_mod_1, S_b0_mod_0, S_cb_mmade4_1h, S_bx_mcan1_1h, S_b0_mod_4h]
      · split <;> simp [S_cb_mmade4_0, S_bx_mcan1_0, S_b8_mkey_1, S_b8_mkey_0, S_b1_mterm_0, S_b1_copy_0, S_b0_mod_7, S_b0_mod_6, S_b0_mod_5, S_b0_mod_3, S_b0_mod_2, S_b0_mod_1, S_b0_mod_0, S_cb_mmade4_1h, S_bx_mcan1_1h, S_b0_mod_4h]
  · induction σ.2.2.2.2 with
    | nil => rfl
    | cons c l ih => rw [List.flatMap_cons, List.flatMap_cons, List.flatten_append, crL_fl, ih]
theorem lrn_1 (s : St) (a : Int32) : fs_lrn s (rc 1 (b4 a)) = ((a, (s.2.1, (s.2.2.1, (s.2.2.2.1, s.2.2.2.2)))) : St) := by
  have g2 : w4a (rc 1 (b4 a)) 2 = a := by
    have : ((rc 1 (b4 a)).drop 2).take 4 = b4 a := by unfold rc; simp [S_cb_mmade4_0, S_bx_mcan1_0, S_b8_mkey_1, S_b8_mkey_0, S_b1_mterm_0, S_b1_copy_0, S_b0_mod_7, S_b0_mod_6, S_b0_mod_5, S_b0_mod_3, S_b0_mod_2, S_b0_mod_1, S_b0_mod_0, S_cb_mmade4_1h, S_bx_mcan1_1h, S_b0_mod_4h, b4]
    rw [w4a, this, w4_b4]
  unfold fs_lrn
  rw [show (rc 1 (b4 a)).getD 0 0 = 1 from rfl, if_pos rfl, g2]
theorem lrn_row (s : St) {c : Cr} (h : c.2.2.2.1.length ≤ 8) : fs_lrn s c.row = fs_cred s ((c.1, (c.2.1, (c.2.2.1, (c.2.2.2.1, 0)))) : Cr) := by
  have hl : (b4 c.1 ++ (b4 c.2.1 ++ (b4 c.2.2.1 ++ c.2.2.2.1))).length = 12 + c.2.2.2.1.length := by simp [S_cb_mmade4_0, S_bx_mcan1_0, S_b8_mkey_1, S_b8_mkey_0, S_b1_mterm_0, S_b1_copy_0, S_b0_mod_7, S_b0_mod_6, S_b0_mod_5, S_b0_mod_3, S_b0_mod_2, S_b0_mod_1, S_b0_mod_0, S_cb_mmade4_1h, S_bx_mcan1_1h, S_b0_mod_4h, b4_len]; omega
  have g0 : c.row.getD 0 0 = 5 := rfl
  have g1 : c.row.getD 1 0 = nI (12 + c.2.2.2.1.length) := by
    unfold Cr.row
    show nI _ = _
    rw [hl]
  have e : c.row = [5, nI (12 + c.2.2.2.1.length)] ++ (b4 c.1 ++ (b4 c.2.1 ++ (b4 c.2.2.1 ++ (c.2.2.2.1 ++ ck2 (5 :: nI (12 + c.2.2.2.1.length) :: (b4 c.1 ++ (b4 c.2.1 ++ (b4 c.2.2.1 ++ c.2.2.2.1)))))))) := by
    unfold Cr.row rc
    rw [hl]
    simp [S_cb_mmade4_0, S_bx_mcan1_0, S_b8_mkey_1, S_b8_mkey_0, S_b1_mterm_0, S_b1_copy_0, S_b0_mod_7, S_b0_mod_6, S_b0_mod_5, S_b0_mod_3, S_b0_mod_2, S_b0_mod_1, S_b0_mod_0, S_cb_mmade4_1h, S_bx_mcan1_1h, S_b0_mod_4h]
  have w2 : w4a c.row 2 = c.1 := by
    have : (c.row.drop 2).take 4 = b4 c.1 := by rw [e, drop_pre (n := 2) (a := [5, nI (12 + c.2.2.2.1.length)]) rfl]; exact take_pre (b4_len _).symm
    rw [w4a, this, w4_b4]
  have w6 : w4a c.row 6 = c.2.1 := by
    have : (c.row.drop 6).take 4 = b4 c.2.1 := by
      rw [e, ← List.append_assoc, drop_pre (by simp [S_cb_mmade4_0, S_bx_mcan1_0, S_b8_mkey_1, S_b8_mkey_0, S_b1_mterm_0, S_b1_copy_0, S_b0_mod_7, S_b0_mod_6, S_b0_mod_5, S_b0_mod_3, S_b0_mod_2, S_b0_mod_1, S_b0_mod_0, S_cb_mmade4_1h, S_bx_mcan1_1h, S_b0_mod_4h, b4_len])]; exact take_pre (b4_len _).symm
    rw [w4a, this, w4_b4]
  have w10 : w4a c.row 10 = c.2.2.1 := by
    have : (c.row.drop 10).take 4 = b4 c.2.2.1 := by
      rw [e, ← List.append_assoc, ← List.append_assoc, drop_pre (by simp [S_cb_mmade4_0, S_bx_mcan1_0, S_b8_mkey_1, S_b8_mkey_0, S_b1_mterm_0, S_b1_copy_0, S_b0_mod_7, S_b0_mod_6, S_b0_mod_5, S_b0_mod_3, S_b0_mod_2, S_b0_mod_1, S_b0_mod_0, S_cb_mmade4_1h, S_bx_mcan1_1h, S_b0_mod_4h, b4_len])]; exact take_pre (b4_len _).symm
    rw [w4a, this, w4_b4]
  have wu : (c.row.drop 14).take (uN (c.row.getD 1 0) - 12) = c.2.2.2.1 := by
    rw [g1, uN_nI, Nat.mod_eq_of_lt (by omega), e, ← List.append_assoc, ← List.append_assoc, ← List.append_assoc, drop_pre (by simp [S_cb_mmade4_0, S_bx_mcan1_0, S_b8_mkey_1, S_b8_mkey_0, S_b1_mterm_0, S_b1_copy_0, S_b0_mod_7, S_b0_mod_6, S_b0_mod_5, S_b0_mod_3, S_b0_mod_2, S_b0_mod_1, S_b0_mod_0, S_cb_mmade4_1h, S_bx_mcan1_1h, S_b0_mod_4h, b4_len])]
    exact take_pre (by omega)
  unfold fs_lrn
  rw [g0, if_neg (by decide), if_neg (by decide), if_neg (by decide), if_neg (by decide), if_pos rfl, w2, w6, w10, wu]
theorem own_fold {n : Nat} {σ : St} (h : Gd n σ) : (owL σ).foldl fs_lrn St.none = ((σ.1, (σ.2.1, (σ.2.2.1, (σ.2.2.2.1, [])))) : St) := by
  have ht := h.tr
  have l2 : ∀ s : St, fs_lrn s (rc 2 (b4 σ.2.1)) = ((s.1, (σ.2.1, (8, (s.2.2.2.1, s.2.2.2.2)))) : St) := fun s => by rw [← rcn_2 σ.2.1 0]; exact lrn_2 s σ.2.1 0
  have l3 : ∀ s : St, fs_lrn s (rc 3 [σ.2.2.1 &&& 255]) = ((s.1, (s.2.1, (σ.2.2.1 &&& 255, (s.2.2.2.1, s.2.2.2.2)))) : St) := fun s => by rw [← rcn_3 σ.2.2.1 0]; exact lrn_3 s σ.2.2.1 0
  have l4 : ∀ s : St, fs_lrn s (rcCount 0 σ.2.2.2.1) = ((s.1, (s.2.1, (s.2.2.1, (σ.2.2.2.1, s.2.2.2.2)))) : St) := fun s => by rw [lrn_cnt]; unfold fs_count; rw [if_pos rfl]
  have s2 : ∀ s : St, s.2.1 = 0 → s.2.2.1 = 8 → (if σ.2.1 = 0 then [] else [rc 2 (b4 σ.2.1)]).foldl fs_lrn s = ((s.1, (σ.2.1, (s.2.2.1, (s.2.2.2.1, s.2.2.2.2)))) : St) := by
    intro s h1 h2
    by_cases c : σ.2.1 = 0
    · rw [if_pos c, List.foldl_nil, c]
      obtain ⟨a, b, c', e, f⟩ := s
      dsimp only at h1
      rw [h1]
    · rw [if_neg c, List.foldl_cons, List.foldl_nil, l2]
      obtain ⟨a, b, c', e, f⟩ := s
      dsimp only at h2 ⊢
      rw [h2]
  have s3 : ∀ s : St, s.2.2.1 = 8 → (if σ.2.2.1 = 8 then [] else [rc 3 [σ.2.2.1 &&& 255]]).foldl fs_lrn s = ((s.1, (s.2.1, (σ.2.2.1, (s.2.2.2.1, s.2.2.2.2)))) : St) := by
    intro s h1
    by_cases c : σ.2.2.1 = 8
    · rw [if_pos c, List.foldl_nil, c]
      obtain ⟨a, b, c', e, f⟩ := s
      dsimp only at h1
      rw [h1]
    · rw [if_neg c, List.foldl_cons, List.foldl_nil, l3, ht]
  have s4 : ∀ s : St, s.2.2.2.1 = 0 → (if σ.2.2.2.1 = 0 then [] else [rcCount 0 σ.2.2.2.1]).foldl fs_lrn s = ((s.1, (s.2.1, (s.2.2.1, (σ.2.2.2.1, s.2.2.2.2)))) : St) := by
    intro s h1
    by_cases c : σ.2.2.2.1 = 0
    · rw [if_pos c, List.foldl_nil, c]
      obtain ⟨a, b, c', e, f⟩ := s
      dsimp only at h1
      rw [h1]
    · rw [if_neg c, List.foldl_cons, List.foldl_nil, l4]
  unfold owL
  rw [List.foldl_cons, lrn_1, List.foldl_append, List.foldl_append, s2 _ rfl rfl, s3 _ rfl, s4 _ rfl]
  rfl
theorem pl_none {l : List Cr} {party : Int32} {user : List Int32} (h : ∀ c ∈ l, ¬ (c.2.1 = party ∧ c.2.2.2.1 = user)) : fs_pl l party user = l.length := by
  unfold fs_pl
  rw [List.findIdx_eq_length]
  intro c hc
  simpa [S_cb_mmade4_0, S_bx_mcan1_0, S_b8_mkey_1, S_b8_mkey_0, S_b1_mterm_0, S_b1_copy_0, S_b0_mod_7, S_b0_mod_6, S_b0_mod_5, S_b0_mod_3, S_b0_mod_2, S_b0_mod_1, S_b0_mod_0, S_cb_mmade4_1h, S_bx_mcan1_1h, S_b0_mod_4h] using h c hc
theorem cr_fold {l : List Cr} (hu : okU l) (hn : ∀ c ∈ l, c.1 ≠ 0) : ∀ (pre : List Cr) (s : St), s.2.2.2.2 = pre → (∀ (i j : Nat) (a b : Cr), (pre ++ l)[i]? = some a → (pre ++ l)[j]? = some b → a.1 = b.1 → i = j) → (∀ (i j : Nat) (a b : Cr), (pre ++ l)[i]? = some a → (pre ++ l)[j]? = some b → a.2.1 = b.2.1 → a.2.2.2.1 = b.2.2.2.1 → i = j) →
    (l.flatMap crL).foldl fs_lrn s = ((s.1, (s.2.1, (s.2.2.1, (s.2.2.2.1, pre ++ l)))) : St) := by
  induction l with
  | nil => intro pre s hs _ _; subst hs; simp [S_cb_mmade4_0, S_bx_mcan1_0, S_b8_mkey_1, S_b8_mkey_0, S_b1_mterm_0, S_b1_copy_0, S_b0_mod_7, S_b0_mod_6, S_b0_mod_5, S_b0_mod_3, S_b0_mod_2, S_b0_mod_1, S_b0_mod_0, S_cb_mmade4_1h, S_bx_mcan1_1h, S_b0_mod_4h]
  | cons c l ih =>
    intro pre s hs hd hp
    have huc := hu c (List.mem_cons_self ..)
    have hcid := hn c (List.mem_cons_self ..)
    have hat : (pre ++ c :: l)[pre.length]? = some c := by rw [List.getElem?_append_right (Nat.le_refl _), Nat.sub_self]; rfl
    have far : ∀ x ∈ pre, ∃ i, i < pre.length ∧ (pre ++ c :: l)[i]? = some x := by
      intro x hx
      obtain ⟨i, hi, e⟩ := List.getElem_of_mem hx
      exact ⟨i, hi, by rw [List.getElem?_append_left hi, List.getElem?_eq_getElem hi, e]⟩
    have n1 : fs_pl s.2.2.2.2 c.2.1 c.2.2.2.1 = s.2.2.2.2.length := by
      rw [hs]
      refine pl_none (fun x hx w => ?_)
      obtain ⟨i, hi, e⟩ := far x hx
      have := hp i pre.length x c e hat w.1 w.2
      omega
    have s1 : fs_lrn s c.row = ((s.1, (s.2.1, (s.2.2.1, (s.2.2.2.1, pre ++ [((c.1, (c.2.1, (c.2.2.1, (c.2.2.2.1, 0)))) : Cr)])))) : St) := by
      rw [lrn_row s huc.1]
      unfold fs_cred
      rw [n1, if_neg (by omega), hs]
    have s2 : (crL c).foldl fs_lrn s = ((s.1, (s.2.1, (s.2.2.1, (s.2.2.2.1, pre ++ [c])))) : St) := by
      unfold crL
      rw [List.foldl_cons, s1]
      by_cases h0 : c.2.2.2.2 = 0
      · rw [if_pos h0, List.foldl_nil]
        have : (((c.1, (c.2.1, (c.2.2.1, (c.2.2.2.1, 0)))) : Cr) : Cr) = c := by rw [← h0]
        rw [this]
      · rw [if_neg h0, List.foldl_cons, List.foldl_nil, lrn_cnt]
        unfold fs_count
        rw [if_neg hcid]
        dsimp only
        rw [List.map_append]
        have e1 : pre.map (fun x => if x.1 = c.1 then ((x.1, (x.2.1, (x.2.2.1, (x.2.2.2.1, c.2.2.2.2)))) : Cr) else x) = pre := by
          have : ∀ x ∈ pre, (if x.1 = c.1 then ((x.1, (x.2.1, (x.2.2.1, (x.2.2.2.1, c.2.2.2.2)))) : Cr) else x) = x := by
            intro x hx
            rw [if_neg]
            intro w
            obtain ⟨i, hi, e⟩ := far x hx
            have := hd i pre.length x c e hat w
            omega
          rw [List.map_congr_left this]
          simp [S_cb_mmade4_0, S_bx_mcan1_0, S_b8_mkey_1, S_b8_mkey_0, S_b1_mterm_0, S_b1_copy_0, S_b0_mod_7, S_b0_mod_6, S_b0_mod_5, S_b0_mod_3, S_b0_mod_2, S_b0_mod_1, S_b0_mod_0, S_cb_mmade4_1h, S_bx_mcan1_1h, S_b0_mod_4h]
        rw [e1]
        simp [S_cb_mmade4_0, S_bx_mcan1_0, S_b8_mkey_1, S_b8_mkey_0, S_b1_mterm_0, S_b1_copy_0, S_b0_mod_7, S_b0_mod_6, S_b0_mod_5, S_b0_mod_3, S_b0_mod_2, S_b0_mod_1, S_b0_mod_0, S_cb_mmade4_1h, S_bx_mcan1_1h, S_b0_mod_4h]
    rw [List.flatMap_cons, List.foldl_append, s2]
    have := ih (fun x hx => hu x (List.mem_cons_of_mem _ hx)) (fun x hx => hn x (List.mem_cons_of_mem _ hx)) (pre ++ [c]) ((s.1, (s.2.1, (s.2.2.1, (s.2.2.2.1, pre ++ [c])))) : St) rfl (by rw [List.append_assoc]; exact hd) (by rw [List.append_assoc]; exact hp)
    rw [this, List.append_assoc]
    rfl
/-- the records of a state say the state -/
theorem re_fold {n : Nat} {σ : St} (h : Gd n σ) (hn : n < 2 ^ 30) : (reL σ).foldl fs_lrn St.none = σ := by
  unfold reL
  rw [List.foldl_append, own_fold h]
  rw [cr_fold h.u (fun c hc => (h.ne hn c hc).1) [] _ rfl (by simpa [S_cb_mmade4_0, S_bx_mcan1_0, S_b8_mkey_1, S_b8_mkey_0, S_b1_mterm_0, S_b1_copy_0, S_b0_mod_7, S_b0_mod_6, S_b0_mod_5, S_b0_mod_3, S_b0_mod_2, S_b0_mod_1, S_b0_mod_0, S_cb_mmade4_1h, S_bx_mcan1_1h, S_b0_mod_4h] using h.d) (by simpa [S_cb_mmade4_0, S_bx_mcan1_0, S_b8_mkey_1, S_b8_mkey_0, S_b1_mterm_0, S_b1_copy_0, S_b0_mod_7, S_b0_mod_6, S_b0_mod_5, S_b0_mod_3, S_b0_mod_2, S_b0_mod_1, S_b0_mod_0, S_cb_mmade4_1h, S_bx_mcan1_1h, S_b0_mod_4h] using h.p)]
  rfl
/-- what a record may be -/
def rK (r : List Int32) : Prop := (isR4 r) ∧ (∀ v ∈ r, v &&& 255 = v) ∧ (r.getD 0 0 = 5 → w4a r 2 ≠ 0)
theorem rK.s {r : List Int32} (hh_ : rK r) : isR4 r := hh_.1
theorem rK.b {r : List Int32} (hh_ : rK r) : ∀ v ∈ r, v &&& 255 = v := hh_.2.1
theorem rK.i {r : List Int32} (hh_ : rK r) : r.getD 0 0 = 5 → w4a r 2 ≠ 0 := hh_.2.2
theorem rK_mk_ {r : List Int32} (f_0_ : isR4 r) (f_1_ : ∀ v ∈ r, v &&& 255 = v) (f_2_ : r.getD 0 0 = 5 → w4a r 2 ≠ 0) : rK r := And.intro f_0_ (And.intro f_1_ f_2_)
theorem rK_n {kk a b : Int32} (hk : kk = 2 ∨ kk = 3 ∨ kk = 4) : rK (rcn kk a b) := by
  refine (rK_mk_ ?_ (rcn_by hk) ?_)
  · rcases hk with rfl | rfl | rfl
    · rw [rcn_2]; exact ⟨2, b4 a, rfl, by rw [b4_len]; decide⟩
    · rw [rcn_3]; exact ⟨3, [a &&& 255], rfl, by rw [List.length_singleton]; decide⟩
    · exact ⟨4, b4 a ++ b4 b, rfl, by rw [List.length_append, b4_len, b4_len]; decide⟩
  · rcases hk with rfl | rfl | rfl
    · rw [rcn_2]; intro e; exact absurd (show (2 : Int32) = 5 from e) (by decide)
    · rw [rcn_3]; intro e; exact absurd (show (3 : Int32) = 5 from e) (by decide)
    · intro e; exact absurd (show (4 : Int32) = 5 from e) (by decide)
theorem rK_1 (a : Int32) : rK (rc 1 (b4 a)) := (rK_mk_ (⟨1, b4 a, rfl, by rw [b4_len]; decide⟩) (rc_by (by decide) (by rw [b4_len]; decide) (b4_by a)) (fun e => absurd (show (1 : Int32) = 5 from e) (by decide)))
theorem rK_row {c : Cr} (hu : c.2.2.2.1.length ≤ 8 ∧ ∀ v ∈ c.2.2.2.1, v &&& 255 = v) (h1 : 1 ≤ c.2.2.2.1.length) (hi : c.1 ≠ 0) : rK c.row := by
  have hl : (b4 c.1 ++ (b4 c.2.1 ++ (b4 c.2.2.1 ++ c.2.2.2.1))).length = 12 + c.2.2.2.1.length := by simp [S_cb_mmade4_0, S_bx_mcan1_0, S_b8_mkey_1, S_b8_mkey_0, S_b1_mterm_0, S_b1_copy_0, S_b0_mod_7, S_b0_mod_6, S_b0_mod_5, S_b0_mod_3, S_b0_mod_2, S_b0_mod_1, S_b0_mod_0, S_cb_mmade4_1h, S_bx_mcan1_1h, S_b0_mod_4h, b4_len]; omega
  refine (rK_mk_ (⟨5, b4 c.1 ++ (b4 c.2.1 ++ (b4 c.2.2.1 ++ c.2.2.2.1)), rfl, ?_⟩) ?_ (fun _ => ?_))
  · rw [hl, show uN 5 = 5 from rfl]
    simp [S_cb_mmade4_0, S_bx_mcan1_0, S_b8_mkey_1, S_b8_mkey_0, S_b1_mterm_0, S_b1_copy_0, S_b0_mod_7, S_b0_mod_6, S_b0_mod_5, S_b0_mod_3, S_b0_mod_2, S_b0_mod_1, S_b0_mod_0, S_cb_mmade4_1h, S_bx_mcan1_1h, S_b0_mod_4h, fs_kl]
    omega
  · unfold Cr.row
    exact rc_by (by decide) (by rw [hl]; omega) (app_by (b4_by _) (app_by (b4_by _) (app_by (b4_by _) hu.2)))
  · have : (c.row.drop 2).take 4 = b4 c.1 := by
      have e : c.row = [5, nI (12 + c.2.2.2.1.length)] ++ (b4 c.1 ++ (b4 c.2.1 ++ (b4 c.2.2.1 ++ (c.2.2.2.1 ++ ck2 (5 :: nI (12 + c.2.2.2.1.length) :: (b4 c.1 ++ (b4 c.2.1 ++ (b4 c.2.2.1 ++ c.2.2.2.1)))))))) := by
        unfold Cr.row rc
        rw [hl]
        simp [S_cb_mmade4_0, S_bx_mcan1_0, S_b8_mkey_1, S_b8_mkey_0, S_b1_mterm_0, S_b1_copy_0, S_b0_mod_7, S_b0_mod_6, S_b0_mod_5, S_b0_mod_3, S_b0_mod_2, S_b0_mod_1, S_b0_mod_0, S_cb_mmade4_1h, S_bx_mcan1_1h, S_b0_mod_4h]
      rw [e, drop_pre (n := 2) (a := [5, nI (12 + c.2.2.2.1.length)]) rfl]; exact take_pre (b4_len _).symm
    rw [w4a, this, w4_b4]
    exact hi
theorem rK_re {n : Nat} {σ : St} (h : Gd n σ) (hn : n < 2 ^ 30) : ∀ r ∈ reL σ, rK r := by
  intro r hr
  unfold reL at hr
  rcases List.mem_append.mp hr with hr | hr
  · unfold owL at hr
    rcases List.mem_cons.mp hr with rfl | hr
    · exact rK_1 _
    rcases List.mem_append.mp hr with hr | hr
    · split at hr
      · cases hr
      · simp only [List.mem_singleton] at hr
        rw [hr, ← rcn_2 _ 0]; exact rK_n (Or.inl rfl)
    rcases List.mem_append.mp hr with hr | hr
    · split at hr
      · cases hr
      · simp only [List.mem_singleton] at hr
        rw [hr, ← rcn_3 _ 0]; exact rK_n (Or.inr (Or.inl rfl))
    · split at hr
      · cases hr
      · simp only [List.mem_singleton] at hr
        rw [hr]
        have : rcCount 0 σ.2.2.2.1 = rcn 4 0 σ.2.2.2.1 := rfl
        rw [this]
        exact rK_n (Or.inr (Or.inr rfl))
  · obtain ⟨c, hc, hr⟩ := List.mem_flatMap.mp hr
    unfold crL at hr
    rcases List.mem_cons.mp hr with rfl | hr
    · exact rK_row (h.u c hc) (h.c c hc).2.2 (h.ne hn c hc).1
    · split at hr
      · cases hr
      · simp only [List.mem_singleton] at hr
        rw [hr]
        have : rcCount c.1 c.2.2.2.2 = rcn 4 c.1 c.2.2.2.2 := rfl
        rw [this]
        exact rK_n (Or.inr (Or.inr rfl))
/-- ids along a reading -/
theorem fold_id : ∀ (rs : List (List Int32)) (s : St), (∀ r ∈ rs, rK r) → (∀ c ∈ s.2.2.2.2, c.1 ≠ 0) → ∀ c ∈ (rs.foldl fs_lrn s).2.2.2.2, c.1 ≠ 0 := by
  intro rs
  induction rs with
  | nil => intro s _ h; exact h
  | cons r rs ih =>
    intro s hr h
    rw [List.foldl_cons]
    refine ih _ (fun r' h' => hr r' (List.mem_cons_of_mem _ h')) ?_
    have hk := hr r (List.mem_cons_self ..)
    intro c hc
    unfold fs_lrn at hc
    split at hc
    · exact h c hc
    split at hc
    · exact h c hc
    split at hc
    · exact h c hc
    split at hc
    · unfold fs_count at hc
      split at hc
      · exact h c hc
      · dsimp only at hc
        obtain ⟨x, hx, rfl⟩ := List.mem_map.mp hc
        have := h x hx
        split
        · exact this
        · exact this
    split at hc
    · next h5 =>
      have hi := hk.i h5
      unfold fs_cred at hc
      dsimp only at hc
      split at hc
      · rcases List.mem_or_eq_of_mem_set hc with hc | rfl
        · exact h c hc
        · exact hi
      · rcases List.mem_append.mp hc with hc | hc
        · exact h c hc
        · simp only [List.mem_singleton] at hc
          subst hc
          exact hi
    · exact h c hc
theorem fold_mono : ∀ (rs : List (List Int32)) (s : St), s.2.2.2.2.length ≤ (rs.foldl fs_lrn s).2.2.2.2.length := by
  intro rs
  induction rs with
  | nil => intro s; exact Nat.le_refl _
  | cons r rs ih => intro s; rw [List.foldl_cons]; exact Nat.le_trans (fs_lrn_mono s r) (ih _)
theorem okS_take {n : Nat} {rs : List (List Int32)} (hr : ∀ r ∈ rs, rK r) (hg : Gd n (rs.foldl fs_lrn St.none)) : ∀ k, k ≤ rs.length → okS ((rs.take k).foldl fs_lrn St.none) := by
  intro k hk
  refine ⟨?_, fold_id _ _ (fun r h => hr r (List.mem_of_mem_take h)) (by intro c hc; cases hc)⟩
  have h1 := hg.six
  have e : rs.foldl fs_lrn St.none = (rs.drop k).foldl fs_lrn ((rs.take k).foldl fs_lrn St.none) := by rw [← List.foldl_append, List.take_append_drop]
  have h2 := fold_mono (rs.drop k) ((rs.take k).foldl fs_lrn St.none)
  rw [← e] at h2
  omega
end
