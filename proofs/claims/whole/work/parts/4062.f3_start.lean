/- f3.start -/
section
set_option maxRecDepth 512
/-! Both, at the start. -/
def H0 : Ho := (([], ((([], (0, 0)) : Tm), ([], (List.replicate 4 (([], ([], (0, (0, 0)))) : Hd), [])))) : Ho)
theorem P67 (xs : List Int32) : (mj_X xs ++ oblk 25).length = 67 := rfl
def B0 (xs : List Int32) : Bs := (⟨(mj_X xs ++ oblk 25, []), P67 xs⟩ : Bs)
def M0 (xs : List Int32) : mj_H := mm (B0 xs) x0 y0
section
variable {xs : List Int32}
theorem M0_at {c : Nat} (hc : c < 67) : (M0 xs)[c]? = (mj_X xs ++ oblk 25)[c]? := by
  unfold M0 mm
  exact List.getElem?_append_left (by show c < (mj_X xs ++ oblk 25).length; rw [P67]; exact hc)
theorem M0_len : (M0 xs).length = 146 := by unfold M0; rw [mm_len]; rfl
theorem z0_m (n : Nat) : z0 n = (1000, ([] ++ List.replicate n (0 : Int32)).map Value.int) := by unfold z0; rw [List.nil_append, List.map_replicate]
theorem z0_n (n : Nat) : z0 n = (1000, (List.replicate n (0 : Int32)).map Value.int) := by unfold z0; rw [List.map_replicate]
theorem bb0 {a b n : Nat} {M : mj_H} (ha : 25 ≤ a) (hb : 25 ≤ b) (hab : a ≠ b) (hn : n < 2 ^ 31) (h1 : M[a]? = some (1, [.ref b, .int 0])) (h2 : M[b]? = some (z0 n)) : bb M a b n [] := ⟨ha, hb, hab, hn, fun v hv => (by cases hv), h1, List.replicate n 0, by rw [h2, z0_m], by simp [S_cb_mmade4_0, S_bx_mcan1_0, S_b8_mkey_1, S_b8_mkey_0, S_b1_mterm_0, S_b1_copy_0, S_b0_mod_7, S_b0_mod_6, S_b0_mod_5, S_b0_mod_3, S_b0_mod_2, S_b0_mod_1, S_b0_mod_0, S_cb_mmade4_1h, S_bx_mcan1_1h, S_b0_mod_4h, -List.reduceReplicate]⟩
theorem tx0 : tx (hA [] []) (M0 xs) (([], (0, 0)) : Tm) [] := by
  have no : ∀ c, hA [] [] c → c < 30 ∨ (36 ≤ c ∧ c < 146) := by
    intro c hc
    rcases hc with hc | hc | ⟨κ, hk, -⟩ | ⟨κ, hk, -⟩
    · exact Or.inl hc
    · exact Or.inr hc
    · cases hk
    · cases hk
  have g30 : (M0 xs)[30]? = some (9, [.ref 31, .ref 32, .ref 33, .ref 34, .ref 35, .int 0, .int 0, .int 0, .int 0]) := (M0_at (by decide)).trans rfl
  have g31 : (M0 xs)[31]? = some (z0 2048) := (M0_at (by decide)).trans rfl
  have g32 : (M0 xs)[32]? = some (z0 256) := (M0_at (by decide)).trans rfl
  have g33 : (M0 xs)[33]? = some (z0 256) := (M0_at (by decide)).trans rfl
  have g34 : (M0 xs)[34]? = some (z0 1024) := (M0_at (by decide)).trans rfl
  have g35 : (M0 xs)[35]? = some (z0 410) := (M0_at (by decide)).trans rfl
  refine (tx_mk_ (⟨31, 32, 33, (tt_mk_ g30 (⟨List.replicate 410 0, by rw [g35, z0_m], by simp [S_cb_mmade4_0, S_bx_mcan1_0, S_b8_mkey_1, S_b8_mkey_0, S_b1_mterm_0, S_b1_copy_0, S_b0_mod_7, S_b0_mod_6, S_b0_mod_5, S_b0_mod_3, S_b0_mod_2, S_b0_mod_1, S_b0_mod_0, S_cb_mmade4_1h, S_bx_mcan1_1h, S_b0_mod_4h, -List.reduceReplicate]⟩) ((tb_mk_ (by decide) (fun r hr => (by cases hr)) (⟨List.replicate 2048 0, by rw [g31, z0_n]; rfl, by simp [S_cb_mmade4_0, S_bx_mcan1_0, S_b8_mkey_1, S_b8_mkey_0, S_b1_mterm_0, S_b1_copy_0, S_b0_mod_7, S_b0_mod_6, S_b0_mod_5, S_b0_mod_3, S_b0_mod_2, S_b0_mod_1, S_b0_mod_0, S_cb_mmade4_1h, S_bx_mcan1_1h, S_b0_mod_4h, -List.reduceReplicate], by simp [S_cb_mmade4_0, S_bx_mcan1_0, S_b8_mkey_1, S_b8_mkey_0, S_b1_mterm_0, S_b1_copy_0, S_b0_mod_7, S_b0_mod_6, S_b0_mod_5, S_b0_mod_3, S_b0_mod_2, S_b0_mod_1, S_b0_mod_0, S_cb_mmade4_1h, S_bx_mcan1_1h, S_b0_mod_4h, -List.reduceReplicate]⟩) (⟨List.replicate 256 0, by rw [g32, z0_n], by simp [S_cb_mmade4_0, S_bx_mcan1_0, S_b8_mkey_1, S_b8_mkey_0, S_b1_mterm_0, S_b1_copy_0, S_b0_mod_7, S_b0_mod_6, S_b0_mod_5, S_b0_mod_3, S_b0_mod_2, S_b0_mod_1, S_b0_mod_0, S_cb_mmade4_1h, S_bx_mcan1_1h, S_b0_mod_4h, -List.reduceReplicate], by simp [S_cb_mmade4_0, S_bx_mcan1_0, S_b8_mkey_1, S_b8_mkey_0, S_b1_mterm_0, S_b1_copy_0, S_b0_mod_7, S_b0_mod_6, S_b0_mod_5, S_b0_mod_3, S_b0_mod_2, S_b0_mod_1, S_b0_mod_0, S_cb_mmade4_1h, S_bx_mcan1_1h, S_b0_mod_4h, -List.reduceReplicate], by simp [S_cb_mmade4_0, S_bx_mcan1_0, S_b8_mkey_1, S_b8_mkey_0, S_b1_mterm_0, S_b1_copy_0, S_b0_mod_7, S_b0_mod_6, S_b0_mod_5, S_b0_mod_3, S_b0_mod_2, S_b0_mod_1, S_b0_mod_0, S_cb_mmade4_1h, S_bx_mcan1_1h, S_b0_mod_4h, -List.reduceReplicate], ?_⟩) (⟨List.replicate 256 0, by rw [g33, z0_n], by rw [g32]; simp [S_cb_mmade4_0, S_bx_mcan1_0, S_b8_mkey_1, S_b8_mkey_0, S_b1_mterm_0, S_b1_copy_0, S_b0_mod_7, S_b0_mod_6, S_b0_mod_5, S_b0_mod_3, S_b0_mod_2, S_b0_mod_1, S_b0_mod_0, S_cb_mmade4_1h, S_bx_mcan1_1h, S_b0_mod_4h, -List.reduceReplicate, z0], fun t h => (by cases h)⟩) (⟨List.replicate 1024 0, by rw [g34, z0_n], by simp [S_cb_mmade4_0, S_bx_mcan1_0, S_b8_mkey_1, S_b8_mkey_0, S_b1_mterm_0, S_b1_copy_0, S_b0_mod_7, S_b0_mod_6, S_b0_mod_5, S_b0_mod_3, S_b0_mod_2, S_b0_mod_1, S_b0_mod_0, S_cb_mmade4_1h, S_bx_mcan1_1h, S_b0_mod_4h, -List.reduceReplicate], ?_⟩))) (by unfold mj_E; decide)), ?_, ?_, ?_⟩) ?_ ?_ ?_ ?_)
  · intro t ht
    have : t = 0 := by simpa [S_cb_mmade4_0, S_bx_mcan1_0, S_b8_mkey_1, S_b8_mkey_0, S_b1_mterm_0, S_b1_copy_0, S_b0_mod_7, S_b0_mod_6, S_b0_mod_5, S_b0_mod_3, S_b0_mod_2, S_b0_mod_1, S_b0_mod_0, S_cb_mmade4_1h, S_bx_mcan1_1h, S_b0_mod_4h] using ht
    subst this
    rfl
  · intro b hb
    rw [List.getElem?_replicate, if_pos hb]
    rfl
  · intro h; have := no _ h; omega
  · intro h; have := no _ h; omega
  · intro h; have := no _ h; omega
  · intro h; have := no _ h; omega
  · intro h; have := no _ h; omega
  · intro h; have := no _ h; omega
  · intro c hc
    rw [M0_len]
    have := no _ hc
    omega
theorem sl_app (a b : mj_H) : mj_sl (a ++ b) = mj_sl a + mj_sl b := by simp [S_cb_mmade4_0, S_bx_mcan1_0, S_b8_mkey_1, S_b8_mkey_0, S_b1_mterm_0, S_b1_copy_0, S_b0_mod_7, S_b0_mod_6, S_b0_mod_5, S_b0_mod_3, S_b0_mod_2, S_b0_mod_1, S_b0_mod_0, S_cb_mmade4_1h, S_bx_mcan1_1h, S_b0_mod_4h, mj_sl]
theorem sl_cons (q : mj_C) (a : mj_H) : mj_sl (q :: a) = q.2.length + mj_sl a := by simp [S_cb_mmade4_0, S_bx_mcan1_0, S_b8_mkey_1, S_b8_mkey_0, S_b1_mterm_0, S_b1_copy_0, S_b0_mod_7, S_b0_mod_6, S_b0_mod_5, S_b0_mod_3, S_b0_mod_2, S_b0_mod_1, S_b0_mod_0, S_cb_mmade4_1h, S_bx_mcan1_1h, S_b0_mod_4h, mj_sl]
theorem sl_nil : mj_sl [] = 0 := rfl
theorem slo : mj_sl (oblk 25) ≤ 10000 := by
  unfold oblk tblk iblk hblk hs4 z0
  simp only [List.cons_append, List.nil_append, sl_app, sl_cons, sl_nil, List.length_replicate, List.length_cons, List.length_nil]
  exact Nat.le_of_ble_eq_true rfl
theorem slx (xs : List Int32) : mj_sl (mj_X xs) ≤ xs.length + 1000 := by
  unfold mj_X
  rw [sl_cons, sl_cons, sl_cons, List.length_map]
  exact Nat.add_le_add_left (Nat.le_of_ble_eq_true rfl) _
theorem sl_zr (t n : Nat) (v : Value) (a : mj_H) : mj_sl (zr t n v :: a) = n + mj_sl a := by rw [sl_cons]; unfold zr; rw [List.length_replicate]
theorem sl_mf (a : mj_H) : mj_sl ((11, mf 0 0 0 0 0 0 0 0 0 0 0 0) :: a) = 90 + mj_sl a := by rw [sl_cons]; rfl
theorem sl_mp (l : List Int32) (a : mj_H) : mj_sl ((1000, l.map Value.int) :: a) = l.length + mj_sl a := by rw [sl_cons, List.length_map]
set_option maxRecDepth 8000 in
theorem slc : mj_sl (cells x0 y0) ≤ 1900000 := by
  rw [cells0]
  simp only [sl_mf, sl_zr, sl_mp, sl_nil, List.length_cons, List.length_nil]
  exact Nat.le_of_ble_eq_true rfl
theorem hz0 (hl : xs.length ≤ 640) : hz (M0 xs) H0 [] [] [] := by
  have g : ∀ c q, c < 67 → (mj_X xs ++ oblk 25)[c]? = some q → (M0 xs)[c]? = some q := fun c q hc h => (M0_at hc).trans h
  have bbh : ∀ i, i < 4 → hdz (M0 xs) (46 + 5 * i) (([], ([], (0, (0, 0)))) : Hd) := by
    intro i hi
    rcases (show i = 0 ∨ i = 1 ∨ i = 2 ∨ i = 3 by omega) with rfl | rfl | rfl | rfl <;>
    exact (hdz_mk_ (g _ _ (by decide) rfl) (bb0 (by decide) (by decide) (by decide) (by decide) (g _ _ (by decide) rfl) (g _ _ (by decide) rfl)) (bb0 (by decide) (by decide) (by decide) (by decide) (g _ _ (by decide) rfl) (g _ _ (by decide) rfl)))
  have hsl : mj_sl (M0 xs) ≤ xs.length + 1000 + 10000 + 1900000 := by
    have s1 := slo
    have s2 := slx xs
    have s3 := slc
    unfold M0 mm
    show mj_sl ((mj_X xs ++ oblk 25) ++ (cells x0 y0 ++ [])) ≤ _
    rw [sl_app, sl_app, List.append_nil]
    omega
  refine (hz_mk_ tx0 (g _ _ (by decide) rfl) (bb0 (by decide) (by decide) (by decide) (by decide) (g _ _ (by decide) rfl) (g _ _ (by decide) rfl)) (⟨[], bb0 (by decide) (by decide) (by decide) (by decide) (g _ _ (by decide) rfl) (g _ _ (by decide) rfl)⟩) ?_ (g _ _ (by decide) rfl) (g _ _ (by decide) rfl) (g _ _ (by decide) rfl) ?_ (fun i k κ h => (by cases h)) (fun i k κ h => (by cases h)) rfl rfl rfl (by decide) (by decide) ?_ (g _ _ (by decide) rfl) (g _ _ (by decide) rfl) (fun i j a b h => (by cases h)) (fun i j a b h => (by cases h)) (fun a ha => (by cases ha)) (fun a ha => (by cases ha)) (fun a ha => (by cases ha)) ?_ ?_)
  · refine ⟨42, 0, 0, List.replicate 400 0, List.replicate 400 0, List.replicate 400 0, List.replicate 400 0, List.replicate 400 0, g _ _ (by decide) rfl, ?_, ?_, ?_, ?_, ?_, by simp [S_cb_mmade4_0, S_bx_mcan1_0, S_b8_mkey_1, S_b8_mkey_0, S_b1_mterm_0, S_b1_copy_0, S_b0_mod_7, S_b0_mod_6, S_b0_mod_5, S_b0_mod_3, S_b0_mod_2, S_b0_mod_1, S_b0_mod_0, S_cb_mmade4_1h, S_bx_mcan1_1h, S_b0_mod_4h, -List.reduceReplicate]⟩ <;> (rw [← z0_n]; exact g _ _ (by decide) rfl)
  · intro i h hi
    unfold H0 at hi
    rw [List.getElem?_replicate] at hi
    split at hi
    · next hlt =>
      cases hi
      exact bbh i hlt
    · cases hi
  · intro i hi
    obtain ⟨s1, s2⟩ := mj_X_at xs hi
    have e1 : (mj_X xs ++ oblk 25)[3 + 2 * i]? = (mj_X xs)[3 + 2 * i]? := List.getElem?_append_left (by rw [mj_X_len]; unfold mj_E; omega)
    have e2 : (mj_X xs ++ oblk 25)[4 + 2 * i]? = (mj_X xs)[4 + 2 * i]? := List.getElem?_append_left (by rw [mj_X_len]; unfold mj_E; omega)
    have hb : ∀ i, i < 11 → (mj_str.getD i []).length < 100 ∧ ∀ v ∈ mj_str.getD i [], v &&& 255 = v := by decide
    exact (sg_mk_ (g _ _ (by omega) (by rw [show 3 + 2 * i + 1 = 4 + 2 * i by omega]; exact e1.trans s1)) (g _ _ (by omega) (by rw [show 3 + 2 * i + 1 = 4 + 2 * i by omega]; exact e2.trans s2)) ((hb i hi).1) ((hb i hi).2))
  · simp only [List.length_nil]
    omega
  · rw [M0_len]
    omega
theorem spl_rep {n p m : Nat} (v : Int32) (h : p + m ≤ n) : spl (List.replicate n v) p (List.replicate m v) = List.replicate n v := by
  unfold spl
  rw [List.take_replicate, List.drop_replicate, List.length_replicate, List.replicate_append_replicate, List.replicate_append_replicate]
  congr 1
  omega
theorem mk0 : mk_ x0 [] := by
  refine (mk__mk_ ((xk_mk_ List.length_replicate List.length_replicate List.length_replicate List.length_replicate List.length_replicate List.length_replicate List.length_replicate List.length_replicate List.length_replicate List.length_replicate List.length_replicate List.length_replicate List.length_replicate List.length_replicate List.length_replicate List.length_replicate List.length_replicate List.length_replicate List.length_replicate List.length_replicate List.length_replicate List.length_replicate List.length_replicate List.length_replicate List.length_replicate List.length_replicate List.length_replicate List.length_replicate List.length_replicate List.length_replicate List.length_replicate List.length_replicate)) rfl (by decide) (fun j q h => (by cases h)) ?_)
  intro j _ hj
  refine ⟨((((((0, 0), 0), (0, 0)), (((0, 0), 0), (0, 0))), ((((0, 0), List.replicate 12 0), (List.replicate 12 0, List.replicate 12 0)), (((List.replicate 12 0, List.replicate 12 0), List.replicate 96 0), (List.replicate 12 0, List.replicate 400 0)))) : Mk), List.replicate 512 0, ?_, (wm_mk_ (by simp [S_cb_mmade4_0, S_bx_mcan1_0, S_b8_mkey_1, S_b8_mkey_0, S_b1_mterm_0, S_b1_copy_0, S_b0_mod_7, S_b0_mod_6, S_b0_mod_5, S_b0_mod_3, S_b0_mod_2, S_b0_mod_1, S_b0_mod_0, S_cb_mmade4_1h, S_bx_mcan1_1h, S_b0_mod_4h, -List.reduceReplicate]) (by simp [S_cb_mmade4_0, S_bx_mcan1_0, S_b8_mkey_1, S_b8_mkey_0, S_b1_mterm_0, S_b1_copy_0, S_b0_mod_7, S_b0_mod_6, S_b0_mod_5, S_b0_mod_3, S_b0_mod_2, S_b0_mod_1, S_b0_mod_0, S_cb_mmade4_1h, S_bx_mcan1_1h, S_b0_mod_4h, -List.reduceReplicate]) (by simp [S_cb_mmade4_0, S_bx_mcan1_0, S_b8_mkey_1, S_b8_mkey_0, S_b1_mterm_0, S_b1_copy_0, S_b0_mod_7, S_b0_mod_6, S_b0_mod_5, S_b0_mod_3, S_b0_mod_2, S_b0_mod_1, S_b0_mod_0, S_cb_mmade4_1h, S_bx_mcan1_1h, S_b0_mod_4h, -List.reduceReplicate]) (by simp [S_cb_mmade4_0, S_bx_mcan1_0, S_b8_mkey_1, S_b8_mkey_0, S_b1_mterm_0, S_b1_copy_0, S_b0_mod_7, S_b0_mod_6, S_b0_mod_5, S_b0_mod_3, S_b0_mod_2, S_b0_mod_1, S_b0_mod_0, S_cb_mmade4_1h, S_bx_mcan1_1h, S_b0_mod_4h, -List.reduceReplicate]) (by simp [S_cb_mmade4_0, S_bx_mcan1_0, S_b8_mkey_1, S_b8_mkey_0, S_b1_mterm_0, S_b1_copy_0, S_b0_mod_7, S_b0_mod_6, S_b0_mod_5, S_b0_mod_3, S_b0_mod_2, S_b0_mod_1, S_b0_mod_0, S_cb_mmade4_1h, S_bx_mcan1_1h, S_b0_mod_4h, -List.reduceReplicate]) (by simp [S_cb_mmade4_0, S_bx_mcan1_0, S_b8_mkey_1, S_b8_mkey_0, S_b1_mterm_0, S_b1_copy_0, S_b0_mod_7, S_b0_mod_6, S_b0_mod_5, S_b0_mod_3, S_b0_mod_2, S_b0_mod_1, S_b0_mod_0, S_cb_mmade4_1h, S_bx_mcan1_1h, S_b0_mod_4h, -List.reduceReplicate]) (by simp [S_cb_mmade4_0, S_bx_mcan1_0, S_b8_mkey_1, S_b8_mkey_0, S_b1_mterm_0, S_b1_copy_0, S_b0_mod_7, S_b0_mod_6, S_b0_mod_5, S_b0_mod_3, S_b0_mod_2, S_b0_mod_1, S_b0_mod_0, S_cb_mmade4_1h, S_bx_mcan1_1h, S_b0_mod_4h, -List.reduceReplicate]) (by simp [S_cb_mmade4_0, S_bx_mcan1_0, S_b8_mkey_1, S_b8_mkey_0, S_b1_mterm_0, S_b1_copy_0, S_b0_mod_7, S_b0_mod_6, S_b0_mod_5, S_b0_mod_3, S_b0_mod_2, S_b0_mod_1, S_b0_mod_0, S_cb_mmade4_1h, S_bx_mcan1_1h, S_b0_mod_4h, -List.reduceReplicate])), by simp [S_cb_mmade4_0, S_bx_mcan1_0, S_b8_mkey_1, S_b8_mkey_0, S_b1_mterm_0, S_b1_copy_0, S_b0_mod_7, S_b0_mod_6, S_b0_mod_5, S_b0_mod_3, S_b0_mod_2, S_b0_mod_1, S_b0_mod_0, S_cb_mmade4_1h, S_bx_mcan1_1h, S_b0_mod_4h, -List.reduceReplicate], rfl, rfl, rfl⟩
  have s3 : (List.replicate 3 (0 : Int32)).set j 0 = List.replicate 3 0 := by rcases (show j = 0 ∨ j = 1 ∨ j = 2 by omega) with rfl | rfl | rfl <;> rfl
  unfold Fx.wk x0 sZ
  simp only [on1_f, nI_0, List.length_nil, s3]
  rw [spl_rep (n := 1536) (m := 512) 0 (by omega), spl_rep (n := 288) (m := 96) 0 (by omega), spl_rep (n := 1200) (m := 400) 0 (by omega), spl_rep (n := 36) (m := 12) 0 (by omega)]
theorem mz0 : mz x0 y0 H0 := by
  have r4 : ∀ j, j < 4 → (List.replicate 4 (0 : Int32))[j]? = some 0 := fun j hj => by rw [List.getElem?_replicate, if_pos hj]
  refine (mz_mk_ (⟨⟨List.replicate 400 0, rfl, List.length_replicate⟩, rfl⟩) List.length_replicate mk0 ((mh__mk_ ((xh_mk_ List.length_replicate List.length_replicate List.length_replicate List.length_replicate List.length_replicate List.length_replicate List.length_replicate List.length_replicate List.length_replicate List.length_replicate List.length_replicate List.length_replicate List.length_replicate List.length_replicate List.length_replicate List.length_replicate List.length_replicate List.length_replicate List.length_replicate List.length_replicate List.length_replicate List.length_replicate List.length_replicate List.length_replicate List.length_replicate List.length_replicate)) rfl ?_ rfl (by decide) (fun j q h => (by cases h)) ?_)) ?_)
  · intro j q hq
    unfold H0 at hq
    rw [List.getElem?_replicate] at hq
    split at hq
    · next hj =>
      cases hq
      exact (hM_mk_ (r4 j hj) (r4 j hj) (r4 j hj) (r4 j hj) (by decide) (fun q hq => (by cases hq)) (r4 j hj) (by decide) (fun q hq => (by cases hq)))
    · cases hq
  · intro j _ hj
    exact ⟨r4 j hj, r4 j hj, r4 j hj, r4 j hj⟩
  · refine ⟨[], [], (yz_mk_ ((yT_mk_ (by decide) (fun r hr => (by cases hr)) (⟨List.replicate 1700000 0, rfl⟩) ?_ rfl rfl rfl rfl ?_ ?_ ?_ (fun t h => (by cases h)) ?_ ?_)) (⟨List.replicate 512 0, rfl, ?_, rfl⟩) (⟨List.replicate 640 0, rfl, ?_, rfl⟩) ?_)⟩
    · unfold y0; exact List.length_replicate
    · unfold y0; exact List.length_replicate
    · intro t ht
      have : t = 0 := by simpa [S_cb_mmade4_0, S_bx_mcan1_0, S_b8_mkey_1, S_b8_mkey_0, S_b1_mterm_0, S_b1_copy_0, S_b0_mod_7, S_b0_mod_6, S_b0_mod_5, S_b0_mod_3, S_b0_mod_2, S_b0_mod_1, S_b0_mod_0, S_cb_mmade4_1h, S_bx_mcan1_1h, S_b0_mod_4h, H0] using ht
      subst this
      unfold y0
      rw [List.getElem?_replicate, if_pos (by decide)]
      rfl
    · unfold y0; exact List.length_replicate
    · unfold y0; exact List.length_replicate
    · intro b hb
      unfold y0
      rw [List.getElem?_replicate, if_pos hb]
      rfl
    · unfold y0; exact List.length_replicate
    · unfold y0; exact List.length_replicate
    · refine ⟨⟨?_, ?_, ?_, ?_⟩, ⟨?_, ?_, ?_, ?_⟩, rfl, rfl, rfl, rfl⟩ <;> (unfold y0; exact List.length_replicate)
theorem HI0 : HI 0 H0 := (HI_mk_ ((TI_mk_ (Nat.le_refl _) (Nat.le_refl _) (Nat.le_refl _) List.nodup_nil (fun r hr => (by cases hr)))) (fun k hk => (by cases hk)) (fun p hp => (by cases hp)))
theorem LI0 (hl : xs.length ≤ 640) : LI xs 0 (M0 xs) H0 := (LI_mk_ (⟨[], [], [], hz0 hl⟩) (⟨_, _, _, rfl, mz0⟩) HI0 ((M0_at (by decide)).trans rfl))
end
end
