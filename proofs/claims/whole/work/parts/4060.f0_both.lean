/- f0.both -/
section
set_option maxRecDepth 512
/-! Both together. -/
section
variable {M M' : mj_H} {H H' : Ho} {κs πs : List Nat} {row row' : List Int32} {n d : Nat} {B : Bs} {x x' : Fx} {y y' : Sy}
/-- the model has done something -/
theorem hz.mod (z : hz M H κs πs row) (hl : M'.length = M.length) (hs : ∀ c, ¬ (67 ≤ c ∧ c < 146) → M'[c]? = M[c]?) (hg : mj_gr M M') : hz M' H κs πs row := by
  have hbk := z.bk
  have hbp := z.bp
  have hzz := mj_zz_eq hg (hs 30 (by omega)) z.t.p30.pe
  have hsl := hg.sl
  rw [List.drop_eq_nil_of_le (by omega)] at hsl
  have f : fx (fun c => 67 ≤ c ∧ c < 146) M M' := (fx_mk_ hg (fun c _ hc => hs c hc) (by rw [hsl, hzz]; simp [S_cb_mmade4_0, S_bx_mcan1_0, S_b8_mkey_1, S_b8_mkey_0, S_b1_mterm_0, S_b1_copy_0, S_b0_mod_7, S_b0_mod_6, S_b0_mod_5, S_b0_mod_3, S_b0_mod_2, S_b0_mod_1, S_b0_mod_0, S_cb_mmade4_1h, S_bx_mcan1_1h, S_b0_mod_4h, mj_sl]) (by rw [hzz, hl]; exact Nat.le_refl _))
  refine (hz_mk_ (z.t.fr (by omega) (fun c _ hc => hs c (fun w => hc (by unfold hA; omega)))) ?_ (z.tpF f (fun c hc => by omega)) (z.msF f (fun c hc => by omega)) (z.itF f (fun c hc => by omega)) ?_ ?_ ?_ (z.hdF f (fun c hc => by omega)) (z.kyF f (fun κ hk c hc => by have := hbk κ hk; omega) (by omega)) (z.pyF f (fun π hk c hc => by have := hbp π hk; omega)) z.hl z.kl z.pl z.k3 z.p4 ?_ ?_ ?_ z.dk z.dp z.dx z.bk z.bp ?_ ?_)
  · rw [hs 25 (by omega)]; exact z.ob
  · rw [hs 44 (by omega)]; exact z.ka
  · rw [hs 45 (by omega)]; exact z.ha
  · rw [hs 66 (by omega)]; exact z.pa
  · intro i hi
    exact (z.str i hi).fr (hs _ (by omega)) (hs _ (by omega))
  · rw [hs 1 (by omega)]; exact z.s1
  · rw [hs 2 (by omega)]; exact z.s2
  · have := f.room; have := z.rs; omega
  · have := f.cells; have := z.rc; omega
theorem mm_len (B : Bs) (x : Fx) (y : Sy) : (mm B x y).length = 146 + B.1.2.length := by
  unfold mm
  rw [List.length_append, List.length_append, cells_len, B.2]
  omega
theorem mm_out (B : Bs) (x x' : Fx) (y y' : Sy) : ∀ c, ¬ (67 ≤ c ∧ c < 146) → (mm B x' y')[c]? = (mm B x y)[c]? := by
  intro c hc
  unfold mm
  rcases Nat.lt_or_ge c 67 with w | w
  · rw [List.getElem?_append_left (by rw [B.2]; exact w), List.getElem?_append_left (by rw [B.2]; exact w)]
  · have hl : ∀ (x : Fx) (y : Sy), (B.1.1 ++ (cells x y ++ B.1.2))[c]? = B.1.2[c - 67 - 79]? := by
      intro x y
      rw [List.getElem?_append_right (by rw [B.2]; exact w), B.2, List.getElem?_append_right (by rw [cells_len]; omega), cells_len]
    rw [hl, hl]
/-- the class has done something -/
theorem mm_of (h : hf (mm B x y) M') : ∃ B', M' = mm B' x y := by
  have hl := h.1
  rw [mm_len] at hl
  have l67 : (M'.take 67).length = 67 := by rw [List.length_take]; omega
  refine ⟨(⟨(M'.take 67, M'.drop 146), l67⟩ : Bs), ?_⟩
  have e : (M'.drop 67).take 79 = cells x y := by
    apply List.ext_getElem?
    intro i
    rw [List.getElem?_take, List.getElem?_drop]
    rcases Nat.lt_or_ge i 79 with w | w
    · rw [if_pos w, h.2 (67 + i) (Or.inr (by omega)) (by omega), mm_get B x y w]
    · rw [if_neg (by omega), List.getElem?_eq_none (by rw [cells_len]; exact w)]
  show M' = M'.take 67 ++ (cells x y ++ M'.drop 146)
  rw [← e, show M'.drop 146 = (M'.drop 67).drop 79 by rw [List.drop_drop], List.take_append_drop, List.take_append_drop]
/-- the two, after n calls -/
def LI (ys : List Int32) (n : Nat) (M : mj_H) (H : Ho) : Prop := (∃ κs πs row, hz M H κs πs row) ∧ (∃ B x y, M = mm B x y ∧ mz x y H) ∧ (HI n H) ∧ (M[0]? = some (1000, ys.map Value.int))
theorem LI.h {ys : List Int32} {n : Nat} {M : mj_H} {H : Ho} (hh_ : LI ys n M H) : ∃ κs πs row, hz M H κs πs row := hh_.1
theorem LI.m {ys : List Int32} {n : Nat} {M : mj_H} {H : Ho} (hh_ : LI ys n M H) : ∃ B x y, M = mm B x y ∧ mz x y H := hh_.2.1
theorem LI.i {ys : List Int32} {n : Nat} {M : mj_H} {H : Ho} (hh_ : LI ys n M H) : HI n H := hh_.2.2.1
theorem LI.a {ys : List Int32} {n : Nat} {M : mj_H} {H : Ho} (hh_ : LI ys n M H) : M[0]? = some (1000, ys.map Value.int) := hh_.2.2.2
theorem LI_mk_ {ys : List Int32} {n : Nat} {M : mj_H} {H : Ho} (f_0_ : ∃ κs πs row, hz M H κs πs row) (f_1_ : ∃ B x y, M = mm B x y ∧ mz x y H) (f_2_ : HI n H) (f_3_ : M[0]? = some (1000, ys.map Value.int)) : LI ys n M H := And.intro f_0_ (And.intro f_1_ (And.intro f_2_ f_3_))
/-- what a call of the class does -/
def cR (d J : Nat) (args : List Value) (M : mj_H) (r : Int32 × Ho) : Prop := ∃ M', mj_V d J args M = some (some (.int r.1), M') ∧ (∃ κs πs row, hz M' r.2 κs πs row) ∧ hf M M'
/-- a call of both -/
theorem LI.step {ys : List Int32} (L : LI ys n M H) {J J' : Nat} {as as' : List Value} {r : Int32 × Ho} (c : cR (d + 13) J as M r) (o : ∀ B x y, mz x y H → oR (d + 13) J' as' B x y r) (i : HI (n + 1) r.2) :
    ∃ M1 M2, mj_V (d + 13) J as M = some (some (.int r.1), M1) ∧ mj_V (d + 13) J' as' M1 = some (some (.int r.1), M2) ∧ M1[0]? = some (1000, ys.map Value.int) ∧ M1[67]?.map (·.1) = some 11 ∧ LI ys (n + 1) M2 r.2 := by
  obtain ⟨M1, p1, ⟨κs, πs, row, z1⟩, f1⟩ := c
  obtain ⟨B, x, y, rfl, zm⟩ := L.m
  obtain ⟨B1, rfl⟩ := mm_of f1
  obtain ⟨x', y', p2, zm'⟩ := o B1 x y zm
  have a1 : (mm B1 x y)[0]? = some (1000, ys.map Value.int) := (f1.2 0 (Or.inl rfl) (by omega)).trans L.a
  refine ⟨_, _, p1, p2, a1, ?_, (LI_mk_ (⟨κs, πs, row, z1.mod (by rw [mm_len, mm_len]) (mm_out B1 x x' y y') (mj_V_gr p2)⟩) (⟨B1, x', y', rfl, zm'⟩) i ?_)⟩
  · have := mm_get B1 x y (i := 0) (by decide)
    rw [Nat.add_zero] at this
    rw [this]
    rfl
  · rw [mm_out B1 x x' y y' 0 (by omega)]
    exact a1
end
end
