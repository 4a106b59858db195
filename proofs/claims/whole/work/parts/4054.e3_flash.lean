/- e3.flash -/
section
set_option maxRecDepth 512
/-! Pure: the flash, whatever is torn. -/
def two (u : Nat) (x o : List Int32) : List Int32 := if u = 0 then x ++ o else o ++ x
theorem two_len (u : Nat) (x o : List Int32) : (two u x o).length = x.length + o.length := by
  unfold two
  split
  · rw [List.length_append]
  · rw [List.length_append, Nat.add_comm]
theorem two_sw {u : Nat} (hu : u ≤ 1) (x o : List Int32) : two (1 - u) o x = two u x o := by
  rcases (show u = 0 ∨ u = 1 by omega) with rfl | rfl <;> simp [S_cb_mmade4_0, S_bx_mcan1_0, S_b8_mkey_1, S_b8_mkey_0, S_b1_mterm_0, S_b1_copy_0, S_b0_mod_7, S_b0_mod_6, S_b0_mod_5, S_b0_mod_3, S_b0_mod_2, S_b0_mod_1, S_b0_mod_0, S_cb_mmade4_1h, S_bx_mcan1_1h, S_b0_mod_4h, two]
theorem two_ar {u : Nat} {x o : List Int32} (hu : u ≤ 1) (hx : x.length = 256) (ho : o.length = 256) : fs_ar (two u x o) u = x := by
  rcases (show u = 0 ∨ u = 1 by omega) with rfl | rfl
  · unfold two fs_ar
    rw [if_pos rfl, Nat.zero_mul, List.drop_zero]
    exact take_pre hx.symm
  · unfold two fs_ar
    rw [if_neg (by decide), Nat.one_mul, drop_pre ho.symm, List.take_of_length_le (by omega)]
theorem two_over {u p : Nat} {x o bs : List Int32} (hu : u ≤ 1) (hx : x.length = 256) (ho : o.length = 256) (hp : p + bs.length ≤ 256) : fs_over (two u x o) (u * 256 + p) bs = two u (fs_over x p bs) o := by
  rcases (show u = 0 ∨ u = 1 by omega) with rfl | rfl
  · unfold two fs_over
    rw [if_pos rfl, if_pos rfl, Nat.zero_mul, Nat.zero_add, List.take_append_of_le_length (by omega), List.drop_append_of_le_length (by omega)]
    simp [S_cb_mmade4_0, S_bx_mcan1_0, S_b8_mkey_1, S_b8_mkey_0, S_b1_mterm_0, S_b1_copy_0, S_b0_mod_7, S_b0_mod_6, S_b0_mod_5, S_b0_mod_3, S_b0_mod_2, S_b0_mod_1, S_b0_mod_0, S_cb_mmade4_1h, S_bx_mcan1_1h, S_b0_mod_4h]
  · unfold two fs_over
    rw [if_neg (by decide), if_neg (by decide), Nat.one_mul, List.take_append, List.drop_append, List.take_of_length_le (by omega), List.drop_eq_nil_of_le (as := o) (by omega), ho, show 256 + p - 256 = p by omega, show 256 + p + bs.length - 256 = p + bs.length by omega]
    simp [S_cb_mmade4_0, S_bx_mcan1_0, S_b8_mkey_1, S_b8_mkey_0, S_b1_mterm_0, S_b1_copy_0, S_b0_mod_7, S_b0_mod_6, S_b0_mod_5, S_b0_mod_3, S_b0_mod_2, S_b0_mod_1, S_b0_mod_0, S_cb_mmade4_1h, S_bx_mcan1_1h, S_b0_mod_4h]
theorem two_over0 {u : Nat} {x o bs : List Int32} (hu : u ≤ 1) (hx : x.length = 256) (ho : o.length = 256) (hp : bs.length ≤ 256) : fs_over (two u x o) (u * 256) bs = two u (fs_over x 0 bs) o := by
  have := two_over (p := 0) hu hx ho (by omega : 0 + bs.length ≤ 256)
  rwa [Nat.add_zero] at this
theorem over_nil (l : List Int32) (p : Nat) : fs_over l p [] = l := by
  unfold fs_over
  rw [List.length_nil, Nat.add_zero, List.nil_append, List.take_append_drop]
theorem over_over {l a b : List Int32} {p : Nat} (h : p + a.length + b.length ≤ l.length) : fs_over (fs_over l p a) (p + a.length) b = fs_over l p (a ++ b) := by
  have h1 : (fs_over l p a).take (p + a.length) = l.take p ++ a := by
    unfold fs_over
    rw [← List.append_assoc]
    exact take_pre (by simp [S_cb_mmade4_0, S_bx_mcan1_0, S_b8_mkey_1, S_b8_mkey_0, S_b1_mterm_0, S_b1_copy_0, S_b0_mod_7, S_b0_mod_6, S_b0_mod_5, S_b0_mod_3, S_b0_mod_2, S_b0_mod_1, S_b0_mod_0, S_cb_mmade4_1h, S_bx_mcan1_1h, S_b0_mod_4h]; omega)
  have h2 : (fs_over l p a).drop (p + a.length + b.length) = l.drop (p + (a ++ b).length) := by
    unfold fs_over
    rw [← List.drop_drop, ← List.append_assoc, drop_pre (by simp [S_cb_mmade4_0, S_bx_mcan1_0, S_b8_mkey_1, S_b8_mkey_0, S_b1_mterm_0, S_b1_copy_0, S_b0_mod_7, S_b0_mod_6, S_b0_mod_5, S_b0_mod_3, S_b0_mod_2, S_b0_mod_1, S_b0_mod_0, S_cb_mmade4_1h, S_bx_mcan1_1h, S_b0_mod_4h]; omega), List.drop_drop, List.length_append, Nat.add_assoc]
  show (fs_over l p a).take (p + a.length) ++ (b ++ (fs_over l p a).drop (p + a.length + b.length)) = _
  rw [h1, h2]
  unfold fs_over
  simp [S_cb_mmade4_0, S_bx_mcan1_0, S_b8_mkey_1, S_b8_mkey_0, S_b1_mterm_0, S_b1_copy_0, S_b0_mod_7, S_b0_mod_6, S_b0_mod_5, S_b0_mod_3, S_b0_mod_2, S_b0_mod_1, S_b0_mod_0, S_cb_mmade4_1h, S_bx_mcan1_1h, S_b0_mod_4h]
theorem fill_over : ∀ (n p : Nat) (l : List Int32), p + n ≤ l.length → fs_fill n p l = fs_over l p (List.replicate n 255) := by
  intro n
  induction n with
  | zero => intro p l _; rw [List.replicate_zero, over_nil]; rfl
  | succ n ih =>
    intro p l h
    unfold fs_fill
    rw [ih (p + 1) (l.set p 255) (by rw [List.length_set]; omega), fs_over_cons (by rw [List.length_replicate]; omega)]
    rfl
theorem era_over : ∀ (k p : Nat) (s : Fl), p + 64 * k ≤ s.1.length → ∃ j, j ≤ k ∧ (fs_era k p s).1.1 = fs_over s.1 p (List.replicate (64 * j) 255) ∧ ((fs_era k p s).2 = true → j = k) := by
  intro k
  induction k with
  | zero => intro p s _; exact ⟨0, Nat.le_refl _, by rw [Nat.mul_zero, List.replicate_zero, over_nil]; rfl, fun _ => rfl⟩
  | succ k ih =>
    intro p s h
    unfold fs_era
    split
    · exact ⟨0, Nat.zero_le _, by rw [Nat.mul_zero, List.replicate_zero, over_nil]; rfl, fun w => by cases w⟩
    · have e1 : fs_fill 64 p s.1 = fs_over s.1 p (List.replicate 64 255) := fill_over 64 p s.1 (by omega)
      generalize fs_fill 64 p s.1 = w at *
      have hl : w.length = s.1.length := by rw [e1, fs_over_len (by rw [List.length_replicate]; omega)]
      obtain ⟨j, h1, h2, h3⟩ := ih (p + 64) ((w, (s.act.2.1, (s.act.2.2.1, (s.act.2.2.2.1, (s.act.2.2.2.2.1, (s.act.2.2.2.2.2.1, (s.act.2.2.2.2.2.2.1, s.act.2.2.2.2.2.2.2))))))) : Fl) (by show _ ≤ w.length; rw [hl]; omega)
      refine ⟨j + 1, by omega, ?_, fun w => by rw [h3 w]⟩
      rw [h2]
      show fs_over w (p + 64) _ = _
      have hr : p + 64 = p + (List.replicate 64 (255 : Int32)).length := by rw [List.length_replicate]
      rw [e1, hr, over_over (by rw [List.length_replicate, List.length_replicate]; omega), List.replicate_append_replicate]
      congr 2
      omega
/-- what an area's header says -/
def gga (x : List Int32) : Option Nat := if (x.drop 2).take 2 = ck2 (x.take 2) then some (bn (x.take 2)) else none
theorem gg_ar (fl : List Int32) (a : Nat) : fs_gg fl a = gga (fs_ar fl a) := by
  unfold fs_gg gga
  rw [ar_slice (p := 2) (n := 2) (by omega)]
  have := ar_slice (fl := fl) (a := a) (p := 0) (n := 2) (by omega)
  rw [List.drop_zero, Nat.add_zero] at this
  rw [this]
theorem hdr_4 {g : Nat} (h : g < 65536) : ∃ c d, hdr g = [nI (g / 256), nI (g % 256), c, d] ∧ ck2 [nI (g / 256), nI (g % 256)] = [c, d] := by
  have hl := ck2_len [nI (g / 256), nI (g % 256)]
  unfold hdr
  rw [low2_nat h]
  match hz : ck2 [nI (g / 256), nI (g % 256)], hl with
  | [c, d], _ => exact ⟨c, d, by simp [S_cb_mmade4_0, S_bx_mcan1_0, S_b8_mkey_1, S_b8_mkey_0, S_b1_mterm_0, S_b1_copy_0, S_b0_mod_7, S_b0_mod_6, S_b0_mod_5, S_b0_mod_3, S_b0_mod_2, S_b0_mod_1, S_b0_mod_0, S_cb_mmade4_1h, S_bx_mcan1_1h, S_b0_mod_4h], rfl⟩
theorem hdr_len (g : Nat) : (hdr g).length = 4 := by
  unfold hdr
  rw [List.length_append, bt_low_len, ck2_len]
theorem gga_hdr {g : Nat} (h : g < 65536) (z : List Int32) : gga (hdr g ++ z) = some g := by
  obtain ⟨c, d, e1, e2⟩ := hdr_4 h
  unfold gga
  rw [e1]
  simp only [List.cons_append, List.nil_append, List.drop_succ_cons, List.drop_zero, List.take_succ_cons, List.take_zero]
  rw [if_pos e2.symm, bn2 (by omega) (by omega)]
  congr 1
  omega
theorem gga_255 (a b : Int32) (z : List Int32) : gga (a :: b :: 255 :: 255 :: z) = none := by
  unfold gga
  simp only [List.drop_succ_cons, List.drop_zero, List.take_succ_cons, List.take_zero]
  rw [if_neg (fun w => ck2_ne _ w.symm)]
theorem gga_torn {g k : Nat} (h : g < 65536) (hk : k ≤ 4) (z : List Int32) : gga ((hdr g).take k ++ (List.replicate (4 - k) 255 ++ z)) = none ∨ (hdr g).take k ++ (List.replicate (4 - k) 255 ++ z) = hdr g ++ z := by
  obtain ⟨c, d, e1, e2⟩ := hdr_4 h
  rw [e1]
  rcases (show k = 0 ∨ k = 1 ∨ k = 2 ∨ k = 3 ∨ k = 4 by omega) with rfl | rfl | rfl | rfl | rfl
  · exact Or.inl (gga_255 255 255 z)
  · exact Or.inl (gga_255 _ 255 z)
  · exact Or.inl (gga_255 _ _ z)
  · by_cases hd : d = 255
    · subst hd
      exact Or.inr rfl
    · left
      unfold gga
      rw [if_neg]
      intro w
      have w2 : [c, 255] = ck2 [nI (g / 256), nI (g % 256)] := w
      rw [e2] at w2
      simp only [List.cons.injEq, and_true, true_and] at w2
      exact hd w2.symm
  · exact Or.inr rfl
/-- a flash that can be read -/
def FI (n : Nat) (fl : List Int32) (u g : Nat) (rs : List (List Int32)) (rest o : List Int32) : Prop := (u ≤ 1) ∧ (fl = two u (hdr g ++ (rs.flatten ++ rest)) o) ∧ (4 + (rs.flatten.length + rest.length) = 256) ∧ (o.length = 256) ∧ (fs_rz (hdr g ++ (rs.flatten ++ rest)) (4 + rs.flatten.length) = 0) ∧ (∀ k, gga o = some k → k < g) ∧ (∀ r ∈ rs, rK r) ∧ (Gd n (rs.foldl fs_lrn St.none)) ∧ (g < 65536)
theorem FI.ul {n : Nat} {fl : List Int32} {u g : Nat} {rs : List (List Int32)} {rest o : List Int32} (hh_ : FI n fl u g rs rest o) : u ≤ 1 := hh_.1
theorem FI.e {n : Nat} {fl : List Int32} {u g : Nat} {rs : List (List Int32)} {rest o : List Int32} (hh_ : FI n fl u g rs rest o) : fl = two u (hdr g ++ (rs.flatten ++ rest)) o := hh_.2.1
theorem FI.lx {n : Nat} {fl : List Int32} {u g : Nat} {rs : List (List Int32)} {rest o : List Int32} (hh_ : FI n fl u g rs rest o) : 4 + (rs.flatten.length + rest.length) = 256 := hh_.2.2.1
theorem FI.lo {n : Nat} {fl : List Int32} {u g : Nat} {rs : List (List Int32)} {rest o : List Int32} (hh_ : FI n fl u g rs rest o) : o.length = 256 := hh_.2.2.2.1
theorem FI.z {n : Nat} {fl : List Int32} {u g : Nat} {rs : List (List Int32)} {rest o : List Int32} (hh_ : FI n fl u g rs rest o) : fs_rz (hdr g ++ (rs.flatten ++ rest)) (4 + rs.flatten.length) = 0 := hh_.2.2.2.2.1
theorem FI.h {n : Nat} {fl : List Int32} {u g : Nat} {rs : List (List Int32)} {rest o : List Int32} (hh_ : FI n fl u g rs rest o) : ∀ k, gga o = some k → k < g := hh_.2.2.2.2.2.1
theorem FI.k {n : Nat} {fl : List Int32} {u g : Nat} {rs : List (List Int32)} {rest o : List Int32} (hh_ : FI n fl u g rs rest o) : ∀ r ∈ rs, rK r := hh_.2.2.2.2.2.2.1
theorem FI.gd {n : Nat} {fl : List Int32} {u g : Nat} {rs : List (List Int32)} {rest o : List Int32} (hh_ : FI n fl u g rs rest o) : Gd n (rs.foldl fs_lrn St.none) := hh_.2.2.2.2.2.2.2.1
theorem FI.b {n : Nat} {fl : List Int32} {u g : Nat} {rs : List (List Int32)} {rest o : List Int32} (hh_ : FI n fl u g rs rest o) : g < 65536 := hh_.2.2.2.2.2.2.2.2
theorem FI_mk_ {n : Nat} {fl : List Int32} {u g : Nat} {rs : List (List Int32)} {rest o : List Int32} (f_0_ : u ≤ 1) (f_1_ : fl = two u (hdr g ++ (rs.flatten ++ rest)) o) (f_2_ : 4 + (rs.flatten.length + rest.length) = 256) (f_3_ : o.length = 256) (f_4_ : fs_rz (hdr g ++ (rs.flatten ++ rest)) (4 + rs.flatten.length) = 0) (f_5_ : ∀ k, gga o = some k → k < g) (f_6_ : ∀ r ∈ rs, rK r) (f_7_ : Gd n (rs.foldl fs_lrn St.none)) (f_8_ : g < 65536) : FI n fl u g rs rest o := And.intro f_0_ (And.intro f_1_ (And.intro f_2_ (And.intro f_3_ (And.intro f_4_ (And.intro f_5_ (And.intro f_6_ (And.intro f_7_ f_8_)))))))
section
variable {n m u g : Nat} {fl : List Int32} {rs : List (List Int32)} {rest o : List Int32} {s : Fl} {r : List Int32} {G : Nat}
theorem FI.mono (h : FI n fl u g rs rest o) (hm : n ≤ m) : FI m fl u g rs rest o := (FI_mk_ h.ul h.e h.lx h.lo h.z h.h h.k (h.gd.mono hm) h.b)
theorem FI.xl (h : FI n fl u g rs rest o) : (hdr g ++ (rs.flatten ++ rest)).length = 256 := by rw [List.length_append, List.length_append, hdr_len]; exact h.lx
theorem FI.len (h : FI n fl u g rs rest o) : fl.length = 512 := by rw [h.e, two_len, h.xl, h.lo]
theorem FI.ar (h : FI n fl u g rs rest o) : fs_ar fl u = hdr g ++ (rs.flatten ++ rest) := by rw [h.e]; exact two_ar h.ul h.xl h.lo
theorem FI.gu (h : FI n fl u g rs rest o) : fs_gg fl u = some g := by rw [gg_ar, h.ar, gga_hdr h.b]
theorem FI.go (h : FI n fl u g rs rest o) : fs_gg fl (1 - u) = gga o := by
  have := h.ul
  rw [gg_ar, h.e, ← two_sw h.ul, two_ar (by omega) h.lo h.xl]
theorem FI.us (h : FI n fl u g rs rest o) : fs_use fl = (u, g) := by
  have h1 := h.gu
  have h2 := h.go
  have h3 := h.h
  unfold fs_use
  rcases (show u = 0 ∨ u = 1 by have := h.ul; omega) with rfl | rfl
  · rw [Nat.sub_zero] at h2
    rw [h1, h2]
    cases ho : gga o with
    | none => rfl
    | some k =>
      have := h3 k ho
      show (if g < k then _ else _) = _
      rw [if_neg (by omega)]
  · rw [Nat.sub_self] at h2
    rw [h1, h2]
    cases ho : gga o with
    | none => rfl
    | some k =>
      have := h3 k ho
      show (if k < g then _ else _) = _
      rw [if_pos (by omega)]
theorem FI.up (h : FI n s.1 u g rs rest o) : fs_up s = ((s.1, (true, (s.2.2.1, (s.2.2.2.1, (u, (g, (4 + rs.flatten.length, rs.foldl fs_lrn St.none))))))) : Fl) := by
  have hl := h.lx
  have h5 := rs_len (fun r hr => (h.k r hr).s)
  have := pz_all (rest := rest) rs (hdr g) St.none 256 (fun r hr => (h.k r hr).s) (by omega) (by rw [hdr_len]; omega) (by rw [hdr_len]; exact h.z)
  rw [hdr_len] at this
  unfold fs_up
  rw [h.us]
  dsimp only
  rw [h.ar, this]
theorem FI.pz (h : FI n fl u g rs rest o) : pzP okS (fs_ar fl (fs_use fl).1) 256 4 St.none := by
  have hl := h.lx
  have h5 := rs_len (fun r hr => (h.k r hr).s)
  have := pz_P (P := okS) (rest := rest) rs (hdr g) St.none 256 (fun r hr => (h.k r hr).s) (by omega) (by rw [hdr_len]; omega) (by rw [hdr_len]; exact h.z) (okS_take h.k h.gd)
  rw [hdr_len] at this
  rw [h.us, h.ar]
  exact this
theorem rep_255 {pre : List Int32} {k : Nat} (h : pre.length + k = 256) : fs_rz (pre ++ List.replicate k 255) pre.length = 0 := by
  refine rz_255 (fun hp => ?_)
  rw [List.getD_eq_getElem?_getD, List.getElem?_append_right (by omega), Nat.sub_self, List.getElem?_replicate, if_pos (by omega)]
  rfl
/-- an area that has been written anew -/
theorem FI.new (hu : u ≤ 1) (hb : g < 65536) (hlo : o.length = 256) (hh : ∀ k, gga o = some k → k < g) (hk : ∀ r ∈ rs, rK r) (hg : Gd n (rs.foldl fs_lrn St.none)) (hl : rs.flatten.length ≤ 252) : FI n (two u (hdr g ++ (rs.flatten ++ List.replicate (252 - rs.flatten.length) 255)) o) u g rs (List.replicate (252 - rs.flatten.length) 255) o := by
  refine (FI_mk_ hu rfl (by rw [List.length_replicate]; omega) hlo ?_ hh hk hg hb)
  have := rep_255 (pre := hdr g ++ rs.flatten) (k := 252 - rs.flatten.length) (by rw [List.length_append, hdr_len]; omega)
  rw [List.length_append, hdr_len, List.append_assoc] at this
  exact this
theorem FI.oth (h : FI n fl u g rs rest o) {o' fl' : List Int32} (he : fl' = two u (hdr g ++ (rs.flatten ++ rest)) o') (hl : o'.length = 256) (hh : ∀ k, gga o' = some k → k < g) : FI n fl' u g rs rest o' := (FI_mk_ h.ul he h.lx hl h.z hh h.k h.gd h.b)
theorem FI.move (h : FI n s.1 u g rs rest o) (ha : s.2.2.2.2.1 = u) (hgn : s.2.2.2.2.2.1 = g) (hm : Gd n s.2.2.2.2.2.2.2) (hn : n < 2 ^ 30) (hG : g + 1 < 65536) :
    ((fs_move s).2 = false ∧ ∃ o', FI n (fs_move s).1.1 u g rs rest o') ∨ ∃ o', FI n (fs_move s).1.1 (1 - u) (g + 1) (reL s.2.2.2.2.2.2.2) (List.replicate (252 - (reL s.2.2.2.2.2.2.2).flatten.length) 255) o' := by
  have hu := h.ul
  have hx := h.xl
  have hlo := h.lo
  have hlen := h.len
  have hrec := hm.recs
  have hfl : (reL s.2.2.2.2.2.2.2).flatten = s.2.2.2.2.2.2.2.recs := reL_fl s.2.2.2.2.2.2.2
  generalize hX : hdr g ++ (rs.flatten ++ rest) = X at *
  have hs : s.1 = two (1 - u) o X := by rw [two_sw hu, h.e, hX]
  have hgX : gga X = some g := by rw [← hX]; exact gga_hdr h.b _
  have fin : ∀ (k : Nat) (fl' : List Int32), k ≤ 4 → fl' = two (1 - u) ((hdr (g + 1)).take k ++ (List.replicate (4 - k) 255 ++ (s.2.2.2.2.2.2.2.recs ++ List.replicate (252 - s.2.2.2.2.2.2.2.recs.length) 255))) X → (∃ o', FI n fl' u g rs rest o') ∧ k ≠ 4 ∨ ∃ o', FI n fl' (1 - u) (g + 1) (reL s.2.2.2.2.2.2.2) (List.replicate (252 - (reL s.2.2.2.2.2.2.2).flatten.length) 255) o' := by
    intro k fl' hk e
    have hl4 := hdr_len (g + 1)
    by_cases k4 : (hdr (g + 1)).take k ++ (List.replicate (4 - k) 255 ++ (s.2.2.2.2.2.2.2.recs ++ List.replicate (252 - s.2.2.2.2.2.2.2.recs.length) 255)) = hdr (g + 1) ++ (s.2.2.2.2.2.2.2.recs ++ List.replicate (252 - s.2.2.2.2.2.2.2.recs.length) 255)
    · right
      refine ⟨X, ?_⟩
      rw [e, k4, ← hfl]
      exact FI.new (by omega) hG hx (fun q hq => by rw [hgX] at hq; cases hq; omega) (rK_re hm hn) (by rw [re_fold hm hn]; exact hm) (by rw [hfl]; omega)
    · left
      rcases gga_torn hG hk (s.2.2.2.2.2.2.2.recs ++ List.replicate (252 - s.2.2.2.2.2.2.2.recs.length) 255) with w | w
      · refine ⟨⟨_, h.oth (by rw [e, two_sw hu, hX]) (by simp [S_cb_mmade4_0, S_bx_mcan1_0, S_b8_mkey_1, S_b8_mkey_0, S_b1_mterm_0, S_b1_copy_0, S_b0_mod_7, S_b0_mod_6, S_b0_mod_5, S_b0_mod_3, S_b0_mod_2, S_b0_mod_1, S_b0_mod_0, S_cb_mmade4_1h, S_bx_mcan1_1h, S_b0_mod_4h, hl4]; omega) (fun q hq => by rw [w] at hq; cases hq)⟩, fun w4 => k4 ?_⟩
        subst w4
        rw [List.take_of_length_le (by omega)]
        rfl
      · exact absurd w k4
  unfold fs_move
  dsimp only
  rw [ha, hgn]
  obtain ⟨j, hj, e1, e2⟩ := era_over 4 ((1 - u) * 256) s (by omega)
  have q1 := (fs_era_all 4 ((1 - u) * 256) s).1
  generalize fs_era 4 ((1 - u) * 256) s = E at *
  have hj64 : (List.replicate (64 * j) (255 : Int32)).length = 64 * j := List.length_replicate
  rw [hs, two_over0 (by omega) hlo hx (by omega)] at e1
  split
  · next hf =>
    left
    refine ⟨hf, fs_over o 0 (List.replicate (64 * j) 255), ?_⟩
    have hl : (fs_over o 0 (List.replicate (64 * j) 255)).length = 256 := by rw [fs_over_len (by omega)]; exact hlo
    refine h.oth (by rw [e1, two_sw hu, hX]) hl ?_
    by_cases j0 : j = 0
    · subst j0
      rw [Nat.mul_zero, List.replicate_zero, over_nil]
      exact h.h
    · intro q hq
      obtain ⟨j', hj'⟩ : ∃ j', 64 * j = j' + 4 := ⟨64 * j - 4, by omega⟩
      unfold fs_over at hq
      rw [hj', List.take_zero, List.nil_append, List.replicate_succ, List.replicate_succ, List.replicate_succ, List.replicate_succ] at hq
      rw [List.cons_append, List.cons_append, List.cons_append, List.cons_append, gga_255] at hq
      cases hq
  · next hf =>
    have hj4 := e2 (by simpa [S_cb_mmade4_0, S_bx_mcan1_0, S_b8_mkey_1, S_b8_mkey_0, S_b1_mterm_0, S_b1_copy_0, S_b0_mod_7, S_b0_mod_6, S_b0_mod_5, S_b0_mod_3, S_b0_mod_2, S_b0_mod_1, S_b0_mod_0, S_cb_mmade4_1h, S_bx_mcan1_1h, S_b0_mod_4h] using hf)
    subst hj4
    have eo : fs_over o 0 (List.replicate (64 * 4) 255) = List.replicate 256 255 := by
      unfold fs_over
      rw [List.take_zero, List.nil_append, List.drop_eq_nil_of_le (by rw [List.length_replicate]; omega), List.append_nil]
    rw [eo] at e1
    obtain ⟨k, hk, e3, e4⟩ := fs_lay_over s.2.2.2.2.2.2.2.recs ((1 - u) * 256 + 4) E.1 (by omega)
    have q2 := fs_lay_len s.2.2.2.2.2.2.2.recs ((1 - u) * 256 + 4) E.1
    generalize fs_lay s.2.2.2.2.2.2.2.recs ((1 - u) * 256 + 4) E.1 = L at *
    have hkl : (s.2.2.2.2.2.2.2.recs.take k).length = k := by rw [List.length_take]; omega
    have e5 : fs_over (List.replicate 256 255) 4 (s.2.2.2.2.2.2.2.recs.take k) = (255 : Int32) :: 255 :: 255 :: 255 :: (s.2.2.2.2.2.2.2.recs.take k ++ List.replicate (252 - k) 255) := by
      unfold fs_over
      rw [List.take_replicate, List.drop_replicate, hkl, show 256 - (4 + k) = 252 - k by omega]
      rfl
    rw [e1, two_over (by omega) List.length_replicate hx (by omega), e5] at e3
    split
    · next hf2 =>
      left
      exact ⟨hf2, _, h.oth (by rw [e3, two_sw hu, hX]) (by simp [S_cb_mmade4_0, S_bx_mcan1_0, S_b8_mkey_1, S_b8_mkey_0, S_b1_mterm_0, S_b1_copy_0, S_b0_mod_7, S_b0_mod_6, S_b0_mod_5, S_b0_mod_3, S_b0_mod_2, S_b0_mod_1, S_b0_mod_0, S_cb_mmade4_1h, S_bx_mcan1_1h, S_b0_mod_4h]; omega) (fun q hq => by rw [gga_255] at hq; cases hq)⟩
    · next hf2 =>
      have hk4 := e4 (by simpa [S_cb_mmade4_0, S_bx_mcan1_0, S_b8_mkey_1, S_b8_mkey_0, S_b1_mterm_0, S_b1_copy_0, S_b0_mod_7, S_b0_mod_6, S_b0_mod_5, S_b0_mod_3, S_b0_mod_2, S_b0_mod_1, S_b0_mod_0, S_cb_mmade4_1h, S_bx_mcan1_1h, S_b0_mod_4h] using hf2)
      rw [hk4, List.take_of_length_le (Nat.le_refl _)] at e3
      obtain ⟨c, hc, e6, e7⟩ := fs_lay_over (hdr (g + 1)) ((1 - u) * 256) L.1 (by rw [hdr_len]; omega)
      rw [hdr_len] at hc e7
      have q3 := fs_lay_len (hdr (g + 1)) ((1 - u) * 256) L.1
      generalize fs_lay (hdr (g + 1)) ((1 - u) * 256) L.1 = N at *
      have hcl : ((hdr (g + 1)).take c).length = c := by rw [List.length_take, hdr_len]; omega
      have e8 : fs_over ((255 : Int32) :: 255 :: 255 :: 255 :: (s.2.2.2.2.2.2.2.recs ++ List.replicate (252 - s.2.2.2.2.2.2.2.recs.length) 255)) 0 ((hdr (g + 1)).take c) = (hdr (g + 1)).take c ++ (List.replicate (4 - c) 255 ++ (s.2.2.2.2.2.2.2.recs ++ List.replicate (252 - s.2.2.2.2.2.2.2.recs.length) 255)) := by
        unfold fs_over
        rw [List.take_zero, List.nil_append, hcl]
        congr 1
        rcases (show c = 0 ∨ c = 1 ∨ c = 2 ∨ c = 3 ∨ c = 4 by omega) with rfl | rfl | rfl | rfl | rfl <;> rfl
      rw [e3, two_over0 (by omega) (by simp [S_cb_mmade4_0, S_bx_mcan1_0, S_b8_mkey_1, S_b8_mkey_0, S_b1_mterm_0, S_b1_copy_0, S_b0_mod_7, S_b0_mod_6, S_b0_mod_5, S_b0_mod_3, S_b0_mod_2, S_b0_mod_1, S_b0_mod_0, S_cb_mmade4_1h, S_bx_mcan1_1h, S_b0_mod_4h]; omega) hx (by omega), e8] at e6
      have f := fin c N.1.1 hc e6
      split
      · next hf3 =>
        rcases f with f | f
        · exact Or.inl ⟨hf3, f.1⟩
        · exact Or.inr f
      · next hf3 =>
        rcases f with f | f
        · exact absurd (e7 (by simpa [S_cb_mmade4_0, S_bx_mcan1_0, S_b8_mkey_1, S_b8_mkey_0, S_b1_mterm_0, S_b1_copy_0, S_b0_mod_7, S_b0_mod_6, S_b0_mod_5, S_b0_mod_3, S_b0_mod_2, S_b0_mod_1, S_b0_mod_0, S_cb_mmade4_1h, S_bx_mcan1_1h, S_b0_mod_4h] using hf3)) f.2
        · exact Or.inr f
/-- the key is on: what it remembers is what the flash says -/
def FO (n : Nat) (s : Fl) (u g : Nat) (rs : List (List Int32)) (o : List Int32) : Prop := (FI n s.1 u g rs (List.replicate (252 - rs.flatten.length) 255) o) ∧ (s.2.2.2.2.1 = u) ∧ (s.2.2.2.2.2.1 = g) ∧ (s.2.2.2.2.2.2.1 = 4 + rs.flatten.length) ∧ (s.2.2.2.2.2.2.2 = rs.foldl fs_lrn St.none)
theorem FO.f {n : Nat} {s : Fl} {u g : Nat} {rs : List (List Int32)} {o : List Int32} (hh_ : FO n s u g rs o) : FI n s.1 u g rs (List.replicate (252 - rs.flatten.length) 255) o := hh_.1
theorem FO.a {n : Nat} {s : Fl} {u g : Nat} {rs : List (List Int32)} {o : List Int32} (hh_ : FO n s u g rs o) : s.2.2.2.2.1 = u := hh_.2.1
theorem FO.gn {n : Nat} {s : Fl} {u g : Nat} {rs : List (List Int32)} {o : List Int32} (hh_ : FO n s u g rs o) : s.2.2.2.2.2.1 = g := hh_.2.2.1
theorem FO.en {n : Nat} {s : Fl} {u g : Nat} {rs : List (List Int32)} {o : List Int32} (hh_ : FO n s u g rs o) : s.2.2.2.2.2.2.1 = 4 + rs.flatten.length := hh_.2.2.2.1
theorem FO.st {n : Nat} {s : Fl} {u g : Nat} {rs : List (List Int32)} {o : List Int32} (hh_ : FO n s u g rs o) : s.2.2.2.2.2.2.2 = rs.foldl fs_lrn St.none := hh_.2.2.2.2
theorem FO_mk_ {n : Nat} {s : Fl} {u g : Nat} {rs : List (List Int32)} {o : List Int32} (f_0_ : FI n s.1 u g rs (List.replicate (252 - rs.flatten.length) 255) o) (f_1_ : s.2.2.2.2.1 = u) (f_2_ : s.2.2.2.2.2.1 = g) (f_3_ : s.2.2.2.2.2.2.1 = 4 + rs.flatten.length) (f_4_ : s.2.2.2.2.2.2.2 = rs.foldl fs_lrn St.none) : FO n s u g rs o := And.intro f_0_ (And.intro f_1_ (And.intro f_2_ (And.intro f_3_ f_4_)))
theorem FO.put (h : FO n s u g rs o) (hr : rK r) (hl : s.2.2.2.2.2.2.1 + r.length ≤ 256) (hG : Gd n (fs_lrn s.2.2.2.2.2.2.2 r)) : ((fs_put r s).2 = true → FO n (fs_put r s).1 u g (rs ++ [r]) o) ∧ (∃ rs' rest', FI n (fs_put r s).1.1 u g rs' rest' o) := by
  have hu := h.f.ul
  have hx := h.f.xl
  have hlx := h.f.lx
  have hlo := h.f.lo
  have hlen := h.f.len
  have hen := h.en
  have hfold : (rs ++ [r]).foldl fs_lrn St.none = fs_lrn s.2.2.2.2.2.2.2 r := by rw [List.foldl_append, ← h.st]; rfl
  have hfla : (rs ++ [r]).flatten = rs.flatten ++ r := by simp [S_cb_mmade4_0, S_bx_mcan1_0, S_b8_mkey_1, S_b8_mkey_0, S_b1_mterm_0, S_b1_copy_0, S_b0_mod_7, S_b0_mod_6, S_b0_mod_5, S_b0_mod_3, S_b0_mod_2, S_b0_mod_1, S_b0_mod_0, S_cb_mmade4_1h, S_bx_mcan1_1h, S_b0_mod_4h]
  obtain ⟨k, hk, e1, e2⟩ := fs_lay_over r (u * 256 + s.2.2.2.2.2.2.1) s (by omega)
  have hkl : (r.take k).length = k := by rw [List.length_take]; omega
  have e3 : fs_over (hdr g ++ (rs.flatten ++ List.replicate (252 - rs.flatten.length) 255)) s.2.2.2.2.2.2.1 (r.take k) = (hdr g ++ rs.flatten) ++ (r.take k ++ List.replicate (252 - rs.flatten.length - k) 255) := by
    have hpre : s.2.2.2.2.2.2.1 = (hdr g ++ rs.flatten).length := by rw [List.length_append, hdr_len, hen]
    rw [← List.append_assoc (hdr g)]
    unfold fs_over
    rw [take_pre hpre, ← List.drop_drop, drop_pre hpre, List.drop_replicate, hkl]
  rw [h.f.e, two_over hu hx hlo (by omega), e3] at e1
  have done : ∀ fl', fl' = two u ((hdr g ++ rs.flatten) ++ (r ++ List.replicate (252 - rs.flatten.length - r.length) 255)) o → FI n fl' u g (rs ++ [r]) (List.replicate (252 - (rs ++ [r]).flatten.length) 255) o := by
    intro fl' e
    rw [e]
    have := FI.new (n := n) (rs := rs ++ [r]) hu h.f.b hlo h.f.h (fun q hq => by
      rcases List.mem_append.mp hq with hq | hq
      · exact h.f.k q hq
      · simp only [List.mem_singleton] at hq
        subst hq
        exact hr) (by rw [hfold]; exact hG) (by rw [hfla, List.length_append]; omega)
    rw [hfla, List.length_append] at this
    rw [hfla, List.length_append]
    have e : hdr g ++ rs.flatten ++ (r ++ List.replicate (252 - rs.flatten.length - r.length) 255) = hdr g ++ (rs.flatten ++ r ++ List.replicate (252 - (rs.flatten.length + r.length)) 255) := by
      rw [Nat.sub_sub]
      simp [S_cb_mmade4_0, S_bx_mcan1_0, S_b8_mkey_1, S_b8_mkey_0, S_b1_mterm_0, S_b1_copy_0, S_b0_mod_7, S_b0_mod_6, S_b0_mod_5, S_b0_mod_3, S_b0_mod_2, S_b0_mod_1, S_b0_mod_0, S_cb_mmade4_1h, S_bx_mcan1_1h, S_b0_mod_4h]
    rw [e]
    exact this
  have hlay := fs_lay_all r (u * 256 + s.2.2.2.2.2.2.1) s
  unfold fs_put
  dsimp only
  rw [h.a]
  generalize fs_lay r (u * 256 + s.2.2.2.2.2.2.1) s = L at *
  have tornd : ∃ rs' rest', FI n L.1.1 u g rs' rest' o := by
    by_cases hkr : k = r.length
    · rw [hkr, List.take_of_length_le (Nat.le_refl _)] at e1
      exact ⟨_, _, done _ e1⟩
    · obtain ⟨kk, b, er, hkk⟩ := hr.s
      subst er
      rw [rc_len] at hkr hk hl
      have hpre : (hdr g ++ rs.flatten).length = s.2.2.2.2.2.2.1 := by rw [List.length_append, hdr_len, hen]
      have h4 : 4 ≤ (hdr g ++ rs.flatten).length := by rw [hpre]; omega
      rcases rz_torn (pre := hdr g ++ rs.flatten) (c := k) (m := 252 - rs.flatten.length - k) hkk h4 (by omega) (by omega) (by omega) with w | w
      · refine ⟨rs, (rc kk b).take k ++ List.replicate (252 - rs.flatten.length - k) 255, hu, by rw [e1, List.append_assoc], by rw [List.length_append, hkl, List.length_replicate]; omega, hlo, ?_, h.f.h, h.f.k, h.f.gd, h.f.b⟩
        rw [hpre, hen, List.append_assoc] at w
        exact w
      · rw [w, show 256 - (hdr g ++ rs.flatten).length - (b.length + 4) = 252 - rs.flatten.length - (rc kk b).length by rw [hpre, rc_len]; omega] at e1
        exact ⟨_, _, done _ e1⟩
  split
  · next hf => exact ⟨fun w => (by rw [hf] at w; cases w), tornd⟩
  · next hf =>
    have hkr := e2 (by simpa [S_cb_mmade4_0, S_bx_mcan1_0, S_b8_mkey_1, S_b8_mkey_0, S_b1_mterm_0, S_b1_copy_0, S_b0_mod_7, S_b0_mod_6, S_b0_mod_5, S_b0_mod_3, S_b0_mod_2, S_b0_mod_1, S_b0_mod_0, S_cb_mmade4_1h, S_bx_mcan1_1h, S_b0_mod_4h] using hf)
    rw [hkr, List.take_of_length_le (Nat.le_refl _)] at e1
    refine ⟨fun _ => (FO_mk_ (done _ e1) ?_ ?_ ?_ hfold.symm), ⟨_, _, done _ e1⟩⟩
    · exact hlay.2.2.1.trans h.a
    · exact hlay.2.2.2.1.trans h.gn
    · show s.2.2.2.2.2.2.1 + r.length = 4 + (rs ++ [r]).flatten.length
      rw [hfla, List.length_append]
      omega
end
/-- the flash of a key, on or off -/
def FS (n G : Nat) (s : Fl) : Prop := (∃ u g rs rest o, FI n s.1 u g rs rest o ∧ g ≤ G) ∧ (s.2.1 = true → ∃ u g rs o, FO n s u g rs o) ∧ (s.2.2.2.2.1 ≤ 1) ∧ (s.2.2.2.2.2.1 ≤ G) ∧ (s.2.2.2.2.2.2.1 ≤ 256) ∧ (Gd n s.2.2.2.2.2.2.2)
theorem FS.f {n G : Nat} {s : Fl} (hh_ : FS n G s) : ∃ u g rs rest o, FI n s.1 u g rs rest o ∧ g ≤ G := hh_.1
theorem FS.o {n G : Nat} {s : Fl} (hh_ : FS n G s) : s.2.1 = true → ∃ u g rs o, FO n s u g rs o := hh_.2.1
theorem FS.a {n G : Nat} {s : Fl} (hh_ : FS n G s) : s.2.2.2.2.1 ≤ 1 := hh_.2.2.1
theorem FS.g {n G : Nat} {s : Fl} (hh_ : FS n G s) : s.2.2.2.2.2.1 ≤ G := hh_.2.2.2.1
theorem FS.e {n G : Nat} {s : Fl} (hh_ : FS n G s) : s.2.2.2.2.2.2.1 ≤ 256 := hh_.2.2.2.2.1
theorem FS.m {n G : Nat} {s : Fl} (hh_ : FS n G s) : Gd n s.2.2.2.2.2.2.2 := hh_.2.2.2.2.2
theorem FS_mk_ {n G : Nat} {s : Fl} (f_0_ : ∃ u g rs rest o, FI n s.1 u g rs rest o ∧ g ≤ G) (f_1_ : s.2.1 = true → ∃ u g rs o, FO n s u g rs o) (f_2_ : s.2.2.2.2.1 ≤ 1) (f_3_ : s.2.2.2.2.2.1 ≤ G) (f_4_ : s.2.2.2.2.2.2.1 ≤ 256) (f_5_ : Gd n s.2.2.2.2.2.2.2) : FS n G s := And.intro f_0_ (And.intro f_1_ (And.intro f_2_ (And.intro f_3_ (And.intro f_4_ f_5_))))
section
variable {n m u g : Nat} {fl : List Int32} {rs : List (List Int32)} {rest o : List Int32} {s : Fl} {r : List Int32} {G : Nat}
theorem FO.mono (h : FO n s u g rs o) (hm : n ≤ m) : FO m s u g rs o := (FO_mk_ (h.f.mono hm) h.a h.gn h.en h.st)
theorem FS.mono {G' : Nat} (h : FS n G s) (hm : n ≤ m) (hG : G ≤ G') : FS m G' s := by
  refine (FS_mk_ ?_ ?_ h.a (Nat.le_trans h.g hG) h.e (h.m.mono hm))
  · obtain ⟨u, g, rs, rest, o, h1, h2⟩ := h.f
    exact ⟨u, g, rs, rest, o, h1.mono hm, by omega⟩
  · intro w
    obtain ⟨u, g, rs, o, h1⟩ := h.o w
    exact ⟨u, g, rs, o, h1.mono hm⟩
theorem FS.len (h : FS n G s) : s.1.length = 512 := by
  obtain ⟨u, g, rs, rest, o, h1, -⟩ := h.f
  exact h1.len
theorem FS.w (h : FS n G s) (hG : G < 65536) : fw s := (fw_mk_ h.len h.a (by have := h.g; omega) h.e h.m.u h.m.r)
/-- only what does not count has changed -/
theorem FS.same {s' : Fl} (h : FS n G s) (h1 : s'.1 = s.1) (h2 : s'.2.2.2.2.1 = s.2.2.2.2.1) (h3 : s'.2.2.2.2.2.1 = s.2.2.2.2.2.1) (h4 : s'.2.2.2.2.2.2.1 = s.2.2.2.2.2.2.1) (h5 : s'.2.2.2.2.2.2.2 = s.2.2.2.2.2.2.2) (h6 : s'.2.1 = true → s.2.1 = true) : FS n G s' := by
  refine (FS_mk_ (by rw [h1]; exact h.f) (fun w => ?_) (by rw [h2]; exact h.a) (by rw [h3]; exact h.g) (by rw [h4]; exact h.e) (by rw [h5]; exact h.m))
  obtain ⟨u, g, rs, o, q⟩ := h.o (h6 w)
  exact ⟨u, g, rs, o, by rw [h1]; exact q.f, by rw [h2]; exact q.a, by rw [h3]; exact q.gn, by rw [h4]; exact q.en, by rw [h5]; exact q.st⟩
/-- a move -/
theorem FS.move0 (h : FI n s.1 u g rs rest o) (ha : s.2.2.2.2.1 = u) (hgn : s.2.2.2.2.2.1 = g) (he : s.2.2.2.2.2.2.1 ≤ 256) (hm : Gd n s.2.2.2.2.2.2.2) (hn : n < 2 ^ 30) (hg : g ≤ G) (hG : G + 1 < 65536) : FS n (G + 1) (fs_move s).1 ∧ ((fs_move s).2 = true → ∃ u g rs o, FO n (fs_move s).1 u g rs o) := by
  have hu := h.ul
  have hrec := hm.recs
  obtain ⟨a1, a2, a3⟩ := fs_move_all s
  have on1 : (fs_move s).2 = true → ∃ u g rs o, FO n (fs_move s).1 u g rs o := by
    intro w
    rcases a3 with a3 | a3
    · rw [w] at a3; cases a3.1
    · rcases h.move ha hgn hm hn (by omega) with q | ⟨o', q⟩
      · rw [w] at q; cases q.1
      · exact ⟨_, _, _, _, q, by rw [a3.2.1, ha], by rw [a3.2.2.1, hgn], by rw [a3.2.2.2, reL_fl], by rw [a2, re_fold hm hn]⟩
  refine ⟨(FS_mk_ ?_ ?_ ?_ ?_ ?_ (by rw [a2]; exact hm)), on1⟩
  · rcases h.move ha hgn hm hn (by omega) with ⟨-, o', q⟩ | ⟨o', q⟩
    · exact ⟨_, _, _, _, _, q, by omega⟩
    · exact ⟨_, _, _, _, _, q, by omega⟩
  · intro w
    rcases fs_move_onk s with q | q
    · exact on1 q.1
    · rw [q.2] at w; cases w
  · rcases a3 with a3 | a3 <;> omega
  · rcases a3 with a3 | a3 <;> omega
  · rcases a3 with a3 | a3 <;> omega
theorem FS.put0 (h : FO n s u g rs o) (hr : rK r) (hl : s.2.2.2.2.2.2.1 + r.length ≤ 256) (hg : Gd n (fs_lrn s.2.2.2.2.2.2.2 r)) (hm : Gd n s.2.2.2.2.2.2.2) (hG : g ≤ G) : FS n G (fs_put r s).1 := by
  obtain ⟨p1, p2⟩ := h.put hr hl hg
  obtain ⟨a1, a2, a3, a4⟩ := fs_put_all r s
  have hu := h.f.ul
  have ha := h.a
  have hgn := h.gn
  refine (FS_mk_ ?_ ?_ ?_ ?_ ?_ ?_)
  · obtain ⟨rs', rest', q⟩ := p2
    exact ⟨_, _, _, _, _, q, hG⟩
  · intro w
    have : (fs_put r s).2 = true := by
      unfold fs_put at w ⊢
      dsimp only at w ⊢
      rcases fs_lay_onk r (s.2.2.2.2.1 * 256 + s.2.2.2.2.2.2.1) s with q | q
      · rw [if_neg (by rw [q.1]; decide)]
      · rw [if_pos q.1] at w
        rw [q.2] at w
        cases w
    exact ⟨_, _, _, _, p1 this⟩
  · omega
  · omega
  · rcases a4 with a4 | a4 <;> omega
  · rcases a4 with a4 | a4
    · rw [a4.2.1]; exact hm
    · rw [a4.2.1]; exact hg
/-- a record is written, or the power fails -/
theorem FS.wr (h : FS n G s) (hon : s.2.1 = true) (hr : rK r) (hg : Gd n (fs_lrn s.2.2.2.2.2.2.2 r)) (hn : n < 2 ^ 30) (hG : G + 1 < 65536) : FS n (G + 1) (fs_wr r s).1 := by
  obtain ⟨u, g, rs, o, q⟩ := h.o hon
  have hl := hr.s.le
  have hrec := h.m.recs
  have hgG : g ≤ G := by have := h.g; have := q.gn; omega
  unfold fs_wr
  split
  · dsimp only
    obtain ⟨m1, m2⟩ := FS.move0 (G := G) q.f q.a q.gn h.e h.m hn hgG hG
    split
    · exact m1
    · next hm =>
      have hm : (fs_move s).2 = true := by simpa [S_cb_mmade4_0, S_bx_mcan1_0, S_b8_mkey_1, S_b8_mkey_0, S_b1_mterm_0, S_b1_copy_0, S_b0_mod_7, S_b0_mod_6, S_b0_mod_5, S_b0_mod_3, S_b0_mod_2, S_b0_mod_1, S_b0_mod_0, S_cb_mmade4_1h, S_bx_mcan1_1h, S_b0_mod_4h] using hm
      obtain ⟨u', g', rs', o', q'⟩ := m2 hm
      have hst := fs_move_st s hm
      have hgG' := m1.g
      refine FS.put0 q' hr ?_ (by rw [hst.1]; exact hg) m1.m (by have := q'.gn; omega)
      rw [hst.2.2.2.1]
      omega
  · next hc => exact (FS.put0 q hr (by omega) hg h.m hgG).mono (Nat.le_refl _) (by omega)
theorem FS.wake (h : FS n G s) (hn : n < 2 ^ 30) (hG : G + 1 < 65536) : FS n (G + 1) (fs_wake s) := by
  obtain ⟨u, g, rs, rest, o, q, hg⟩ := h.f
  have hu := q.ul
  have hlx := q.lx
  have hup := q.up
  unfold fs_wake
  rw [hup]
  dsimp only
  have hd : (fs_ar s.1 u).drop (4 + rs.flatten.length) = rest := by
    rw [q.ar, ← List.append_assoc]
    exact drop_pre (by rw [List.length_append, hdr_len])
  rw [hd]
  split
  · next hall =>
    have hr : rest = List.replicate (252 - rs.flatten.length) 255 := by
      rw [List.eq_replicate_iff]
      refine ⟨by omega, fun v hv => ?_⟩
      have := List.all_eq_true.mp hall v hv
      simpa [S_cb_mmade4_0, S_bx_mcan1_0, S_b8_mkey_1, S_b8_mkey_0, S_b1_mterm_0, S_b1_copy_0, S_b0_mod_7, S_b0_mod_6, S_b0_mod_5, S_b0_mod_3, S_b0_mod_2, S_b0_mod_1, S_b0_mod_0, S_cb_mmade4_1h, S_bx_mcan1_1h, S_b0_mod_4h] using this
    have qf := q
    rw [hr] at qf
    exact (FS_mk_ (⟨u, g, rs, rest, o, q, by omega⟩) (fun _ => ⟨u, g, rs, o, qf, rfl, rfl, rfl, rfl⟩) hu (by show g ≤ G + 1; omega) (by show 4 + rs.flatten.length ≤ 256; omega) q.gd)
  · exact (FS.move0 (s := ((s.1, (true, (s.2.2.1, (s.2.2.2.1, (u, (g, (4 + rs.flatten.length, rs.foldl fs_lrn St.none))))))) : Fl)) q rfl rfl (by show 4 + rs.flatten.length ≤ 256; omega) q.gd hn hg hG).1
theorem Gd.born (m : Int32) : Gd n ((m, (St.none.2.1, (St.none.2.2.1, (St.none.2.2.2.1, St.none.2.2.2.2)))) : St) := (Gd_mk_ (fun c hc => (by cases hc)) (by show fs_room [] ≤ 195; decide) (fun c hc => (by cases hc)) (fun i j a b hi => (by cases hi)) (fun i j a b hi => (by cases hi)) (⟨8, Nat.le_refl _, rfl⟩))
theorem FS.reset (h : FS n G s) (hon : s.2.1 = true) (m : Int32) (hn : n < 2 ^ 30) (hG : G + 1 < 65536) : FS n (G + 1) (fs_move ((s.1, (s.2.1, (s.2.2.1, (s.2.2.2.1, (s.2.2.2.2.1, (s.2.2.2.2.2.1, (s.2.2.2.2.2.2.1, ((m, (St.none.2.1, (St.none.2.2.1, (St.none.2.2.2.1, St.none.2.2.2.2)))) : St)))))))) : Fl)).1 := by
  obtain ⟨u, g, rs, o, q⟩ := h.o hon
  exact (FS.move0 (G := G) (s := ((s.1, (s.2.1, (s.2.2.1, (s.2.2.2.1, (s.2.2.2.2.1, (s.2.2.2.2.2.1, (s.2.2.2.2.2.2.1, ((m, (St.none.2.1, (St.none.2.2.1, (St.none.2.2.2.1, St.none.2.2.2.2)))) : St)))))))) : Fl)) q.f q.a q.gn h.e (Gd.born m) hn (by have := h.g; have := q.gn; omega) hG).1
theorem FS.new (m : Int32) (hn : n < 2 ^ 30) : FS n 1 ((fs_new m, (ky_zero.1.1.1.1.2.1, (ky_zero.1.1.1.1.2.2.1, (ky_zero.1.1.1.1.2.2.2.1, (ky_zero.1.1.1.1.2.2.2.2.1, (ky_zero.1.1.1.1.2.2.2.2.2.1, (ky_zero.1.1.1.1.2.2.2.2.2.2.1, ky_zero.1.1.1.1.2.2.2.2.2.2.2))))))) : Fl) := by
  have e : fs_new m = two 0 (hdr 1 ++ ([rc 1 (b4 m)].flatten ++ List.replicate (252 - [rc 1 (b4 m)].flatten.length) 255)) (List.replicate 256 255) := by
    have hl : [rc 1 (b4 m)].flatten = rc 1 (b4 m) := by simp [S_cb_mmade4_0, S_bx_mcan1_0, S_b8_mkey_1, S_b8_mkey_0, S_b1_mterm_0, S_b1_copy_0, S_b0_mod_7, S_b0_mod_6, S_b0_mod_5, S_b0_mod_3, S_b0_mod_2, S_b0_mod_1, S_b0_mod_0, S_cb_mmade4_1h, S_bx_mcan1_1h, S_b0_mod_4h]
    unfold fs_new two
    rw [if_pos rfl, hl, rc_len, b4_len, List.append_assoc, List.append_assoc, List.replicate_append_replicate]
  have f : FI n (fs_new m) 0 1 [rc 1 (b4 m)] (List.replicate (252 - [rc 1 (b4 m)].flatten.length) 255) (List.replicate 256 255) := by
    rw [e]
    refine FI.new (by decide) (by decide) List.length_replicate (fun k hk => ?_) (fun r hr => ?_) ?_ ?_
    · have : gga (List.replicate 256 255) = none := gga_255 255 255 (List.replicate 252 255)
      rw [this] at hk
      cases hk
    · simp only [List.mem_singleton] at hr
      subst hr
      exact rK_1 m
    · rw [List.foldl_cons, List.foldl_nil, lrn_1]
      exact Gd.born m
    · rw [List.flatten_cons, List.flatten_nil, List.append_nil, rc_len, b4_len]
      decide
  refine (FS_mk_ (⟨_, _, _, _, _, f, Nat.le_refl _⟩) (fun w => (by cases w)) (show (0 : Nat) ≤ 1 by decide) (show (0 : Nat) ≤ 1 by decide) (show (0 : Nat) ≤ 256 by decide) ?_)
  exact (Gd_mk_ (fun c hc => (by cases hc)) (by show fs_room [] ≤ 195; decide) (fun c hc => (by cases hc)) (fun i j a b hi => (by cases hi)) (fun i j a b hi => (by cases hi)) (⟨0, by decide, rfl⟩))
theorem FS.W (h : FS n G s) : fsW s := by
  obtain ⟨u, g, rs, rest, o, q, hg⟩ := h.f
  have hup := q.up
  refine (fsW_mk_ q.len ?_ ?_ ?_)
  · rcases (show u = 0 ∨ u = 1 by have := q.ul; omega) with rfl | rfl
    · left; rw [q.gu]; rfl
    · right; rw [q.gu]; rfl
  · rw [hup]
    have := q.gd.six
    show (rs.foldl fs_lrn St.none).2.2.2.2.length ≤ 8
    omega
  · rw [hup]
    have := q.gd.recs
    show 4 + (rs.foldl fs_lrn St.none).recs.length ≤ 256
    omega
theorem FS.I (h : FS n G s) (h8 : ∀ v ∈ s.1, v &&& 255 = v) (hG : G + 1 < 65536) : fsI s := by
  have w := h.W
  obtain ⟨u, g, rs, rest, o, q, hg⟩ := h.f
  have hup := q.up
  refine (fsI_mk_ h8 w.g q.pz ?_ ?_ w.r ?_)
  · rw [hup]
    show g + 1 < 65536
    omega
  · rw [hup]
    exact q.gd.tr
  · have := w.c
    omega
end
end
