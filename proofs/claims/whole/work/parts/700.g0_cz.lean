/- g0.cz -/
section
set_option maxRecDepth 512
/-! Checks, piece by piece. -/
theorem mj_cz_cut {y : mj_Me} {n : Nat} : ∀ (l : List (Option mj_R)) (p : Nat), mj_cz y (l.take n) p = true → mj_cz y (l.drop n) (p + n) = true → mj_cz y l p = true := by
  induction n with
  | zero => intro l p _ h; exact h
  | succ n ih =>
    intro l p h1 h2
    cases l with
    | nil => rfl
    | cons a l =>
      rw [List.take_succ_cons] at h1
      rw [List.drop_succ_cons, show p + (n + 1) = p + 1 + n by omega] at h2
      cases a with
      | none => exact ih l (p + 1) h1 h2
      | some r =>
        simp only [mj_cz, Bool.and_eq_true] at h1 ⊢
        exact ⟨h1.1, ih l (p + 1) h1.2 h2⟩
def mj_rw (y : mj_Me) : List (Option mj_R) := y.2.2.2.2.2.2.2
/-- a piece of the rows -/
def mj_pc (y : mj_Me) (a n : Nat) : Bool := mj_cz y (((mj_rw y).drop a).take n) a
theorem mj_pc_0 {y : mj_Me} (h : mj_cz y ((mj_rw y).drop 0) 0 = true) : mj_cr y = true := h
theorem mj_pc_1 {y : mj_Me} {a n : Nat} (h : mj_pc y a n = true) (h2 : mj_cz y ((mj_rw y).drop (a + n)) (a + n) = true) : mj_cz y ((mj_rw y).drop a) a = true := mj_cz_cut _ _ h (by rw [List.drop_drop]; exact h2)
end
