/- dt.mtape -/
section
set_option maxRecDepth 512
/-! The model: the tape and the terms. -/
section
variable {x : Fx} {y : Sy} {d : Nat} {B : Bs} {H : Ho}
theorem o_feed (z : mz x y H) (w : Int64) (n : Int32) : oR (d + 1) 235 [.ref 67, .long w, .int n] B x y (ho_feed H w n) := by
  unfold ho_feed
  rcases q_feed (d := d) (B := B) (y := y) z.t w n with ⟨h1, h2, l, p1, p2⟩ | ⟨h1, p1⟩
  · rw [if_pos ⟨h1, h2⟩]
    obtain ⟨m, rfl, -, -, hc⟩ := inR_nI (a := 1) (b := 8) h1 (by decide) (by decide)
    have zt := z.wt p2
    rw [List.length_append, bt_low_len] at zt
    exact ⟨_, y, p1, zt⟩
  · rw [if_neg h1]
    exact ⟨x, y, p1, z⟩
theorem o_wipe (z : mz x y H) : oR (d + 1) 236 [.ref 67] B x y (ho_wipe H) := by
  have htl : x.1.1.1.2.1.1.length = 400 := by obtain ⟨g, -, hl⟩ := z.t.1; exact hl
  exact ⟨_, y, q_wipe z.t, z.wt (t := []) ⟨x.1.1.1.2.1.1, rfl, htl⟩⟩
theorem o_at (z : mz x y H) (i : Int32) : oR (d + 1) 237 [.ref 67, .int i] B x y (ho_at H i) := ⟨x, y, q_at z.t i, z⟩
theorem o_poke (z : mz x y H) (i v : Int32) : oR (d + 1) 238 [.ref 67, .int i, .int v] B x y (ho_poke H i v) := by
  have p := q_poke (d := d) (B := B) (y := y) z.t i v
  unfold ho_poke
  cases hi : ix i H.1.length with
  | none =>
    rw [hi] at p
    exact ⟨x, y, p, z⟩
  | some j =>
    rw [hi] at p
    dsimp only at p ⊢
    obtain ⟨-, hj, -⟩ := ix_some hi
    by_cases c : inR v 0 255 = true
    · rw [if_pos c] at p
      rw [if_pos c]
      have zt := z.wt (z.t.1.set hj v)
      rw [List.length_set] at zt
      exact ⟨_, y, p, zt⟩
    · rw [if_neg c] at p
      rw [if_neg c]
      exact ⟨x, y, p, z⟩
theorem o_terms (z : mz x y H) : oR (d + 1) 232 [.ref 67] B x y (ho_terms H) := by
  obtain ⟨D, O, hy⟩ := z.y
  exact ⟨x, y, mo_terms hy, z⟩
theorem o_sort (z : mz x y H) (t : Int32) : oR (d + 2) 233 [.ref 67, .int t] B x y (ho_sort H t) := by
  obtain ⟨D, O, hy⟩ := z.y
  exact ⟨x, y, mo_sort hy t, z⟩
end
end
