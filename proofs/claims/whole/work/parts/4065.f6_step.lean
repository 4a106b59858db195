/- f6.step -/
section
set_option maxRecDepth 512
/-! Each call of both. -/
section
variable {n d : Nat} {M : mj_H} {H : Ho} {ys : List Int32}
theorem st_c_feed {a1 a2 a3 : Int32} (L : LI ys n M H) (hn : n ≤ 63) (hy : ys.length ≤ 640) (h1 : ys[10 * n + 1]? = some a1) (h2 : ys[10 * n + 2]? = some a2) (h3 : ys[10 * n + 3]? = some a3) : ∃ M2 H2, LI ys (n + 1) M2 H2 ∧ ∀ r, mj_Rn (d + 14) mj_m380 1525 (lL n) [] M2 = some r → mj_Rn (d + 14) mj_m380 180 (lL n) [] M = some r := by
  have q := L.q hn
  have hn4 : n ≤ 64 := by omega
  obtain ⟨κs, πs, row, z⟩ := L.h
  have c : cR (d + 1 + 13) 7 [.ref 25, .long (ln2 a1 a2), .int a3] M (ho_feed H (ln2 a1 a2) a3) := by
    obtain ⟨M1, p, z1, f⟩ := h_feed (d := d + 12) z (ln2 a1 a2) a3 
    exact ⟨M1, p, ⟨κs, πs, row, z1⟩, f⟩
  have o : ∀ B x y, mz x y H → oR (d + 1 + 13) 235 [.ref 67, .long (ln2 a1 a2), .int a3] B x y (ho_feed H (ln2 a1 a2) a3) := fun B x y z => o_feed (d := d + 13) z (ln2 a1 a2) a3 
  obtain ⟨M1, M2, p1, p2, m0, m67, L2⟩ := L.step (d := d + 1) c o (hi_feed q.i  (ln2 a1 a2) a3)
  exact ⟨M2, _, L2, lc_feed (by omega) h1 h2 h3 L.a hy (by rw [z.ob]; rfl) p1 m0 m67 p2⟩
theorem st_c_wipe (L : LI ys n M H) (hn : n ≤ 63) (hy : ys.length ≤ 640)  : ∃ M2 H2, LI ys (n + 1) M2 H2 ∧ ∀ r, mj_Rn (d + 14) mj_m380 1525 (lL n) [] M2 = some r → mj_Rn (d + 14) mj_m380 243 (lL n) [] M = some r := by
  have q := L.q hn
  have hn4 : n ≤ 64 := by omega
  obtain ⟨κs, πs, row, z⟩ := L.h
  have c : cR (d + 1 + 13) 11 [.ref 25] M (ho_wipe H) := by
    obtain ⟨M1, p, z1, f⟩ := h_wipe (d := d + 12) z  
    exact ⟨M1, p, ⟨κs, πs, row, z1⟩, f⟩
  have o : ∀ B x y, mz x y H → oR (d + 1 + 13) 236 [.ref 67] B x y (ho_wipe H) := fun B x y z => o_wipe (d := d + 13) z  
  obtain ⟨M1, M2, p1, p2, m0, m67, L2⟩ := L.step (d := d + 1) c o (q.i.idle rfl rfl rfl)
  exact ⟨M2, _, L2, lc_wipe (by omega)  L.a hy (by rw [z.ob]; rfl) p1 m0 m67 p2⟩
theorem st_c_at {a1 : Int32} (L : LI ys n M H) (hn : n ≤ 63) (hy : ys.length ≤ 640) (h1 : ys[10 * n + 1]? = some a1) : ∃ M2 H2, LI ys (n + 1) M2 H2 ∧ ∀ r, mj_Rn (d + 14) mj_m380 1525 (lL n) [] M2 = some r → mj_Rn (d + 14) mj_m380 256 (lL n) [] M = some r := by
  have q := L.q hn
  have hn4 : n ≤ 64 := by omega
  obtain ⟨κs, πs, row, z⟩ := L.h
  have c : cR (d + 1 + 13) 13 [.ref 25, .int a1] M (ho_at H a1) := by
    exact cR.mk0 z (h_at (d := d + 12) z a1 ) rfl
  have o : ∀ B x y, mz x y H → oR (d + 1 + 13) 237 [.ref 67, .int a1] B x y (ho_at H a1) := fun B x y z => o_at (d := d + 13) z a1 
  obtain ⟨M1, M2, p1, p2, m0, m67, L2⟩ := L.step (d := d + 1) c o (q.i.same)
  exact ⟨M2, _, L2, lc_at (by omega) h1 L.a hy (by rw [z.ob]; rfl) p1 m0 m67 p2⟩
theorem st_c_poke {a1 a2 : Int32} (L : LI ys n M H) (hn : n ≤ 63) (hy : ys.length ≤ 640) (h1 : ys[10 * n + 1]? = some a1) (h2 : ys[10 * n + 2]? = some a2) : ∃ M2 H2, LI ys (n + 1) M2 H2 ∧ ∀ r, mj_Rn (d + 14) mj_m380 1525 (lL n) [] M2 = some r → mj_Rn (d + 14) mj_m380 279 (lL n) [] M = some r := by
  have q := L.q hn
  have hn4 : n ≤ 64 := by omega
  obtain ⟨κs, πs, row, z⟩ := L.h
  have c : cR (d + 1 + 13) 15 [.ref 25, .int a1, .int a2] M (ho_poke H a1 a2) := by
    obtain ⟨M1, p, z1, f⟩ := h_poke (d := d + 12) z a1 a2
    exact ⟨M1, p, ⟨κs, πs, row, z1⟩, f⟩
  have o : ∀ B x y, mz x y H → oR (d + 1 + 13) 238 [.ref 67, .int a1, .int a2] B x y (ho_poke H a1 a2) := fun B x y z => o_poke (d := d + 13) z a1 a2 
  obtain ⟨M1, M2, p1, p2, m0, m67, L2⟩ := L.step (d := d + 1) c o (hi_poke q.i  a1 a2)
  exact ⟨M2, _, L2, lc_poke (by omega) h1 h2 L.a hy (by rw [z.ob]; rfl) p1 m0 m67 p2⟩
theorem st_c_terms (L : LI ys n M H) (hn : n ≤ 63) (hy : ys.length ≤ 640)  : ∃ M2 H2, LI ys (n + 1) M2 H2 ∧ ∀ r, mj_Rn (d + 14) mj_m380 1525 (lL n) [] M2 = some r → mj_Rn (d + 14) mj_m380 312 (lL n) [] M = some r := by
  have q := L.q hn
  have hn4 : n ≤ 64 := by omega
  obtain ⟨κs, πs, row, z⟩ := L.h
  have c : cR (d + 1 + 13) 17 [.ref 25] M (ho_terms H) := by
    exact cR.mk0 z (h_terms (d := d + 12) z  ) rfl
  have o : ∀ B x y, mz x y H → oR (d + 1 + 13) 232 [.ref 67] B x y (ho_terms H) := fun B x y z => o_terms (d := d + 13) z  
  obtain ⟨M1, M2, p1, p2, m0, m67, L2⟩ := L.step (d := d + 1) c o (q.i.same)
  exact ⟨M2, _, L2, lc_terms (by omega)  L.a hy (by rw [z.ob]; rfl) p1 m0 m67 p2⟩
theorem st_c_sort {a1 : Int32} (L : LI ys n M H) (hn : n ≤ 63) (hy : ys.length ≤ 640) (h1 : ys[10 * n + 1]? = some a1) : ∃ M2 H2, LI ys (n + 1) M2 H2 ∧ ∀ r, mj_Rn (d + 14) mj_m380 1525 (lL n) [] M2 = some r → mj_Rn (d + 14) mj_m380 325 (lL n) [] M = some r := by
  have q := L.q hn
  have hn4 : n ≤ 64 := by omega
  obtain ⟨κs, πs, row, z⟩ := L.h
  have c : cR (d + 1 + 13) 19 [.ref 25, .int a1] M (ho_sort H a1) := by
    exact cR.mk0 z (h_sort (d := d + 11) z a1 ) rfl
  have o : ∀ B x y, mz x y H → oR (d + 1 + 13) 233 [.ref 67, .int a1] B x y (ho_sort H a1) := fun B x y z => o_sort (d := d + 12) z a1 
  obtain ⟨M1, M2, p1, p2, m0, m67, L2⟩ := L.step (d := d + 1) c o (q.i.same)
  exact ⟨M2, _, L2, lc_sort (by omega) h1 L.a hy (by rw [z.ob]; rfl) p1 m0 m67 p2⟩
theorem st_c_key (L : LI ys n M H) (hn : n ≤ 63) (hy : ys.length ≤ 640)  : ∃ M2 H2, LI ys (n + 1) M2 H2 ∧ ∀ r, mj_Rn (d + 14) mj_m380 1525 (lL n) [] M2 = some r → mj_Rn (d + 14) mj_m380 348 (lL n) [] M = some r := by
  have q := L.q hn
  have hn4 : n ≤ 64 := by omega
  obtain ⟨κs, πs, row, z⟩ := L.h
  have c : cR (d + 1 + 13) 22 [.ref 25] M (ho_key H) := by
    obtain ⟨M1, κ1, row1, p, z1, f⟩ := h_key (d := d + 6) z  (by have := q.f; omega) (born_fs _ 0 (by decide)).W
    exact ⟨M1, p, ⟨κ1, πs, row1, z1⟩, f⟩
  have o : ∀ B x y, mz x y H → oR (d + 1 + 13) 239 [.ref 67] B x y (ho_key H) := fun B x y z => o_key (d := d + 6) z  (by have := q.f; omega) (born_I _)
  obtain ⟨M1, M2, p1, p2, m0, m67, L2⟩ := L.step (d := d + 1) c o (hi_key q.i hn4 )
  exact ⟨M2, _, L2, lc_key (by omega)  L.a hy (by rw [z.ob]; rfl) p1 m0 m67 p2⟩
theorem st_c_power {a1 a2 : Int32} (L : LI ys n M H) (hn : n ≤ 63) (hy : ys.length ≤ 640) (h1 : ys[10 * n + 1]? = some a1) (h2 : ys[10 * n + 2]? = some a2) : ∃ M2 H2, LI ys (n + 1) M2 H2 ∧ ∀ r, mj_Rn (d + 14) mj_m380 1525 (lL n) [] M2 = some r → mj_Rn (d + 14) mj_m380 361 (lL n) [] M = some r := by
  have q := L.q hn
  have hn4 : n ≤ 64 := by omega
  obtain ⟨κs, πs, row, z⟩ := L.h
  have c : cR (d + 1 + 13) 67 [.ref 25, .int a1, .int (on1 (!decide (a2 = 0)))] M (ho_power H a1 (!decide (a2 = 0))) := by
    obtain ⟨M1, p, z1, f⟩ := h_power (d := d + 6) (i := a1) z (!decide (a2 = 0)) (fun k hk => (q.k k hk).s.W)
    exact ⟨M1, p, ⟨κs, πs, row, z1⟩, f⟩
  have o : ∀ B x y, mz x y H → oR (d + 1 + 13) 270 [.ref 67, .int a1, .int (on1 (!decide (a2 = 0)))] B x y (ho_power H a1 (!decide (a2 = 0))) := fun B x y z => o_power (d := d + 7) z a1 (!decide (a2 = 0)) (fun k hk _ => (q.k k hk).s.I (q.b.f k hk) (by decide)) (fun k hk _ => ((q.k k hk).s.wake (by have := q.f; omega) (by decide)).len)
  obtain ⟨M1, M2, p1, p2, m0, m67, L2⟩ := L.step (d := d + 1) c o (hi_power q.i hn4 a1 (!decide (a2 = 0)))
  exact ⟨M2, _, L2, lc_power (by omega) h1 h2 L.a hy (by rw [z.ob]; rfl) p1 m0 m67 p2⟩
theorem st_c_press {a1 : Int32} (L : LI ys n M H) (hn : n ≤ 63) (hy : ys.length ≤ 640) (h1 : ys[10 * n + 1]? = some a1) : ∃ M2 H2, LI ys (n + 1) M2 H2 ∧ ∀ r, mj_Rn (d + 14) mj_m380 1525 (lL n) [] M2 = some r → mj_Rn (d + 14) mj_m380 410 (lL n) [] M = some r := by
  have q := L.q hn
  have hn4 : n ≤ 64 := by omega
  obtain ⟨κs, πs, row, z⟩ := L.h
  have c : cR (d + 1 + 13) 71 [.ref 25, .int a1] M (ho_press H a1) := by
    obtain ⟨M1, p, z1, f⟩ := h_press (d := d + 12) (i := a1) z  (fun k hk => (q.k k hk).w)
    exact ⟨M1, p, ⟨κs, πs, row, z1⟩, f⟩
  have o : ∀ B x y, mz x y H → oR (d + 1 + 13) 272 [.ref 67, .int a1] B x y (ho_press H a1) := fun B x y z => o_press (d := d + 12) z a1 (fun k hk => (q.k k hk).w)
  obtain ⟨M1, M2, p1, p2, m0, m67, L2⟩ := L.step (d := d + 1) c o (hi_press q.i  a1)
  exact ⟨M2, _, L2, lc_press (by omega) h1 L.a hy (by rw [z.ob]; rfl) p1 m0 m67 p2⟩
theorem st_c_cut {a1 a2 : Int32} (L : LI ys n M H) (hn : n ≤ 63) (hy : ys.length ≤ 640) (h1 : ys[10 * n + 1]? = some a1) (h2 : ys[10 * n + 2]? = some a2) : ∃ M2 H2, LI ys (n + 1) M2 H2 ∧ ∀ r, mj_Rn (d + 14) mj_m380 1525 (lL n) [] M2 = some r → mj_Rn (d + 14) mj_m380 433 (lL n) [] M = some r := by
  have q := L.q hn
  have hn4 : n ≤ 64 := by omega
  obtain ⟨κs, πs, row, z⟩ := L.h
  have c : cR (d + 1 + 13) 73 [.ref 25, .int a1, .int a2] M (ho_cut H a1 a2) := by
    obtain ⟨M1, p, z1, f⟩ := h_cut (d := d + 12) (i := a1) z a2 
    exact ⟨M1, p, ⟨κs, πs, row, z1⟩, f⟩
  have o : ∀ B x y, mz x y H → oR (d + 1 + 13) 273 [.ref 67, .int a1, .int a2] B x y (ho_cut H a1 a2) := fun B x y z => o_cut (d := d + 12) z a1 a2 
  obtain ⟨M1, M2, p1, p2, m0, m67, L2⟩ := L.step (d := d + 1) c o (hi_cut q.i  a1 a2)
  exact ⟨M2, _, L2, lc_cut (by omega) h1 h2 L.a hy (by rw [z.ob]; rfl) p1 m0 m67 p2⟩
theorem st_c_command {a1 a2 : Int32} (L : LI ys n M H) (hn : n ≤ 63) (hy : ys.length ≤ 640) (h1 : ys[10 * n + 1]? = some a1) (h2 : ys[10 * n + 2]? = some a2) : ∃ M2 H2, LI ys (n + 1) M2 H2 ∧ ∀ r, mj_Rn (d + 14) mj_m380 1525 (lL n) [] M2 = some r → mj_Rn (d + 14) mj_m380 466 (lL n) [] M = some r := by
  have q := L.q hn
  have hn4 : n ≤ 64 := by omega
  obtain ⟨κs, πs, row, z⟩ := L.h
  have c : cR (d + 1 + 13) 75 [.ref 25, .int a1, .int a2] M (ho_command H a1 a2) := by
    obtain ⟨M1, row1, p, z1, f⟩ := h_command (d := d + 1) (i := a1) z a2 q.g (by have := q.f; omega)
    exact ⟨M1, p, ⟨κs, πs, row1, z1⟩, f⟩
  have o : ∀ B x y, mz x y H → oR (d + 1 + 13) 274 [.ref 67, .int a1, .int a2] B x y (ho_command H a1 a2) := fun B x y z => o_command (d := d + 3) (g := 0) z a1 a2 q.b.t q.cm (q.t hn).k8 (q.t hn).k9 (by have := q.f; omega) (fun ms k hk => by rw [recv_fl]; exact (q.k k hk).s.len)
  obtain ⟨M1, M2, p1, p2, m0, m67, L2⟩ := L.step (d := d + 1) c o (hi_command q.i q.b hn4 a1 a2)
  exact ⟨M2, _, L2, lc_command (by omega) h1 h2 L.a hy (by rw [z.ob]; rfl) p1 m0 m67 p2⟩
theorem st_c_answer {a1 a2 : Int32} (L : LI ys n M H) (hn : n ≤ 63) (hy : ys.length ≤ 640) (h1 : ys[10 * n + 1]? = some a1) (h2 : ys[10 * n + 2]? = some a2) : ∃ M2 H2, LI ys (n + 1) M2 H2 ∧ ∀ r, mj_Rn (d + 14) mj_m380 1525 (lL n) [] M2 = some r → mj_Rn (d + 14) mj_m380 499 (lL n) [] M = some r := by
  have q := L.q hn
  have hn4 : n ≤ 64 := by omega
  obtain ⟨κs, πs, row, z⟩ := L.h
  have c : cR (d + 1 + 13) 158 [.ref 25, .int a1, .int a2] M (ho_answer H a1 a2) := by
    exact cR.mk0 z (h_answer (d := d + 12) (i := a1) z a2 ) (an_2 ..)
  have o : ∀ B x y, mz x y H → oR (d + 1 + 13) 330 [.ref 67, .int a1, .int a2] B x y (ho_answer H a1 a2) := fun B x y z => o_answer (d := d + 12) z a1 a2 
  obtain ⟨M1, M2, p1, p2, m0, m67, L2⟩ := L.step (d := d + 1) c o (hi_answer q.i  a1 a2)
  exact ⟨M2, _, L2, lc_answer (by omega) h1 h2 L.a hy (by rw [z.ob]; rfl) p1 m0 m67 p2⟩
theorem st_c_take {a1 : Int32} (L : LI ys n M H) (hn : n ≤ 63) (hy : ys.length ≤ 640) (h1 : ys[10 * n + 1]? = some a1) : ∃ M2 H2, LI ys (n + 1) M2 H2 ∧ ∀ r, mj_Rn (d + 14) mj_m380 1525 (lL n) [] M2 = some r → mj_Rn (d + 14) mj_m380 532 (lL n) [] M = some r := by
  have q := L.q hn
  have hn4 : n ≤ 64 := by omega
  obtain ⟨κs, πs, row, z⟩ := L.h
  have c : cR (d + 1 + 13) 159 [.ref 25, .int a1] M (ho_take H a1) := by
    obtain ⟨M1, p, z1, f⟩ := h_take (d := d + 11) (i := a1) z  
    exact ⟨M1, p, ⟨κs, πs, row, z1⟩, f⟩
  have o : ∀ B x y, mz x y H → oR (d + 1 + 13) 331 [.ref 67, .int a1] B x y (ho_take H a1) := fun B x y z => o_take (d := d + 12) z a1 
  obtain ⟨M1, M2, p1, p2, m0, m67, L2⟩ := L.step (d := d + 1) c o (hi_take q.i  a1)
  exact ⟨M2, _, L2, lc_take (by omega) h1 L.a hy (by rw [z.ob]; rfl) p1 m0 m67 p2⟩
theorem st_c_flash {a1 a2 : Int32} (L : LI ys n M H) (hn : n ≤ 63) (hy : ys.length ≤ 640) (h1 : ys[10 * n + 1]? = some a1) (h2 : ys[10 * n + 2]? = some a2) : ∃ M2 H2, LI ys (n + 1) M2 H2 ∧ ∀ r, mj_Rn (d + 14) mj_m380 1525 (lL n) [] M2 = some r → mj_Rn (d + 14) mj_m380 555 (lL n) [] M = some r := by
  have q := L.q hn
  have hn4 : n ≤ 64 := by omega
  obtain ⟨κs, πs, row, z⟩ := L.h
  have c : cR (d + 1 + 13) 160 [.ref 25, .int a1, .int a2] M (ho_flash H a1 a2) := by
    exact cR.mk0 z (h_flash (d := d + 12) (i := a1) z a2 ) (fl_2 ..)
  have o : ∀ B x y, mz x y H → oR (d + 1 + 13) 332 [.ref 67, .int a1, .int a2] B x y (ho_flash H a1 a2) := fun B x y z => o_flash (d := d + 12) z a1 a2 
  obtain ⟨M1, M2, p1, p2, m0, m67, L2⟩ := L.step (d := d + 1) c o (hi_flash q.i  a1 a2)
  exact ⟨M2, _, L2, lc_flash (by omega) h1 h2 L.a hy (by rw [z.ob]; rfl) p1 m0 m67 p2⟩
theorem st_c_told {a1 a2 : Int32} (L : LI ys n M H) (hn : n ≤ 63) (hy : ys.length ≤ 640) (h1 : ys[10 * n + 1]? = some a1) (h2 : ys[10 * n + 2]? = some a2) : ∃ M2 H2, LI ys (n + 1) M2 H2 ∧ ∀ r, mj_Rn (d + 14) mj_m380 1525 (lL n) [] M2 = some r → mj_Rn (d + 14) mj_m380 588 (lL n) [] M = some r := by
  have q := L.q hn
  have hn4 : n ≤ 64 := by omega
  obtain ⟨κs, πs, row, z⟩ := L.h
  have c : cR (d + 1 + 13) 161 [.ref 25, .int a1, .int a2] M (ho_told H a1 a2) := by
    exact cR.mk0 z (h_told (d := d + 12) (i := a1) z a2 ) (to_2 ..)
  have o : ∀ B x y, mz x y H → oR (d + 1 + 13) 333 [.ref 67, .int a1, .int a2] B x y (ho_told H a1 a2) := fun B x y z => o_told (d := d + 12) z a1 a2 
  obtain ⟨M1, M2, p1, p2, m0, m67, L2⟩ := L.step (d := d + 1) c o (hi_told q.i  a1 a2)
  exact ⟨M2, _, L2, lc_told (by omega) h1 h2 L.a hy (by rw [z.ob]; rfl) p1 m0 m67 p2⟩
theorem st_c_credential {a1 a2 a3 : Int32} (L : LI ys n M H) (hn : n ≤ 63) (hy : ys.length ≤ 640) (h1 : ys[10 * n + 1]? = some a1) (h2 : ys[10 * n + 2]? = some a2) (h3 : ys[10 * n + 3]? = some a3) : ∃ M2 H2, LI ys (n + 1) M2 H2 ∧ ∀ r, mj_Rn (d + 14) mj_m380 1525 (lL n) [] M2 = some r → mj_Rn (d + 14) mj_m380 621 (lL n) [] M = some r := by
  have q := L.q hn
  have hn4 : n ≤ 64 := by omega
  obtain ⟨κs, πs, row, z⟩ := L.h
  have c : cR (d + 1 + 13) 164 [.ref 25, .int a1, .int a2, .int a3] M (ho_credential H a1 a2 a3) := by
    exact cR.mk0 z (h_credential (d := d + 11) (i := a1) z a2 a3 (fun k hk => (q.k k hk).s.m.u)) (cr_2 ..)
  have o : ∀ B x y, mz x y H → oR (d + 1 + 13) 334 [.ref 67, .int a1, .int a2, .int a3] B x y (ho_credential H a1 a2 a3) := fun B x y z => o_credential (d := d + 12) z a1 a2 a3 (fun k hk => by have := (q.k k hk).s.m.six; omega)
  obtain ⟨M1, M2, p1, p2, m0, m67, L2⟩ := L.step (d := d + 1) c o (hi_credential q.i  a1 a2 a3)
  exact ⟨M2, _, L2, lc_credential (by omega) h1 h2 h3 L.a hy (by rw [z.ob]; rfl) p1 m0 m67 p2⟩
theorem st_c_own {a1 : Int32} (L : LI ys n M H) (hn : n ≤ 63) (hy : ys.length ≤ 640) (h1 : ys[10 * n + 1]? = some a1) : ∃ M2 H2, LI ys (n + 1) M2 H2 ∧ ∀ r, mj_Rn (d + 14) mj_m380 1525 (lL n) [] M2 = some r → mj_Rn (d + 14) mj_m380 664 (lL n) [] M = some r := by
  have q := L.q hn
  have hn4 : n ≤ 64 := by omega
  obtain ⟨κs, πs, row, z⟩ := L.h
  have c : cR (d + 1 + 13) 167 [.ref 25, .int a1] M (ho_own H a1) := by
    obtain ⟨M1, row1, p, z1, f⟩ := h_own (d := d + 7) (i := a1) z  (by have := q.f; omega)
    exact ⟨M1, p, ⟨κs, πs, row1, z1⟩, f⟩
  have o : ∀ B x y, mz x y H → oR (d + 1 + 13) 335 [.ref 67, .int a1] B x y (ho_own H a1) := fun B x y z => o_own (d := d + 9) z a1 (by have := q.f; omega)
  obtain ⟨M1, M2, p1, p2, m0, m67, L2⟩ := L.step (d := d + 1) c o (hi_own q.i hn4 a1)
  exact ⟨M2, _, L2, lc_own (by omega) h1 L.a hy (by rw [z.ob]; rfl) p1 m0 m67 p2⟩
theorem st_c_agree {a1 a2 : Int32} (L : LI ys n M H) (hn : n ≤ 63) (hy : ys.length ≤ 640) (h1 : ys[10 * n + 1]? = some a1) (h2 : ys[10 * n + 2]? = some a2) : ∃ M2 H2, LI ys (n + 1) M2 H2 ∧ ∀ r, mj_Rn (d + 14) mj_m380 1525 (lL n) [] M2 = some r → mj_Rn (d + 14) mj_m380 687 (lL n) [] M = some r := by
  have q := L.q hn
  have hn4 : n ≤ 64 := by omega
  obtain ⟨κs, πs, row, z⟩ := L.h
  have c : cR (d + 1 + 13) 170 [.ref 25, .int a1, .int a2] M (ho_agree H a1 a2) := by
    obtain ⟨M1, row1, p, z1, f⟩ := h_agree (d := d + 8) (i := a1) z a2 (by have := q.f; omega)
    exact ⟨M1, p, ⟨κs, πs, row1, z1⟩, f⟩
  have o : ∀ B x y, mz x y H → oR (d + 1 + 13) 337 [.ref 67, .int a1, .int a2] B x y (ho_agree H a1 a2) := fun B x y z => o_agree (d := d + 10) z a1 a2 (q.t hn).k8 (q.t hn).k9 (by have := q.f; omega)
  obtain ⟨M1, M2, p1, p2, m0, m67, L2⟩ := L.step (d := d + 1) c o (hi_agree q.i  a1 a2)
  exact ⟨M2, _, L2, lc_agree (by omega) h1 h2 L.a hy (by rw [z.ob]; rfl) p1 m0 m67 p2⟩
theorem st_c_seal {a1 a2 a3 : Int32} (L : LI ys n M H) (hn : n ≤ 63) (hy : ys.length ≤ 640) (h1 : ys[10 * n + 1]? = some a1) (h2 : ys[10 * n + 2]? = some a2) (h3 : ys[10 * n + 3]? = some a3) : ∃ M2 H2, LI ys (n + 1) M2 H2 ∧ ∀ r, mj_Rn (d + 14) mj_m380 1525 (lL n) [] M2 = some r → mj_Rn (d + 14) mj_m380 720 (lL n) [] M = some r := by
  have q := L.q hn
  have hn4 : n ≤ 64 := by omega
  obtain ⟨κs, πs, row, z⟩ := L.h
  have c : cR (d + 1 + 13) 172 [.ref 25, .int a1, .int a2, .int a3] M (ho_seal H a1 a2 a3) := by
    obtain ⟨M1, row1, p, z1, f⟩ := h_seal (d := d + 9) (i := a1) z a2 a3 (by have := q.f; omega)
    exact ⟨M1, p, ⟨κs, πs, row1, z1⟩, f⟩
  have o : ∀ B x y, mz x y H → oR (d + 1 + 13) 338 [.ref 67, .int a1, .int a2, .int a3] B x y (ho_seal H a1 a2 a3) := fun B x y z => o_seal (d := d + 10) z a1 a2 a3 (by have := q.f; omega)
  obtain ⟨M1, M2, p1, p2, m0, m67, L2⟩ := L.step (d := d + 1) c o (hi_seal q.i q.b a1 a2 a3)
  exact ⟨M2, _, L2, lc_seal (by omega) h1 h2 h3 L.a hy (by rw [z.ob]; rfl) p1 m0 m67 p2⟩
theorem st_c_open {a1 a2 : Int32} (L : LI ys n M H) (hn : n ≤ 63) (hy : ys.length ≤ 640) (h1 : ys[10 * n + 1]? = some a1) (h2 : ys[10 * n + 2]? = some a2) : ∃ M2 H2, LI ys (n + 1) M2 H2 ∧ ∀ r, mj_Rn (d + 14) mj_m380 1525 (lL n) [] M2 = some r → mj_Rn (d + 14) mj_m380 763 (lL n) [] M = some r := by
  have q := L.q hn
  have hn4 : n ≤ 64 := by omega
  obtain ⟨κs, πs, row, z⟩ := L.h
  have c : cR (d + 1 + 13) 175 [.ref 25, .int a1, .int a2] M (ho_open H a1 a2) := by
    obtain ⟨M1, p, z1, f⟩ := h_open (d := d + 11) (i := a1) z a2 (q.t hn).e402
    exact ⟨M1, p, ⟨κs, πs, row, z1⟩, f⟩
  have o : ∀ B x y, mz x y H → oR (d + 1 + 13) 339 [.ref 67, .int a1, .int a2] B x y (ho_open H a1 a2) := fun B x y z => o_open (d := d + 12) z a1 a2 (q.t hn).k8 (q.t hn).o402
  obtain ⟨M1, M2, p1, p2, m0, m67, L2⟩ := L.step (d := d + 1) c o (hi_open q.i  a1 a2)
  exact ⟨M2, _, L2, lc_open (by omega) h1 h2 L.a hy (by rw [z.ob]; rfl) p1 m0 m67 p2⟩
theorem st_c_token {a1 a2 : Int32} (L : LI ys n M H) (hn : n ≤ 63) (hy : ys.length ≤ 640) (h1 : ys[10 * n + 1]? = some a1) (h2 : ys[10 * n + 2]? = some a2) : ∃ M2 H2, LI ys (n + 1) M2 H2 ∧ ∀ r, mj_Rn (d + 14) mj_m380 1525 (lL n) [] M2 = some r → mj_Rn (d + 14) mj_m380 796 (lL n) [] M = some r := by
  have q := L.q hn
  have hn4 : n ≤ 64 := by omega
  obtain ⟨κs, πs, row, z⟩ := L.h
  have c : cR (d + 1 + 13) 176 [.ref 25, .int a1, .int a2] M (ho_token H a1 a2) := by
    obtain ⟨M1, p, z1, f⟩ := h_token (d := d + 10) (i := a1) z a2 
    exact ⟨M1, p, ⟨κs, πs, row, z1⟩, f⟩
  have o : ∀ B x y, mz x y H → oR (d + 1 + 13) 340 [.ref 67, .int a1, .int a2] B x y (ho_token H a1 a2) := fun B x y z => o_token (d := d + 12) z a1 a2 (q.t hn).k8
  obtain ⟨M1, M2, p1, p2, m0, m67, L2⟩ := L.step (d := d + 1) c o (hi_token q.i  a1 a2)
  exact ⟨M2, _, L2, lc_token (by omega) h1 h2 L.a hy (by rw [z.ob]; rfl) p1 m0 m67 p2⟩
theorem st_c_pin {a1 a2 : Int32} (L : LI ys n M H) (hn : n ≤ 63) (hy : ys.length ≤ 640) (h1 : ys[10 * n + 1]? = some a1) (h2 : ys[10 * n + 2]? = some a2) : ∃ M2 H2, LI ys (n + 1) M2 H2 ∧ ∀ r, mj_Rn (d + 14) mj_m380 1525 (lL n) [] M2 = some r → mj_Rn (d + 14) mj_m380 829 (lL n) [] M = some r := by
  have q := L.q hn
  have hn4 : n ≤ 64 := by omega
  obtain ⟨κs, πs, row, z⟩ := L.h
  have c : cR (d + 1 + 13) 178 [.ref 25, .int a1, .int a2] M (ho_pin H a1 a2) := by
    obtain ⟨M1, p, z1, f⟩ := h_pin (d := d + 11) (i := a1) z a2 
    exact ⟨M1, p, ⟨κs, πs, row, z1⟩, f⟩
  have o : ∀ B x y, mz x y H → oR (d + 1 + 13) 341 [.ref 67, .int a1, .int a2] B x y (ho_pin H a1 a2) := fun B x y z => o_pin (d := d + 12) z a1 a2 
  obtain ⟨M1, M2, p1, p2, m0, m67, L2⟩ := L.step (d := d + 1) c o (hi_pin q.i  a1 a2)
  exact ⟨M2, _, L2, lc_pin (by omega) h1 h2 L.a hy (by rw [z.ob]; rfl) p1 m0 m67 p2⟩
theorem st_c_page {a1 a2 : Int32} (L : LI ys n M H) (hn : n ≤ 63) (hy : ys.length ≤ 640) (h1 : ys[10 * n + 1]? = some a1) (h2 : ys[10 * n + 2]? = some a2) : ∃ M2 H2, LI ys (n + 1) M2 H2 ∧ ∀ r, mj_Rn (d + 14) mj_m380 1525 (lL n) [] M2 = some r → mj_Rn (d + 14) mj_m380 862 (lL n) [] M = some r := by
  have q := L.q hn
  have hn4 : n ≤ 64 := by omega
  obtain ⟨κs, πs, row, z⟩ := L.h
  have c : cR (d + 1 + 13) 179 [.ref 25, .int a1, .int a2] M (ho_page H a1 a2) := by
    obtain ⟨M1, p, z1, f⟩ := h_page (d := d + 11) (i := a1) z a2 
    exact ⟨M1, p, ⟨κs, πs, row, z1⟩, f⟩
  have o : ∀ B x y, mz x y H → oR (d + 1 + 13) 342 [.ref 67, .int a1, .int a2] B x y (ho_page H a1 a2) := fun B x y z => o_page (d := d + 12) z a1 a2 
  obtain ⟨M1, M2, p1, p2, m0, m67, L2⟩ := L.step (d := d + 1) c o (hi_page q.i  a1 a2)
  exact ⟨M2, _, L2, lc_page (by omega) h1 h2 L.a hy (by rw [z.ob]; rfl) p1 m0 m67 p2⟩
theorem st_c_setPin {a1 a2 : Int32} (L : LI ys n M H) (hn : n ≤ 63) (hy : ys.length ≤ 640) (h1 : ys[10 * n + 1]? = some a1) (h2 : ys[10 * n + 2]? = some a2) : ∃ M2 H2, LI ys (n + 1) M2 H2 ∧ ∀ r, mj_Rn (d + 14) mj_m380 1525 (lL n) [] M2 = some r → mj_Rn (d + 14) mj_m380 895 (lL n) [] M = some r := by
  have q := L.q hn
  have hn4 : n ≤ 64 := by omega
  obtain ⟨κs, πs, row, z⟩ := L.h
  have c : cR (d + 1 + 13) 180 [.ref 25, .int a1, .int a2] M (ho_setPin H a1 a2) := by
    obtain ⟨M1, row1, p, z1, f⟩ := h_setPin (d := d + 1) (i := a1) (l := a2) z  q.g (by have := q.f; omega)
    exact ⟨M1, p, ⟨κs, πs, row1, z1⟩, f⟩
  have o : ∀ B x y, mz x y H → oR (d + 1 + 13) 343 [.ref 67, .int a1, .int a2] B x y (ho_setPin H a1 a2) := fun B x y z => o_setPin (d := d + 1) (g := 0) z a1 a2 (q.ag hn) (fun h hh k hk h0 => sp_I h0 (q.t hn) (by decide) (q.k k hk) (by decide) (q.b.p h hh))
  obtain ⟨M1, M2, p1, p2, m0, m67, L2⟩ := L.step (d := d + 1) c o (hi_setPin q.i q.b hn4 a1 a2)
  exact ⟨M2, _, L2, lc_setPin (by omega) h1 h2 L.a hy (by rw [z.ob]; rfl) p1 m0 m67 p2⟩
theorem st_c_changePin {a1 a2 a3 : Int32} (L : LI ys n M H) (hn : n ≤ 63) (hy : ys.length ≤ 640) (h1 : ys[10 * n + 1]? = some a1) (h2 : ys[10 * n + 2]? = some a2) (h3 : ys[10 * n + 3]? = some a3) : ∃ M2 H2, LI ys (n + 1) M2 H2 ∧ ∀ r, mj_Rn (d + 14) mj_m380 1525 (lL n) [] M2 = some r → mj_Rn (d + 14) mj_m380 928 (lL n) [] M = some r := by
  have q := L.q hn
  have hn4 : n ≤ 64 := by omega
  obtain ⟨κs, πs, row, z⟩ := L.h
  have c : cR (d + 1 + 13) 186 [.ref 25, .int a1, .int a2, .int a3] M (ho_changePin H a1 a2 a3) := by
    obtain ⟨M1, row1, p, z1, f⟩ := h_changePin (d := d + 1) (i := a1) (l := a2) z a3 q.g (by have := q.f; omega)
    exact ⟨M1, p, ⟨κs, πs, row1, z1⟩, f⟩
  have o : ∀ B x y, mz x y H → oR (d + 1 + 13) 352 [.ref 67, .int a1, .int a2, .int a3] B x y (ho_changePin H a1 a2 a3) := fun B x y z => o_changePin (d := d + 1) (g := 0) z a1 a2 a3 (q.ag hn) (fun h hh k hk h0 c hc => cp_I h0 (q.t hn) (by decide) (q.k k hk) (by decide) ⟨by rw [List.length_take]; omega, fun v hv => q.b.t v (List.mem_of_mem_take hv)⟩)
  obtain ⟨M1, M2, p1, p2, m0, m67, L2⟩ := L.step (d := d + 1) c o (hi_changePin q.i q.b hn4 a1 a2 a3)
  exact ⟨M2, _, L2, lc_changePin (by omega) h1 h2 h3 L.a hy (by rw [z.ob]; rfl) p1 m0 m67 p2⟩
theorem st_c_unlock {a1 a2 : Int32} (L : LI ys n M H) (hn : n ≤ 63) (hy : ys.length ≤ 640) (h1 : ys[10 * n + 1]? = some a1) (h2 : ys[10 * n + 2]? = some a2) : ∃ M2 H2, LI ys (n + 1) M2 H2 ∧ ∀ r, mj_Rn (d + 14) mj_m380 1525 (lL n) [] M2 = some r → mj_Rn (d + 14) mj_m380 971 (lL n) [] M = some r := by
  have q := L.q hn
  have hn4 : n ≤ 64 := by omega
  obtain ⟨κs, πs, row, z⟩ := L.h
  have c : cR (d + 1 + 13) 188 [.ref 25, .int a1, .int a2] M (ho_unlock H a1 a2) := by
    obtain ⟨M1, row1, p, z1, f⟩ := h_unlock (d := d + 1) (i := a1) (l := a2) z  q.g (by have := q.f; omega)
    exact ⟨M1, p, ⟨κs, πs, row1, z1⟩, f⟩
  have o : ∀ B x y, mz x y H → oR (d + 1 + 13) 354 [.ref 67, .int a1, .int a2] B x y (ho_unlock H a1 a2) := fun B x y z => o_unlock (d := d + 1) (g := 0) z a1 a2 (q.ag hn) (fun h hh k hk h0 => ul_I h0 (q.t hn) (by decide) (q.k k hk) (by decide))
  obtain ⟨M1, M2, p1, p2, m0, m67, L2⟩ := L.step (d := d + 1) c o (hi_unlock q.i hn4 a1 a2)
  exact ⟨M2, _, L2, lc_unlock (by omega) h1 h2 L.a hy (by rw [z.ob]; rfl) p1 m0 m67 p2⟩
theorem st_c_create {a1 a2 a3 a4 a5 a6 a7 a8 a9 : Int32} (L : LI ys n M H) (hn : n ≤ 63) (hy : ys.length ≤ 640) (h1 : ys[10 * n + 1]? = some a1) (h2 : ys[10 * n + 2]? = some a2) (h3 : ys[10 * n + 3]? = some a3) (h4 : ys[10 * n + 4]? = some a4) (h5 : ys[10 * n + 5]? = some a5) (h6 : ys[10 * n + 6]? = some a6) (h7 : ys[10 * n + 7]? = some a7) (h8 : ys[10 * n + 8]? = some a8) (h9 : ys[10 * n + 9]? = some a9) : ∃ M2 H2, LI ys (n + 1) M2 H2 ∧ ∀ r, mj_Rn (d + 14) mj_m380 1525 (lL n) [] M2 = some r → mj_Rn (d + 14) mj_m380 1004 (lL n) [] M = some r := by
  have q := L.q hn
  have hn4 : n ≤ 64 := by omega
  obtain ⟨κs, πs, row, z⟩ := L.h
  have c : cR (d + 1 + 13) 189 [.ref 25, .int a1, .int a2, .int a3, .int a4, .long (ln2 a5 a6), .int a7, .int a8, .int a9] M (ho_create H a1 a2 a3 a4 (ln2 a5 a6) a7 a8 a9) := by
    obtain ⟨M1, row1, p, z1, f⟩ := h_create (d := d + 1) (i := a1) (l := a2) z a3 a4 (ln2 a5 a6) a7 a8 a9 q.g (by have := q.f; omega) q.oa
    exact ⟨M1, p, ⟨κs, πs, row1, z1⟩, f⟩
  have o : ∀ B x y, mz x y H → oR (d + 1 + 13) 355 [.ref 67, .int a1, .int a2, .int a3, .int a4, .long (ln2 a5 a6), .int a7, .int a8, .int a9] B x y (ho_create H a1 a2 a3 a4 (ln2 a5 a6) a7 a8 a9) := fun B x y z => o_create (d := d + 2) (g := 0) z a1 a2 a3 a4 (ln2 a5 a6) a7 a8 a9 q.b.t (by have := q.f; omega) (fun h hh k hk c nm u L how => q.sk hn hk h 1 c how (Or.inl (mkM_1 ..)))
  obtain ⟨M1, M2, p1, p2, m0, m67, L2⟩ := L.step (d := d + 1) c o (hi_create q.i q.b hn4 a1 a2 a3 a4 (ln2 a5 a6) a7 a8 a9)
  exact ⟨M2, _, L2, lc_create (by omega) h1 h2 h3 h4 h5 h6 h7 h8 h9 L.a hy (by rw [z.ob]; rfl) p1 m0 m67 p2⟩
theorem st_c_get {a1 a2 a3 a4 a5 a6 a7 a8 a9 : Int32} (L : LI ys n M H) (hn : n ≤ 63) (hy : ys.length ≤ 640) (h1 : ys[10 * n + 1]? = some a1) (h2 : ys[10 * n + 2]? = some a2) (h3 : ys[10 * n + 3]? = some a3) (h4 : ys[10 * n + 4]? = some a4) (h5 : ys[10 * n + 5]? = some a5) (h6 : ys[10 * n + 6]? = some a6) (h7 : ys[10 * n + 7]? = some a7) (h8 : ys[10 * n + 8]? = some a8) (h9 : ys[10 * n + 9]? = some a9) : ∃ M2 H2, LI ys (n + 1) M2 H2 ∧ ∀ r, mj_Rn (d + 14) mj_m380 1525 (lL n) [] M2 = some r → mj_Rn (d + 14) mj_m380 1135 (lL n) [] M = some r := by
  have q := L.q hn
  have hn4 : n ≤ 64 := by omega
  obtain ⟨κs, πs, row, z⟩ := L.h
  have c : cR (d + 1 + 13) 208 [.ref 25, .int a1, .int a2, .int a3, .int a4, .long (ln2 a5 a6), .int a7, .int a8, .int a9] M (ho_get H a1 a2 a3 a4 (ln2 a5 a6) a7 a8 a9) := by
    obtain ⟨M1, row1, p, z1, f⟩ := h_get (d := d + 1) (i := a1) (l := a2) z a3 a4 (ln2 a5 a6) a7 a8 a9 q.g (by have := q.f; omega) q.oa
    exact ⟨M1, p, ⟨κs, πs, row1, z1⟩, f⟩
  have o : ∀ B x y, mz x y H → oR (d + 1 + 13) 367 [.ref 67, .int a1, .int a2, .int a3, .int a4, .long (ln2 a5 a6), .int a7, .int a8, .int a9] B x y (ho_get H a1 a2 a3 a4 (ln2 a5 a6) a7 a8 a9) := fun B x y z => o_get (d := d + 2) (g := 0) z a1 a2 a3 a4 (ln2 a5 a6) a7 a8 a9 q.b.t (by have := q.f; omega) (fun h hh k hk c nm L how => q.sk hn hk h 2 c how (Or.inr (Or.inl (sgM_1 ..)))) (fun k hk => sk_I (q.t hn) (by decide) (q.k k hk) (by decide) (Or.inr (Or.inr rfl)))
  obtain ⟨M1, M2, p1, p2, m0, m67, L2⟩ := L.step (d := d + 1) c o (hi_get q.i q.b hn4 a1 a2 a3 a4 (ln2 a5 a6) a7 a8 a9)
  exact ⟨M2, _, L2, lc_get (by omega) h1 h2 h3 h4 h5 h6 h7 h8 h9 L.a hy (by rw [z.ob]; rfl) p1 m0 m67 p2⟩
theorem st_c_party {a1 a2 : Int32} (L : LI ys n M H) (hn : n ≤ 63) (hy : ys.length ≤ 640) (h1 : ys[10 * n + 1]? = some a1) (h2 : ys[10 * n + 2]? = some a2) : ∃ M2 H2, LI ys (n + 1) M2 H2 ∧ ∀ r, mj_Rn (d + 14) mj_m380 1525 (lL n) [] M2 = some r → mj_Rn (d + 14) mj_m380 1266 (lL n) [] M = some r := by
  have q := L.q hn
  have hn4 : n ≤ 64 := by omega
  obtain ⟨κs, πs, row, z⟩ := L.h
  have c : cR (d + 1 + 13) 210 [.ref 25, .int a1, .int a2] M (ho_party H a1 a2) := by
    obtain ⟨M1, π1, row1, p, z1, f⟩ := h_party (d := d + 10) z a1 a2 
    exact ⟨M1, p, ⟨κs, π1, row1, z1⟩, f⟩
  have o : ∀ B x y, mz x y H → oR (d + 1 + 13) 368 [.ref 67, .int a1, .int a2] B x y (ho_party H a1 a2) := fun B x y z => o_party (d := d + 12) z a1 a2 
  obtain ⟨M1, M2, p1, p2, m0, m67, L2⟩ := L.step (d := d + 1) c o (hi_party q.i  a1 a2)
  exact ⟨M2, _, L2, lc_party (by omega) h1 h2 L.a hy (by rw [z.ob]; rfl) p1 m0 m67 p2⟩
theorem st_c_offer {a1 a2 a3 a4 a5 a6 : Int32} (L : LI ys n M H) (hn : n ≤ 63) (hy : ys.length ≤ 640) (h1 : ys[10 * n + 1]? = some a1) (h2 : ys[10 * n + 2]? = some a2) (h3 : ys[10 * n + 3]? = some a3) (h4 : ys[10 * n + 4]? = some a4) (h5 : ys[10 * n + 5]? = some a5) (h6 : ys[10 * n + 6]? = some a6) : ∃ M2 H2, LI ys (n + 1) M2 H2 ∧ ∀ r, mj_Rn (d + 14) mj_m380 1525 (lL n) [] M2 = some r → mj_Rn (d + 14) mj_m380 1299 (lL n) [] M = some r := by
  have q := L.q hn
  have hn4 : n ≤ 64 := by omega
  obtain ⟨κs, πs, row, z⟩ := L.h
  have c : cR (d + 1 + 13) 214 [.ref 25, .int a1, .long (ln2 a2 a3), .int a4, .int (on1 (!decide (a5 = 0))), .int (on1 (!decide (a6 = 0)))] M (ho_offer H a1 (ln2 a2 a3) a4 (!decide (a5 = 0)) (!decide (a6 = 0))) := by
    obtain ⟨M1, row1, p, z1, f⟩ := h_offer (d := d + 8) (i := a1) z (ln2 a2 a3) a4 (!decide (a5 = 0)) (!decide (a6 = 0)) (by have := q.f; omega)
    exact ⟨M1, p, ⟨κs, πs, row1, z1⟩, f⟩
  have o : ∀ B x y, mz x y H → oR (d + 1 + 13) 369 [.ref 67, .int a1, .long (ln2 a2 a3), .int a4, .int (on1 (!decide (a5 = 0))), .int (on1 (!decide (a6 = 0)))] B x y (ho_offer H a1 (ln2 a2 a3) a4 (!decide (a5 = 0)) (!decide (a6 = 0))) := fun B x y z => o_offer (d := d + 9) z a1 (ln2 a2 a3) a4 (!decide (a5 = 0)) (!decide (a6 = 0)) (by have := q.f; omega)
  obtain ⟨M1, M2, p1, p2, m0, m67, L2⟩ := L.step (d := d + 1) c o (hi_offer q.i  a1 (ln2 a2 a3) a4 (!decide (a5 = 0)) (!decide (a6 = 0)))
  exact ⟨M2, _, L2, lc_offer (by omega) h1 h2 h3 h4 h5 h6 L.a hy (by rw [z.ob]; rfl) p1 m0 m67 p2⟩
theorem st_c_judge {a1 a2 : Int32} (L : LI ys n M H) (hn : n ≤ 63) (hy : ys.length ≤ 640) (h1 : ys[10 * n + 1]? = some a1) (h2 : ys[10 * n + 2]? = some a2) : ∃ M2 H2, LI ys (n + 1) M2 H2 ∧ ∀ r, mj_Rn (d + 14) mj_m380 1525 (lL n) [] M2 = some r → mj_Rn (d + 14) mj_m380 1426 (lL n) [] M = some r := by
  have q := L.q hn
  have hn4 : n ≤ 64 := by omega
  obtain ⟨κs, πs, row, z⟩ := L.h
  have c : cR (d + 1 + 13) 216 [.ref 25, .int a1, .int a2] M (ho_judge H a1 a2) := by
    obtain ⟨M1, row1, p, z1, f⟩ := h_judge (d := d + 7) (i := a1) z a2 (fun p hp => (q.i.p p hp).1)
    exact ⟨M1, p, ⟨κs, πs, row1, z1⟩, f⟩
  have o : ∀ B x y, mz x y H → oR (d + 1 + 13) 370 [.ref 67, .int a1, .int a2] B x y (ho_judge H a1 a2) := fun B x y z => o_judge (d := d + 8) z a1 a2 q.b.t (q.t hn).k8 (q.t hn).k9 (fun p hp => (q.i.p p hp).2)
  obtain ⟨M1, M2, p1, p2, m0, m67, L2⟩ := L.step (d := d + 1) c o (hi_judge q.i  a1 a2)
  exact ⟨M2, _, L2, lc_judge (by omega) h1 h2 L.a hy (by rw [z.ob]; rfl) p1 m0 m67 p2⟩
theorem st_c_withdraw {a1 : Int32} (L : LI ys n M H) (hn : n ≤ 63) (hy : ys.length ≤ 640) (h1 : ys[10 * n + 1]? = some a1) : ∃ M2 H2, LI ys (n + 1) M2 H2 ∧ ∀ r, mj_Rn (d + 14) mj_m380 1525 (lL n) [] M2 = some r → mj_Rn (d + 14) mj_m380 1459 (lL n) [] M = some r := by
  have q := L.q hn
  have hn4 : n ≤ 64 := by omega
  obtain ⟨κs, πs, row, z⟩ := L.h
  have c : cR (d + 1 + 13) 227 [.ref 25, .int a1] M (ho_withdraw H a1) := by
    obtain ⟨M1, p, z1, f⟩ := h_withdraw (d := d + 12) (i := a1) z  
    exact ⟨M1, p, ⟨κs, πs, row, z1⟩, f⟩
  have o : ∀ B x y, mz x y H → oR (d + 1 + 13) 378 [.ref 67, .int a1] B x y (ho_withdraw H a1) := fun B x y z => o_withdraw (d := d + 12) z a1 
  obtain ⟨M1, M2, p1, p2, m0, m67, L2⟩ := L.step (d := d + 1) c o (hi_withdraw q.i  a1)
  exact ⟨M2, _, L2, lc_withdraw (by omega) h1 L.a hy (by rw [z.ob]; rfl) p1 m0 m67 p2⟩
theorem st_c_account {a1 a2 a3 : Int32} (L : LI ys n M H) (hn : n ≤ 63) (hy : ys.length ≤ 640) (h1 : ys[10 * n + 1]? = some a1) (h2 : ys[10 * n + 2]? = some a2) (h3 : ys[10 * n + 3]? = some a3) : ∃ M2 H2, LI ys (n + 1) M2 H2 ∧ ∀ r, mj_Rn (d + 14) mj_m380 1525 (lL n) [] M2 = some r → mj_Rn (d + 14) mj_m380 1482 (lL n) [] M = some r := by
  have q := L.q hn
  have hn4 : n ≤ 64 := by omega
  obtain ⟨κs, πs, row, z⟩ := L.h
  have c : cR (d + 1 + 13) 228 [.ref 25, .int a1, .int a2, .int a3] M (ho_account H a1 a2 a3) := by
    exact cR.mk0 z (h_account (d := d + 11) (i := a1) z a2 a3 q.oa) (ac_2 ..)
  have o : ∀ B x y, mz x y H → oR (d + 1 + 13) 379 [.ref 67, .int a1, .int a2, .int a3] B x y (ho_account H a1 a2 a3) := fun B x y z => o_account (d := d + 12) z a1 a2 a3 
  obtain ⟨M1, M2, p1, p2, m0, m67, L2⟩ := L.step (d := d + 1) c o (hi_account q.i  a1 a2 a3)
  exact ⟨M2, _, L2, lc_account (by omega) h1 h2 h3 L.a hy (by rw [z.ob]; rfl) p1 m0 m67 p2⟩
end
end
