/- e6.rep -/
section
set_option maxRecDepth 512
/-! Pure: lengths of flashes and replies. -/
section
variable {n m G N : Nat} {k k' : Ky} {T T' : Tm} {ms : List Int32}
theorem wr_len (r : List Int32) (s : Fl) : (fs_wr r s).1.1.length = s.1.length := by
  unfold fs_wr
  split
  · dsimp only
    split
    · exact (fs_move_all s).1
    · exact (fs_put_all r _).1.trans (fs_move_all s).1
  · exact (fs_put_all r s).1
theorem sw_fl (c : Option Cr) (id party hash flags : Int32) (many : Nat) : (sw k T c id party hash flags many).1.1.1.1.1.1.length = k.1.1.1.1.1.length := by
  unfold sw
  split
  · exact wr_len _ _
  · exact wr_len _ _
theorem pnt_s (o o2 : Option Nat) (hash : Int32) : (pnTest k T ms o o2 hash).2.1.1.1.1 = k.1.1.1.1 := by
  unfold pnTest
  split
  · split
    · rfl
    · exact (tookd k).1
  · split
    · rfl
    · split
      · rfl
      · rfl
theorem make_fl (ms : List Int32) (k : Ky) (T : Tm) : (ky_make ms k T).2.1.1.1.1.1.1.length = k.1.1.1.1.1.length := by
  have tk := (tookd k).1
  unfold ky_make
  split
  · rfl
  · split
    · show (ky_took k).1.1.1.1.1.length = _; rw [tk]
    · split
      · rfl
      · split
        · rfl
        · split
          · show (mk_pin ms k T).2.1.1.1.1.1.length = _
            unfold mk_pin
            split
            · rfl
            · rw [pnt_s]
          · split
            · rfl
            · unfold mk_end
              split
              · split
                · split
                  · show (fs_wr _ (ky_took k).1.1.1.1).1.1.length = _
                    rw [wr_len, tk]
                  · show (fs_wr _ (ky_took k).1.1.1.1).1.1.length = _
                    rw [wr_len, tk]
                · show (ky_took k).1.1.1.1.1.length = _; rw [tk]
              · show (ky_took k).1.1.1.1.1.length = _; rw [tk]
theorem next_fl (k : Ky) (T : Tm) : (ky_next k T).2.1.1.1.1.1.1.length = k.1.1.1.1.1.length := by
  unfold ky_next
  split
  · rfl
  · exact sw_fl _ _ _ _ _ _
theorem sign_fl (ms : List Int32) (k : Ky) (T : Tm) : (ky_sign ms k T).2.1.1.1.1.1.1.length = k.1.1.1.1.1.length := by
  have tk := (tk_s ms k).1
  unfold ky_sign
  split
  · rfl
  · split
    · rfl
    · split
      · show (sg_pin ms k T).2.1.1.1.1.1.length = _
        unfold sg_pin
        split
        · rfl
        · rw [pnt_s]
      · unfold sg_end
        split
        · unfold sg_all
          split
          · rfl
          · split
            · rfl
            · refine (sw_fl _ _ _ _ _ _).trans ?_
              show (sg_tk ms k).1.1.1.1.1.length = _
              rw [tk]
        · unfold sg_list
          split
          · rfl
          · split
            · rfl
            · refine (sw_fl _ _ _ _ _ _).trans ?_
              rw [tk]
theorem newp_fl (ms : List Int32) (k : Ky) (T : Tm) (sh : Int32) : (ky_newPin ms k T sh).2.1.1.1.1.1.1.length = k.1.1.1.1.1.length := by
  unfold ky_newPin
  split
  · exact wr_len _ _
  · rfl
theorem try_fl (ms : List Int32) (k : Ky) (T : Tm) (sh : Int32) : (ky_tryPin ms k T sh).2.1.1.1.1.1.1.length = k.1.1.1.1.1.length := by
  have h1 : (pn_k1 k).1.1.1.1.1.length = k.1.1.1.1.1.length := wr_len _ _
  unfold ky_tryPin
  split
  · exact h1
  · split
    · exact (wr_len _ _).trans h1
    · exact h1
theorem dopin_fl (ms : List Int32) (k : Ky) (T : Tm) : (ky_doPin ms k T).2.1.1.1.1.1.1.length = k.1.1.1.1.1.length := by
  unfold ky_doPin
  split
  · rfl
  · split
    · rfl
    · split
      · rfl
      · unfold pn_late
        by_cases h1 : (if oVn ms (mem ms 2) = 3 then pn_set k else pn_try k) ≠ 0
        · rw [if_pos h1]
        · rw [if_neg h1]
          by_cases h2 : oVn ms (mem ms 2) ≠ 5 ∧ kn_as T (pn_mac (nI (pn_sh k T ms)) ms (decide (oVn ms (mem ms 2) = 4))) (o4 ms (mem ms 4)) = false
          · rw [if_pos h2]
          · rw [if_neg h2]
            by_cases h3 : oVn ms (mem ms 2) = 3
            · rw [if_pos h3]; exact newp_fl _ _ _ _
            · rw [if_neg h3]
              unfold pn_then
              split
              · exact try_fl _ _ _ _
              · split
                · exact (newp_fl _ _ _ _).trans (try_fl _ _ _ _)
                · exact try_fl _ _ _ _
theorem reset_fl (k : Ky) (T : Tm) : (ky_reset k T).2.1.1.1.1.1.1.length = k.1.1.1.1.1.length := by
  unfold ky_reset
  split
  · rfl
  · split
    · rfl
    · split
      · exact (fs_move_all _).1
      · exact (fs_move_all _).1
theorem recv_fl (ms : List Int32) (k : Ky) (T : Tm) : (ky_recv ms k T).2.1.1.1.1.1.1.length = k.1.1.1.1.1.length := by
  unfold ky_recv
  split
  · rfl
  · have h : (ky_r2 ms k T).2.1.1.1.1.1.1.length = k.1.1.1.1.1.length := by
      unfold ky_r2
      split
      · rfl
      · unfold ky_cmd
        split
        · exact make_fl _ _ _
        · split
          · exact sign_fl _ _ _
          · split
            · rfl
            · split
              · exact dopin_fl _ _ _
              · split
                · exact reset_fl _ _
                · exact next_fl _ _
    generalize ky_r2 ms k T = Q at *
    dsimp only
    unfold ky_end
    split
    · exact h
    · split
      · exact h
      · exact h
/-- a signature tells at least so much -/
theorem sw_45 (c : Option Cr) (id party hash flags : Int32) (many : Nat) (hon : (sw k T c id party hash flags many).1.1.1.1.1.2.1 = true) : k.1.1.1.2.length + 44 ≤ (sw k T c id party hash flags many).1.1.1.1.2.length := by
  unfold sw at hon ⊢
  split at hon
  · next hw =>
    rcases fs_wr_onk (rcCount (sw_id c) (sw_cnt k c)) k.1.1.1.1 with q | q
    · rw [hw] at q; cases q.1
    · exact absurd hon (by show ¬ (fs_wr (rcCount (sw_id c) (sw_cnt k c)) k.1.1.1.1).1.2.1 = true; rw [q.2]; decide)
  · next hw =>
    rw [if_neg hw]
    show _ ≤ (k.1.1.1.2 ++ rpSign _ _ _ _ _).length
    rw [List.length_append]
    unfold rpSign
    simp [S_cb_mmade4_0, S_bx_mcan1_0, S_b8_mkey_1, S_b8_mkey_0, S_b1_mterm_0, S_b1_copy_0, S_b0_mod_7, S_b0_mod_6, S_b0_mod_5, S_b0_mod_3, S_b0_mod_2, S_b0_mod_1, S_b0_mod_0, S_cb_mmade4_1h, S_bx_mcan1_1h, S_b0_mod_4h, b4_len, dt9_len]
    omega
theorem make_45 (h0 : (ky_make ms k T).1 = 0) (hon : (ky_make ms k T).2.1.1.1.1.1.2.1 = true) : k.1.1.1.2.length + 44 ≤ (ky_make ms k T).2.1.1.1.1.2.length := by
  have tr := (tookd k).2.1
  unfold ky_make at h0 hon ⊢
  split at h0
  · next h => exact absurd h0 h
  next c1 =>
  rw [if_neg c1] at hon ⊢
  split at h0
  · split at h0 <;> cases h0
  next c2 =>
  rw [if_neg c2] at hon ⊢
  split at h0
  · cases h0
  next c3 =>
  rw [if_neg c3] at hon ⊢
  split at h0
  · cases h0
  next c4 =>
  rw [if_neg c4] at hon ⊢
  split at h0
  · next h => exact absurd h0 h
  next c5 =>
  rw [if_neg c5] at hon ⊢
  split at h0
  · cases h0
  next c6 =>
  rw [if_neg c6] at hon ⊢
  unfold mk_end at h0 hon ⊢
  split at h0
  · next d1 =>
    rw [if_pos d1] at hon ⊢
    split at h0
    · next d2 =>
      rw [if_pos d2] at hon ⊢
      split at h0
      · next d3 =>
        rw [if_pos d3]
        dsimp only
        rw [tl_rep]
        show _ ≤ (ky_took k).1.1.1.2.length + 44
        rw [tr]
        omega
      · next d3 =>
        rw [if_neg d3] at hon
        dsimp only at hon
        rcases fs_wr_onk (bs_cm (ky_took k) T (oBy ms (cbNm ms id_ (mem ms 2))) (oBy ms (cbNm ms id_ (mem ms 3)))).row (ky_took k).1.1.1.1 with q | q
        · exact absurd q.1 d3
        · have e : (bs_k (ky_took k) T (oBy ms (cbNm ms id_ (mem ms 2))) (oBy ms (cbNm ms id_ (mem ms 3)))).1.1.1.1.2.1 = false := q.2
          rw [e] at hon
          cases hon
    · cases h0
  · next d1 =>
    rw [if_neg d1]
    dsimp only
    rw [tl_rep]
    show _ ≤ (ky_took k).1.1.1.2.length + 44
    rw [tr]
    omega
theorem sign_45 (h0 : (ky_sign ms k T).1 = 0) (hon : (ky_sign ms k T).2.1.1.1.1.1.2.1 = true) : k.1.1.1.2.length + 44 ≤ (ky_sign ms k T).2.1.1.1.1.2.length := by
  have tr := (tk_s ms k).2
  unfold ky_sign at h0 hon ⊢
  split at h0
  · next h => exact absurd h0 h
  next c1 =>
  rw [if_neg c1] at hon ⊢
  split at h0
  · cases h0
  next c2 =>
  rw [if_neg c2] at hon ⊢
  split at h0
  · next h => exact absurd h0 h
  next c3 =>
  rw [if_neg c3] at hon ⊢
  unfold sg_end at h0 hon ⊢
  split at h0
  · next d1 =>
    rw [if_pos d1] at hon ⊢
    unfold sg_all at h0 hon ⊢
    cases hj : fs_last k.1.1.1.1.2.2.2.2.2.2.2.2.2.2.2 (sg_party T ms) k.1.1.1.1.2.2.2.2.2.2.2.2.2.2.2.length with
    | none => rw [hj] at h0; cases h0
    | some j =>
      rw [hj] at h0 hon
      dsimp only at h0 hon ⊢
      split at h0
      · cases h0
      · next d2 =>
        rw [if_neg d2] at hon ⊢
        have := sw_45 _ _ _ _ _ _ hon
        refine Nat.le_trans ?_ this
        show _ ≤ (sg_tk ms k).1.1.1.2.length + 44
        rw [tr]
        omega
  · next d1 =>
    rw [if_neg d1] at hon ⊢
    unfold sg_list at h0 hon ⊢
    split at h0
    · cases h0
    · next d2 =>
      rw [if_neg d2] at hon ⊢
      split at h0
      · cases h0
      · next d3 =>
        rw [if_neg d3] at hon ⊢
        have := sw_45 _ _ _ _ _ _ hon
        refine Nat.le_trans ?_ this
        rw [tr]
        omega
theorem next_45 (h0 : (ky_next k T).1 = 0) (hon : (ky_next k T).2.1.1.1.1.1.2.1 = true) : k.1.1.1.2.length + 44 ≤ (ky_next k T).2.1.1.1.1.2.length := by
  unfold ky_next at h0 hon ⊢
  cases hj : fs_last k.1.1.1.1.2.2.2.2.2.2.2.2.2.2.2 k.2.2.1.1 k.2.1.2.2 with
  | none => rw [hj] at h0; cases h0
  | some j =>
    rw [hj] at hon
    exact sw_45 _ _ _ _ _ _ hon
/-- MAKE, SIGN and NEXT answer with at least 45 bytes -/
theorem recv_45 (hm : cbB ms 0 = 1 ∨ cbB ms 0 = 2 ∨ cbB ms 0 = 8) (h : (ky_recv ms k T).1 = 0) : 45 ≤ (ky_recv ms k T).2.1.1.1.1.2.length := by
  obtain ⟨hon, hfm, h0, h1, h2, h3⟩ := recv_0 h
  rw [h2]
  show 45 ≤ (ky_cmd ms (ky_r1 ms k) T).2.1.1.1.1.2.length
  have e : (ky_r1 ms k).1.1.1.2.length = 1 := rfl
  unfold ky_cmd at h0 h1 ⊢
  rcases hm with hm | hm | hm
  · rw [if_pos hm] at h0 h1 ⊢
    have := make_45 h0 h1
    omega
  · rw [hm, if_neg (by decide), if_pos rfl] at h0 h1 ⊢
    have := sign_45 h0 h1
    omega
  · rw [hm, if_neg (by decide), if_neg (by decide), if_neg (by decide), if_neg (by decide), if_neg (by decide)] at h0 h1 ⊢
    have := next_45 h0 h1
    omega
end
end
