/-! The small machine without fuel: equations. -/
noncomputable def mj_lim {α : Type} (f : Nat → Option α) : Option α := @dite _ (∃ n, (f n).isSome = true) (Classical.propDecidable _) (fun h => f (Classical.choose h)) (fun _ => none)
theorem mj_lim_some {α : Type} {f : Nat → Option α} (hm : ∀ (n m : Nat) (r : α), n ≤ m → f n = some r → f m = some r) (r : α) : mj_lim f = some r ↔ ∃ n, f n = some r := by
  unfold mj_lim
  by_cases h : ∃ n, (f n).isSome = true
  · rw [dif_pos h]
    have h1 := Classical.choose_spec h
    obtain ⟨r1, hr1⟩ := Option.isSome_iff_exists.mp h1
    constructor
    · intro hr; exact ⟨_, hr⟩
    · rintro ⟨n, hn⟩
      have e1 := hm _ (max n (Classical.choose h)) _ (Nat.le_max_left _ _) hn
      have e2 := hm _ (max n (Classical.choose h)) _ (Nat.le_max_right _ _) hr1
      rw [hr1, ← e2, e1]
  · rw [dif_neg h]
    constructor
    · intro hr; cases hr
    · rintro ⟨n, hn⟩
      exact absurd ⟨n, by rw [hn]; rfl⟩ h
/-- a method's frame, run with more fuel, more depth, callees that answer more -/
theorem mj_go_le {d d' : Nat} {call call' : mj_F} {y : mj_Me} (hd : d ≤ d') (hc : ∀ (j : Nat) (vs : List Value) (M : mj_H) (r : Option Value × mj_H), call j vs M = some r → call' j vs M = some r) :
    ∀ (n m pc : Nat) (ls : mj_L) (st : List Value) (M : mj_H) (r : Option Value × mj_H), n ≤ m → mj_go d call y n pc ls st M = some r → mj_go d' call' y m pc ls st M = some r := by
  intro n
  induction n with
  | zero => intro m pc ls st M r _ h; simp [mj_go] at h
  | succ n ih =>
    intro m pc ls st M r hm h
    cases m with
    | zero => omega
    | succ m =>
      have hm : n ≤ m := by omega
      unfold mj_go at h ⊢
      split at h
      · next rr hrr =>
        (try rw [hrr])
        (try dsimp only)
        split at h
        · next hk =>
          (try rw [hk]); (try dsimp only)
          split at h
          · next q hq => (try rw [hq]); exact ih _ _ _ _ _ _ hm h
          · cases h
        · next hk =>
          (try rw [hk]); (try dsimp only)
          split at h
          · next q hq => (try rw [hq]); exact ih _ _ _ _ _ _ hm h
          · cases h
        · next hk =>
          (try rw [hk]); (try dsimp only)
          split at h
          · next q hq => (try rw [hq]); exact ih _ _ _ _ _ _ hm h
          · cases h
        · next hk =>
          (try rw [hk]); (try dsimp only)
          split at h
          · next q hq => (try rw [hq]); exact ih _ _ _ _ _ _ hm h
          · cases h
        · next hk =>
          (try rw [hk]); (try dsimp only)
          split at h
          · next q hq => (try rw [hq]); exact ih _ _ _ _ _ _ hm h
          · cases h
        · next hk =>
          (try rw [hk]); (try dsimp only)
          split at h
          · cases h
          · next hd0 =>
            (try rw [if_neg (by omega)])
            split at h
            · next h6 =>
              (try rw [if_pos h6])
              split at h
              · split at h
                · next hrm => (try rw [if_pos hrm]); exact ih _ _ _ _ _ _ hm h
                · cases h
              · cases h
            · next h6 =>
              (try rw [if_neg h6])
              split at h
              · next h7 =>
                (try rw [if_pos h7])
                split at h
                · next q hq =>
                  (try rw [hq])
                  (try dsimp only)
                  split at h
                  · next hrm => (try rw [if_pos hrm]); exact ih _ _ _ _ _ _ hm h
                  · cases h
                · cases h
              · next h7 =>
                (try rw [if_neg h7])
                split at h
                · next z hz =>
                  (try rw [hz])
                  (try dsimp only)
                  split at h
                  · next q hq =>
                    (try rw [hq])
                    (try dsimp only)
                    split at h
                    · next t ht =>
                      (try rw [hc _ _ _ _ ht])
                      exact ih _ _ _ _ _ _ hm h
                    · cases h
                  · cases h
                · cases h
        · next hk =>
          (try rw [hk]); (try dsimp only)
          exact h
        · cases h
      · cases h
theorem mj_ex_le : ∀ (d d' f f' : Nat), d ≤ d' → f ≤ f' → ∀ (j : Nat) (vs : List Value) (M : mj_H) (r : Option Value × mj_H), mj_ex f d j vs M = some r → mj_ex f' d' j vs M = some r := by
  intro d
  induction d with
  | zero => intro d' f f' _ _ j vs M r h; simp [mj_ex] at h
  | succ d ih =>
    intro d' f f' hd hf j vs M r h
    cases d' with
    | zero => omega
    | succ d' =>
      unfold mj_ex at h ⊢
      by_cases h98 : j = 98
      · rw [if_pos h98] at h ⊢
        obtain ⟨i, n, rfl, h1, h2, h3, rfl⟩ := mj_ci_eq h
        show (if d' = 0 ∨ i < 0 ∨ ¬ i < n then none else some (none, M)) = _
        rw [if_neg]
        rintro (z | z | z)
        · omega
        · exact h2 z
        · exact z h3
      rw [if_neg h98] at h ⊢
      split at h
      · next y hy =>
        (try rw [hy])
        (try dsimp only)
        split at h
        · next hs =>
          (try rw [if_pos hs])
          exact mj_go_le (by omega) (ih d' f f' (by omega) hf) _ _ _ _ _ _ _ hf h
        · cases h
      · cases h
noncomputable def mj_V (d j : Nat) (vs : List Value) (M : mj_H) : Option (Option Value × mj_H) := mj_lim (fun n => mj_ex n d j vs M)
noncomputable def mj_Rn (d : Nat) (y : mj_Me) (pc : Nat) (ls : mj_L) (st : List Value) (M : mj_H) : Option (Option Value × mj_H) := mj_lim (fun n => mj_go d (mj_ex n d) y n pc ls st M)
theorem mj_V_iff {d j : Nat} {vs : List Value} {M : mj_H} {r : Option Value × mj_H} : mj_V d j vs M = some r ↔ ∃ n, mj_ex n d j vs M = some r :=
  mj_lim_some (fun n m r h1 h2 => mj_ex_le d d n m (Nat.le_refl _) h1 j vs M r h2) r
theorem mj_Rn_iff {d : Nat} {y : mj_Me} {pc : Nat} {ls : mj_L} {st : List Value} {M : mj_H} {r : Option Value × mj_H} : mj_Rn d y pc ls st M = some r ↔ ∃ n, mj_go d (mj_ex n d) y n pc ls st M = some r :=
  mj_lim_some (fun n m r h1 h2 => mj_go_le (Nat.le_refl _) (mj_ex_le d d n m (Nat.le_refl _) h1) n m pc ls st M r h1 h2) r
theorem mj_Rn_two {d : Nat} {y : mj_Me} {pc : Nat} {ls : mj_L} {st : List Value} {M : mj_H} {r : Option Value × mj_H} {n f : Nat} (h : mj_go d (mj_ex f d) y n pc ls st M = some r) : mj_Rn d y pc ls st M = some r :=
  mj_Rn_iff.mpr ⟨max n f, mj_go_le (Nat.le_refl _) (mj_ex_le d d f _ (Nat.le_refl _) (Nat.le_max_right _ _)) _ _ _ _ _ _ _ (Nat.le_max_left _ _) h⟩
theorem mj_V_mono {d d' j : Nat} {vs : List Value} {M : mj_H} {r : Option Value × mj_H} (hd : d ≤ d') (h : mj_V d j vs M = some r) : mj_V d' j vs M = some r := by
  obtain ⟨n, hn⟩ := mj_V_iff.mp h
  exact mj_V_iff.mpr ⟨n, mj_ex_le d d' n n hd (Nat.le_refl _) j vs M r hn⟩
/-- a call is its method's frame -/
theorem mj_V_go {d j : Nat} {vs : List Value} {M : mj_H} {y : mj_Me} (hy : mj_ms[j]? = some y) (hs : (lg_sl vs).length ≤ y.2.2.1) (h98 : j ≠ 98 := by decide) : mj_V (d + 1) j vs M = mj_Rn d y 0 (lv_args 0 vs) [] M := by
  apply Option.ext
  intro r
  rw [mj_V_iff, mj_Rn_iff]
  constructor
  · rintro ⟨n, hn⟩
    unfold mj_ex at hn
    rw [if_neg h98, hy] at hn
    dsimp only at hn
    rw [if_pos hs] at hn
    exact ⟨n, hn⟩
  · rintro ⟨n, hn⟩
    refine ⟨n, ?_⟩
    unfold mj_ex
    rw [if_neg h98, hy]
    dsimp only
    rw [if_pos hs]
    exact hn
/-- String.checkIndex within the bounds -/
theorem mj_V_98 {d : Nat} {i n : Int32} {M : mj_H} (h0 : ¬ i < 0) (h1 : i < n) : mj_V (d + 2) 98 [.int i, .int n] M = some (none, M) := by
  refine mj_V_iff.mpr ⟨0, ?_⟩
  unfold mj_ex
  rw [if_pos rfl]
  show (if d + 1 = 0 ∨ i < 0 ∨ ¬ i < n then none else some (none, M)) = _
  rw [if_neg]
  rintro (z | z | z)
  · omega
  · exact h0 z
  · exact z h1
section MJL
variable {d : Nat} {y : mj_Me} {pc : Nat} {ls : mj_L} {st : List Value} {M : mj_H} {r : mj_R}
theorem mj_R0 (hr : (y.2.2.2.2.2.2.2)[pc]? = some (some r)) (hk : mj_kd r.1 = 0) : mj_Rn d y pc ls st M = (mj_pu r.1 ls st).bind (fun st' => mj_Rn d y (pc + r.2.1) ls st' M) := by
  apply Option.ext
  intro v
  cases hq : mj_pu r.1 ls st with
  | none =>
    rw [mj_Rn_iff]
    constructor
    · rintro ⟨n, hn⟩
      cases n with
      | zero => simp [mj_go] at hn
      | succ n => simp [mj_go, hr, hk, hq] at hn
    · intro h; cases h
  | some q =>
    rw [mj_Rn_iff, Option.bind_some, mj_Rn_iff]
    constructor
    · rintro ⟨n, hn⟩
      cases n with
      | zero => simp [mj_go] at hn
      | succ n =>
        simp only [mj_go, hr, hk, hq] at hn
        exact mj_Rn_iff.mp (mj_Rn_two hn)
    · rintro ⟨n, hn⟩
      refine mj_Rn_iff.mp (mj_Rn_two (n := n + 1) (f := n) ?_)
      simp only [mj_go, hr, hk, hq]
      exact hn
theorem mj_R1 (hr : (y.2.2.2.2.2.2.2)[pc]? = some (some r)) (hk : mj_kd r.1 = 1) : mj_Rn d y pc ls st M = (mj_lo y.2.2.1 r.1 ls st).bind (fun q => mj_Rn d y (pc + r.2.1) q.1 q.2 M) := by
  apply Option.ext
  intro v
  cases hq : mj_lo y.2.2.1 r.1 ls st with
  | none =>
    rw [mj_Rn_iff]
    constructor
    · rintro ⟨n, hn⟩
      cases n with
      | zero => simp [mj_go] at hn
      | succ n => simp [mj_go, hr, hk, hq] at hn
    · intro h; cases h
  | some q =>
    rw [mj_Rn_iff, Option.bind_some, mj_Rn_iff]
    constructor
    · rintro ⟨n, hn⟩
      cases n with
      | zero => simp [mj_go] at hn
      | succ n =>
        simp only [mj_go, hr, hk, hq] at hn
        exact mj_Rn_iff.mp (mj_Rn_two hn)
    · rintro ⟨n, hn⟩
      refine mj_Rn_iff.mp (mj_Rn_two (n := n + 1) (f := n) ?_)
      simp only [mj_go, hr, hk, hq]
      exact hn
theorem mj_R2 (hr : (y.2.2.2.2.2.2.2)[pc]? = some (some r)) (hk : mj_kd r.1 = 2) : mj_Rn d y pc ls st M = (mj_br r.1 pc st).bind (fun q => mj_Rn d y q.1 ls q.2 M) := by
  apply Option.ext
  intro v
  cases hq : mj_br r.1 pc st with
  | none =>
    rw [mj_Rn_iff]
    constructor
    · rintro ⟨n, hn⟩
      cases n with
      | zero => simp [mj_go] at hn
      | succ n => simp [mj_go, hr, hk, hq] at hn
    · intro h; cases h
  | some q =>
    rw [mj_Rn_iff, Option.bind_some, mj_Rn_iff]
    constructor
    · rintro ⟨n, hn⟩
      cases n with
      | zero => simp [mj_go] at hn
      | succ n =>
        simp only [mj_go, hr, hk, hq] at hn
        exact mj_Rn_iff.mp (mj_Rn_two hn)
    · rintro ⟨n, hn⟩
      refine mj_Rn_iff.mp (mj_Rn_two (n := n + 1) (f := n) ?_)
      simp only [mj_go, hr, hk, hq]
      exact hn
theorem mj_R3 (hr : (y.2.2.2.2.2.2.2)[pc]? = some (some r)) (hk : mj_kd r.1 = 3) : mj_Rn d y pc ls st M = (mj_hr r st M).bind (fun st' => mj_Rn d y (pc + r.2.1) ls st' M) := by
  apply Option.ext
  intro v
  cases hq : mj_hr r st M with
  | none =>
    rw [mj_Rn_iff]
    constructor
    · rintro ⟨n, hn⟩
      cases n with
      | zero => simp [mj_go] at hn
      | succ n => simp [mj_go, hr, hk, hq] at hn
    · intro h; cases h
  | some q =>
    rw [mj_Rn_iff, Option.bind_some, mj_Rn_iff]
    constructor
    · rintro ⟨n, hn⟩
      cases n with
      | zero => simp [mj_go] at hn
      | succ n =>
        simp only [mj_go, hr, hk, hq] at hn
        exact mj_Rn_iff.mp (mj_Rn_two hn)
    · rintro ⟨n, hn⟩
      refine mj_Rn_iff.mp (mj_Rn_two (n := n + 1) (f := n) ?_)
      simp only [mj_go, hr, hk, hq]
      exact hn
theorem mj_R4 (hr : (y.2.2.2.2.2.2.2)[pc]? = some (some r)) (hk : mj_kd r.1 = 4) : mj_Rn d y pc ls st M = (mj_hw r st M).bind (fun q => mj_Rn d y (pc + r.2.1) ls q.1 q.2) := by
  apply Option.ext
  intro v
  cases hq : mj_hw r st M with
  | none =>
    rw [mj_Rn_iff]
    constructor
    · rintro ⟨n, hn⟩
      cases n with
      | zero => simp [mj_go] at hn
      | succ n => simp [mj_go, hr, hk, hq] at hn
    · intro h; cases h
  | some q =>
    rw [mj_Rn_iff, Option.bind_some, mj_Rn_iff]
    constructor
    · rintro ⟨n, hn⟩
      cases n with
      | zero => simp [mj_go] at hn
      | succ n =>
        simp only [mj_go, hr, hk, hq] at hn
        exact mj_Rn_iff.mp (mj_Rn_two hn)
    · rintro ⟨n, hn⟩
      refine mj_Rn_iff.mp (mj_Rn_two (n := n + 1) (f := n) ?_)
      simp only [mj_go, hr, hk, hq]
      exact hn
theorem mj_R6 (hr : (y.2.2.2.2.2.2.2)[pc]? = some (some r)) (hk : mj_kd r.1 = 6) : mj_Rn d y pc ls st M = (mj_re y.2.2.2.1 r.1 st).map (fun v => (v, M)) := by
  apply Option.ext
  intro v
  rw [mj_Rn_iff]
  cases hq : mj_re y.2.2.2.1 r.1 st with
  | none =>
    constructor
    · rintro ⟨n, hn⟩
      cases n with
      | zero => simp [mj_go] at hn
      | succ n => simp [mj_go, hr, hk, hq] at hn
    · intro h; cases h
  | some q =>
    constructor
    · rintro ⟨n, hn⟩
      cases n with
      | zero => simp [mj_go] at hn
      | succ n => simpa [mj_go, hr, hk, hq] using hn
    · intro h
      exact ⟨1, by simpa [mj_go, hr, hk, hq] using h⟩
/-- Object's constructor -/
theorem mj_R5o {a : Nat} {s1 : List Value} (hr : (y.2.2.2.2.2.2.2)[pc]? = some (some r)) (hk : mj_kd r.1 = 5) (h6 : r.2.2.1 = 6) (hrm : mj_rm s1 = true) : mj_Rn (d + 1) y pc ls (.ref a :: s1) M = mj_Rn (d + 1) y (pc + 3) ls s1 M := by
  apply Option.ext
  intro v
  rw [mj_Rn_iff, mj_Rn_iff]
  constructor
  · rintro ⟨n, hn⟩
    cases n with
    | zero => simp [mj_go] at hn
    | succ n =>
      simp [mj_go, hr, hk, h6, hrm] at hn
      exact mj_Rn_iff.mp (mj_Rn_two hn)
  · rintro ⟨n, hn⟩
    refine mj_Rn_iff.mp (mj_Rn_two (n := n + 1) (f := n) ?_)
    simp [mj_go, hr, hk, h6, hrm]
    exact hn
/-- System.arraycopy -/
theorem mj_R5c {q : List Value × mj_H} (hr : (y.2.2.2.2.2.2.2)[pc]? = some (some r)) (hk : mj_kd r.1 = 5) (h7 : r.2.2.1 = 7) (hq : mj_cp st M = some q) (hrm : mj_rm q.1 = true) : mj_Rn (d + 1) y pc ls st M = mj_Rn (d + 1) y (pc + 3) ls q.1 q.2 := by
  apply Option.ext
  intro v
  rw [mj_Rn_iff, mj_Rn_iff]
  constructor
  · rintro ⟨n, hn⟩
    cases n with
    | zero => simp [mj_go] at hn
    | succ n =>
      simp [mj_go, hr, hk, h7, hq, hrm] at hn
      exact mj_Rn_iff.mp (mj_Rn_two hn)
  · rintro ⟨n, hn⟩
    refine mj_Rn_iff.mp (mj_Rn_two (n := n + 1) (f := n) ?_)
    simp [mj_go, hr, hk, h7, hq, hrm]
    exact hn
/-- a call -/
theorem mj_R5 {z : mj_Me} {q : List Value × List Value} (hr : (y.2.2.2.2.2.2.2)[pc]? = some (some r)) (hk : mj_kd r.1 = 5) (h6 : r.2.2.1 ≠ 6) (h7 : r.2.2.1 ≠ 7) (hz : mj_ms[r.2.2.2.1]? = some z) (hq : mj_ca r.2.2.1 z st M = some q) :
    mj_Rn (d + 1) y pc ls st M = (mj_V (d + 1) r.2.2.2.1 q.1 M).bind (fun t => mj_Rn (d + 1) y (pc + 3) ls (t.1.toList ++ q.2) t.2) := by
  apply Option.ext
  intro v
  rw [mj_Rn_iff]
  constructor
  · rintro ⟨n, hn⟩
    cases n with
    | zero => simp [mj_go] at hn
    | succ n =>
      simp only [mj_go, hr, hk, h6, h7, hz, hq, if_false, Nat.add_one_ne_zero] at hn
      cases ht : mj_ex (n + 1) (d + 1) r.2.2.2.1 q.1 M with
      | none => rw [ht] at hn; cases hn
      | some t =>
        rw [ht] at hn
        dsimp only at hn
        rw [mj_V_iff.mpr ⟨n + 1, ht⟩, Option.bind_some]
        exact mj_Rn_two hn
  · intro h
    cases ht : mj_V (d + 1) r.2.2.2.1 q.1 M with
    | none => rw [ht] at h; cases h
    | some t =>
      rw [ht, Option.bind_some] at h
      obtain ⟨n1, h1⟩ := mj_V_iff.mp ht
      obtain ⟨n2, h2⟩ := mj_Rn_iff.mp h
      refine mj_Rn_iff.mp (mj_Rn_two (n := max n1 n2 + 1) (f := max n1 n2) ?_)
      simp only [mj_go, hr, hk, h6, h7, hz, hq, if_false, Nat.add_one_ne_zero]
      rw [mj_ex_le _ _ _ (max n1 n2) (Nat.le_refl _) (Nat.le_max_left _ _) _ _ _ _ h1]
      exact mj_go_le (Nat.le_refl _) (mj_ex_le _ _ n2 _ (Nat.le_refl _) (Nat.le_max_right _ _)) _ _ _ _ _ _ _ (Nat.le_max_right _ _) h2
end MJL
