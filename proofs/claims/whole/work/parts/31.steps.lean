/-! Steps as equations that simp can run. -/
noncomputable def mq_k0 (d : Nat) (y : mj_Me) (pc : Nat) (ls : mj_L) (M : mj_H) (o : Option (List Value)) : Option (Option Value × mj_H) := o.bind (fun st' => mj_Rn d y pc ls st' M)
noncomputable def mq_k1 (d : Nat) (y : mj_Me) (pc : Nat) (M : mj_H) (o : Option (mj_L × List Value)) : Option (Option Value × mj_H) := o.bind (fun q => mj_Rn d y pc q.1 q.2 M)
noncomputable def mq_k2 (d : Nat) (y : mj_Me) (ls : mj_L) (M : mj_H) (o : Option (Nat × List Value)) : Option (Option Value × mj_H) := o.bind (fun q => mj_Rn d y q.1 ls q.2 M)
noncomputable def mq_k4 (d : Nat) (y : mj_Me) (pc : Nat) (ls : mj_L) (o : Option (List Value × mj_H)) : Option (Option Value × mj_H) := o.bind (fun q => mj_Rn d y pc ls q.1 q.2)
noncomputable def mq_k5 (d : Nat) (y : mj_Me) (pc : Nat) (ls : mj_L) (rest : List Value) (o : Option (Option Value × mj_H)) : Option (Option Value × mj_H) := o.bind (fun t => mj_Rn d y pc ls (t.1.toList ++ rest) t.2)
noncomputable def mq_k5a (d : Nat) (y : mj_Me) (pc : Nat) (ls : mj_L) (M : mj_H) (j : Nat) (o : Option (List Value × List Value)) : Option (Option Value × mj_H) := o.bind (fun q => mq_k5 d y pc ls q.2 (mj_V d j q.1 M))
def mq_k6 (M : mj_H) (o : Option (Option Value)) : Option (Option Value × mj_H) := o.map (fun v => (v, M))
section MJS
variable {d : Nat} {y : mj_Me} {pc : Nat} {ls : mj_L} {st : List Value} {M : mj_H} {r : mj_R}
theorem mq_k0s {s1 : List Value} : mq_k0 d y pc ls M (some s1) = mj_Rn d y pc ls s1 M := rfl
theorem mq_k1s {l1 : mj_L} {s1 : List Value} : mq_k1 d y pc M (some (l1, s1)) = mj_Rn d y pc l1 s1 M := rfl
theorem mq_k2s {p1 : Nat} {s1 : List Value} : mq_k2 d y ls M (some (p1, s1)) = mj_Rn d y p1 ls s1 M := rfl
theorem mq_k4s {s1 : List Value} {M1 : mj_H} : mq_k4 d y pc ls (some (s1, M1)) = mj_Rn d y pc ls s1 M1 := rfl
theorem mq_k5s {rest : List Value} {v : Value} {M1 : mj_H} : mq_k5 d y pc ls rest (some (some v, M1)) = mj_Rn d y pc ls (v :: rest) M1 := rfl
theorem mq_k5n {rest : List Value} {M1 : mj_H} : mq_k5 d y pc ls rest (some (none, M1)) = mj_Rn d y pc ls rest M1 := rfl
theorem mq_k5as {j : Nat} {vs rest : List Value} : mq_k5a d y pc ls M j (some (vs, rest)) = mq_k5 d y pc ls rest (mj_V d j vs M) := rfl
theorem mq_k6s {v : Option Value} : mq_k6 M (some v) = some (v, M) := rfl
/-- a call's arguments, by numbers alone -/
def mq_cb (kind n cn : Nat) (st : List Value) (M : mj_H) : Option (List Value × List Value) :=
  if st.length < n then none else
  if kind = 2 ∨ kind = 3 then (if mj_rm (st.drop n) then some ((st.take n).reverse, st.drop n) else none)
  else match st.drop n with
    | .ref b :: rest => if mj_rm rest then
        (if kind = 4 ∨ kind = 5 then some (.ref b :: (st.take n).reverse, rest)
         else match M[b]? with
          | some q => if q.1 = cn then some (.ref b :: (st.take n).reverse, rest) else none
          | none => none) else none
    | _ => none
def mq_oi : List Value → Option (List Value)
  | .ref _ :: s => if mj_rm s then some s else none
  | _ => none
def mq_cpr (st : List Value) (M : mj_H) : Option (List Value × mj_H) := (mj_cp st M).bind (fun q => if mj_rm q.1 then some q else none)
theorem mj_R5e {z : mj_Me} (hr : (y.2.2.2.2.2.2.2)[pc]? = some (some r)) (hk : mj_kd r.1 = 5) (h6 : r.2.2.1 ≠ 6) (h7 : r.2.2.1 ≠ 7) (hz : mj_ms[r.2.2.2.1]? = some z) :
    mj_Rn (d + 1) y pc ls st M = mq_k5a (d + 1) y (pc + 3) ls M r.2.2.2.1 (mq_cb r.2.2.1 z.2.2.2.2.1 z.2.2.2.2.2.1 st M) := by
  have e : mq_cb r.2.2.1 z.2.2.2.2.1 z.2.2.2.2.2.1 st M = mj_ca r.2.2.1 z st M := rfl
  rw [e]
  cases hq : mj_ca r.2.2.1 z st M with
  | some q => rw [mj_R5 hr hk h6 h7 hz hq]; rfl
  | none =>
    apply Option.ext
    intro v
    rw [mj_Rn_iff]
    constructor
    · rintro ⟨n, hn⟩
      cases n with
      | zero => simp [mj_go] at hn
      | succ n => simp [mj_go, hr, hk, h6, h7, hz, hq] at hn
    · intro h; cases h
theorem mj_R5oe (hr : (y.2.2.2.2.2.2.2)[pc]? = some (some r)) (hk : mj_kd r.1 = 5) (h6 : r.2.2.1 = 6) : mj_Rn (d + 1) y pc ls st M = mq_k0 (d + 1) y (pc + 3) ls M (mq_oi st) := by
  unfold mq_oi
  split
  · next a s1 =>
    split
    · next hrm => rw [mj_R5o hr hk h6 hrm]; rfl
    · next hrm =>
      apply Option.ext
      intro v
      rw [mj_Rn_iff]
      constructor
      · rintro ⟨n, hn⟩
        cases n with
        | zero => simp [mj_go] at hn
        | succ n => simp [mj_go, hr, hk, h6, hrm] at hn
      · intro h; cases h
  · next hst =>
    apply Option.ext
    intro v
    rw [mj_Rn_iff]
    constructor
    · rintro ⟨n, hn⟩
      cases n with
      | zero => simp [mj_go] at hn
      | succ n =>
        simp only [mj_go, hr, hk, h6, if_true, Nat.add_one_ne_zero, if_false] at hn
        cases hn
    · intro h; cases h
theorem mj_R5ce (hr : (y.2.2.2.2.2.2.2)[pc]? = some (some r)) (hk : mj_kd r.1 = 5) (h7 : r.2.2.1 = 7) : mj_Rn (d + 1) y pc ls st M = mq_k4 (d + 1) y (pc + 3) ls (mq_cpr st M) := by
  unfold mq_cpr
  cases hq : mj_cp st M with
  | some q =>
    rw [Option.bind_some]
    split
    · next hrm => rw [mj_R5c hr hk h7 hq hrm]; rfl
    · next hrm =>
      apply Option.ext
      intro v
      rw [mj_Rn_iff]
      constructor
      · rintro ⟨n, hn⟩
        cases n with
        | zero => simp [mj_go] at hn
        | succ n => simp [mj_go, hr, hk, h7, hq, hrm] at hn
      · intro h; cases h
  | none =>
    apply Option.ext
    intro v
    rw [mj_Rn_iff]
    constructor
    · rintro ⟨n, hn⟩
      cases n with
      | zero => simp [mj_go] at hn
      | succ n => simp [mj_go, hr, hk, h7, hq] at hn
    · intro h; cases h
end MJS
/-! Reading and writing rows by their numbers alone. -/
def mq_gf (ci k : Nat) (st : List Value) (M : mj_H) : Option (List Value) := match st with
  | .ref a :: s => match M[a]? with
    | some q => if q.1 = ci then (q.2[k]?).map (· :: s) else none
    | none => none
  | _ => none
def mq_len (st : List Value) (M : mj_H) : Option (List Value) := match st with
  | .ref a :: s => match M[a]? with
    | some q => if 1000 ≤ q.1 then some (.int (Int32.ofNat q.2.length) :: s) else none
    | none => none
  | _ => none
def mq_al (tags : List Nat) (st : List Value) (M : mj_H) : Option (List Value) := match st with
  | .int i :: .ref a :: s => (mj_ar tags M a i).map (· :: s)
  | _ => none
def mq_ok : Nat → Value → Bool
  | 0, .int _ => true
  | 1, .long _ => true
  | 2, .ref _ => true
  | 2, .null => true
  | 3, .int x => decide (x = 0) || decide (x = 1)
  | _, _ => false
def mq_ft : Nat → FieldType → Bool
  | 0, .int => true
  | 1, .long => true
  | 2, .object _ => true
  | 2, .array _ => true
  | 3, .boolean => true
  | _, _ => false
def mq_pf (ci k T : Nat) (st : List Value) (M : mj_H) : Option (List Value × mj_H) := match st with
  | v :: .ref a :: s => if a < mj_E then none else match M[a]? with
    | some q => if q.1 = ci ∧ k < q.2.length ∧ mq_ok T v = true then some (s, M.set a (q.1, q.2.set k v)) else none
    | none => none
  | _ => none
theorem mq_ok_iff {T : Nat} {ty : FieldType} (h : mq_ft T ty = true) (v : Value) : (narrow ty v = v ∧ fits ty v = true) ↔ mq_ok T v = true := by
  unfold mq_ft at h
  split at h
  · cases v <;> simp [mq_ok, fits, narrow]
  · cases v <;> simp [mq_ok, fits, narrow]
  · cases v <;> simp [mq_ok, fits, narrow]
  · cases v <;> simp [mq_ok, fits, narrow]
  · cases v with
    | int x =>
      simp only [mq_ok, fits, Bool.or_eq_true, decide_eq_true_eq, beq_iff_eq]
      constructor
      · intro h; exact h.2
      · intro h
        refine ⟨?_, h⟩
        rcases h with rfl | rfl
        · exact narrow_b0
        · exact narrow_b1
    | _ => simp [mq_ok, fits]
  · cases h
theorem mq_pf_eq {i ci k p T : Nat} {st : List Value} {M : mj_H} {ty : FieldType} (h1 : (mj_ty.getD ci [])[k]? = some ty) (h2 : mq_ft T ty = true) : mj_hw (.putfield i, 3, ci, k, p) st M = mq_pf ci k T st M := by
  cases st with
  | nil => rfl
  | cons v st =>
    cases st with
    | nil => first | rfl | (cases v <;> rfl)
    | cons w s =>
      cases w with
      | ref a =>
        show (if a < mj_E then none else match M[a]? with
          | some q => match (mj_ty.getD ci [])[k]? with
            | some ty => if q.1 = ci ∧ k < q.2.length ∧ narrow ty v = v ∧ fits ty v = true then some (s, M.set a (q.1, q.2.set k v)) else none
            | none => none
          | none => none) = (if a < mj_E then none else match M[a]? with
          | some q => if q.1 = ci ∧ k < q.2.length ∧ mq_ok T v = true then some (s, M.set a (q.1, q.2.set k v)) else none
          | none => none)
        rw [h1]
        by_cases ha : a < mj_E
        · rw [if_pos ha, if_pos ha]
        · rw [if_neg ha, if_neg ha]
          cases hq : M[a]? with
          | none => rfl
          | some q =>
            dsimp only
            by_cases h3 : q.1 = ci ∧ k < q.2.length ∧ mq_ok T v = true
            · rw [if_pos h3, if_pos ⟨h3.1, h3.2.1, (mq_ok_iff h2 v).mpr h3.2.2⟩]
            · rw [if_neg h3, if_neg (fun z => h3 ⟨z.1, z.2.1, (mq_ok_iff h2 v).mp z.2.2⟩)]
      | _ => first | rfl | (cases v <;> rfl)
theorem mq_gf_eq {i ci k p : Nat} {st : List Value} {M : mj_H} : mj_hr (.getfield i, 3, ci, k, p) st M = mq_gf ci k st M := by
  cases st with
  | nil => rfl
  | cons v s => cases v <;> rfl
theorem mq_len_eq {st : List Value} {M : mj_H} : mj_hr (.arraylength, 1, 0, 0, 0) st M = mq_len st M := by
  cases st with
  | nil => rfl
  | cons v s => cases v <;> rfl
theorem mq_ali_eq {st : List Value} {M : mj_H} : mj_hr (.iaload, 1, 0, 0, 0) st M = mq_al [1000] st M := by
  cases st with
  | nil => rfl
  | cons v s =>
    cases s with
    | nil => cases v <;> rfl
    | cons w s => cases v <;> cases w <;> rfl
theorem mq_alb_eq {st : List Value} {M : mj_H} : mj_hr (.baload, 1, 0, 0, 0) st M = mq_al [1001, 1002] st M := by
  cases st with
  | nil => rfl
  | cons v s =>
    cases s with
    | nil => cases v <;> rfl
    | cons w s => cases v <;> cases w <;> rfl
theorem mq_all_eq {st : List Value} {M : mj_H} : mj_hr (.laload, 1, 0, 0, 0) st M = mq_al [1003] st M := by
  cases st with
  | nil => rfl
  | cons v s =>
    cases s with
    | nil => cases v <;> rfl
    | cons w s => cases v <;> cases w <;> rfl
theorem mq_ala_eq {st : List Value} {M : mj_H} : mj_hr (.aaload, 1, 0, 0, 0) st M = mq_al [1004, 1005, 1006, 1007, 1008, 1009] st M := by
  cases st with
  | nil => rfl
  | cons v s =>
    cases s with
    | nil => cases v <;> rfl
    | cons w s => cases v <;> cases w <;> rfl
theorem mq_sti {nL : Nat} {k : Fin 4} {ls : mj_L} {st : List Value} : mj_lo nL (.istore_n k) ls st = mj_lo nL (.istore (k : Nat)) ls st := by
  cases st with
  | nil => rfl
  | cons v s => cases v <;> rfl
theorem mq_stl {nL : Nat} {k : Fin 4} {ls : mj_L} {st : List Value} : mj_lo nL (.lstore_n k) ls st = mj_lo nL (.lstore (k : Nat)) ls st := by
  cases st with
  | nil => rfl
  | cons v s => cases v <;> rfl
theorem mq_sta {nL : Nat} {k : Fin 4} {ls : mj_L} {st : List Value} : mj_lo nL (.astore_n k) ls st = mj_lo nL (.astore (k : Nat)) ls st := by
  cases st with
  | nil => rfl
  | cons v s => cases v <;> rfl
