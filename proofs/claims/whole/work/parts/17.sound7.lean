/-! The small machine is right, 7: a method's frame, and every call. -/
theorem mj_ck_j {y : mj_Me} {r : mj_R} (hw : mj_ckW y r = true) (hk5 : mj_kd r.1 = 5) (h6 : r.2.2.1 ≠ 6) (h7 : r.2.2.1 ≠ 7) : r.2.2.2.1 ≠ 1 ∧ r.2.2.2.1 < 380 := by
  have key : ∀ (own : String) (i : Nat), mj_ckI own r i = true → r.2.2.2.1 ≠ 1 ∧ r.2.2.2.1 < 380 := by
    intro own i h
    unfold mj_ckI at h
    split at h
    · simp only [Bool.and_eq_true, decide_eq_true_eq] at h
      exact ⟨h.1, h.2.1⟩
    · cases h
  cases hi : r.1 with
  | invokevirtual i =>
    simp only [mj_ckW, hi, Bool.and_eq_true] at hw
    exact key _ _ hw.2
  | invokestatic i =>
    simp only [mj_ckW, hi] at hw
    rw [if_neg h7] at hw
    simp only [Bool.and_eq_true] at hw
    exact key _ _ hw.2
  | invokespecial i =>
    simp only [mj_ckW, hi] at hw
    rw [if_neg h6] at hw
    simp only [Bool.and_eq_true] at hw
    exact key _ _ hw.2
  | _ => rw [hi] at hk5; simp [mj_kd] at hk5
/-- cells only grow -/
theorem mj_go_mono {d : Nat} {call : mj_F} {y : mj_Me} (hcall : ∀ (j : Nat) (vs : List Value) (M : mj_H) (v : Option Value) (M' : mj_H), call j vs M = some (v, M') → M.length ≤ M'.length ∧ mj_sl M ≤ mj_sl M') :
    ∀ (n pc : Nat) (ls : mj_L) (st : List Value) (M : mj_H) (v : Option Value) (M' : mj_H), mj_go d call y n pc ls st M = some (v, M') → M.length ≤ M'.length ∧ mj_sl M ≤ mj_sl M' := by
  intro n
  induction n with
  | zero => intro pc ls st M v M' h; simp [mj_go] at h
  | succ n ih =>
    intro pc ls st M v M' h
    unfold mj_go at h
    split at h
    · split at h
      · split at h
        · exact ih _ _ _ _ _ _ h
        · cases h
      · split at h
        · exact ih _ _ _ _ _ _ h
        · cases h
      · split at h
        · exact ih _ _ _ _ _ _ h
        · cases h
      · split at h
        · exact ih _ _ _ _ _ _ h
        · cases h
      · split at h
        · next q hq =>
          have h1 := mj_hw_mono hq
          have h2 := ih _ _ _ _ _ _ h
          omega
        · cases h
      · split at h
        · cases h
        · split at h
          · split at h
            · split at h
              · exact ih _ _ _ _ _ _ h
              · cases h
            · cases h
          · split at h
            · split at h
              · next q hq =>
                split at h
                · have h1 := mj_cp_mono hq
                  have h2 := ih _ _ _ _ _ _ h
                  omega
                · cases h
              · cases h
            · split at h
              · split at h
                · split at h
                  · next t ht =>
                    have h1 := hcall _ _ _ _ _ ht
                    have h2 := ih _ _ _ _ _ _ h
                    omega
                  · cases h
                · cases h
              · cases h
      · split at h
        · cases h; exact ⟨Nat.le_refl _, Nat.le_refl _⟩
        · cases h
      · cases h
    · cases h
theorem mj_ci_eq {d : Nat} {args : List Value} {M : mj_H} {r : Option Value × mj_H} (h : mj_ci d args M = some r) : ∃ i n : Int32, args = [.int i, .int n] ∧ d ≠ 0 ∧ ¬ i < 0 ∧ i < n ∧ r = (none, M) := by
  unfold mj_ci at h
  split at h
  · next i n =>
    split at h
    · cases h
    · next hc =>
      cases h
      exact ⟨i, n, rfl, fun z => hc (Or.inl z), fun z => hc (Or.inr (Or.inl z)), Decidable.of_not_not (fun z => hc (Or.inr (Or.inr z))), rfl⟩
  · cases h
theorem mj_ex_mono {fuel : Nat} : ∀ (d j : Nat) (vs : List Value) (M : mj_H) (v : Option Value) (M' : mj_H), mj_ex fuel d j vs M = some (v, M') → M.length ≤ M'.length ∧ mj_sl M ≤ mj_sl M' := by
  intro d
  induction d with
  | zero => intro j vs M v M' h; simp [mj_ex] at h
  | succ d ih =>
    intro j vs M v M' h
    unfold mj_ex at h
    split at h
    · obtain ⟨i, n, -, -, -, -, h5⟩ := mj_ci_eq h
      cases h5
      exact ⟨Nat.le_refl _, Nat.le_refl _⟩
    · split at h
      · split at h
        · exact mj_go_mono ih _ _ _ _ _ _ _ h
        · cases h
      · cases h
section MJ7
variable {p : Program} {l : Launch} {e : Env} {R : Room} {s : State} {m : MethodId} {args : Array Value} {below : List Frame} {meth : Method} {c : Code} {H : Heap} {locs : List Loc} {cells slots : Nat} {Q : State → Prop} {cc : ByteArray}
theorem mj_re_ok {D : mj_D} {s0 : State} {ret : Option FieldType} {M : mj_H} {la : Array Slot} {st : List Value} {v : Option Value} {i : Jvm.ClassFile.Instr} {pc len : Nat} (hx : p.tables.exec = Jvm.exec) (hb : c.code = cc) (hr : meth.sig.returnType = ret) (hlocks : meth.locks = false) (hR : mj_Rp D s0 M H) (hlo : ∀ x ∈ locs, mj_A s0 x.base) (hd : decode cc pc = .ok (i, len)) (hn : mj_ln i = 0 ∨ len = mj_ln i)
    (h : mj_re ret i st = some v) : W p l e R s m args below meth c H locs cells slots (MQ below (mj_Qc D s0 v M) args s cells slots (mj_A s0)) (F0 m pc la (mj_shS D.2.2.2 st)) := by
  unfold mj_re at h
  split at h <;> (try (simp [mj_ln] at hn; subst hn))
  · split at h
    · split at h
      · next hnr =>
        cases h
        exact W.zret hx hb hr hnr (fun t ht _ => ⟨rfl, by rw [ht]; exact hR⟩) hlo hd hlocks
      · cases h
    · cases h
  · split at h
    · next hl =>
      cases h
      exact W.lret hx hb (hr.trans hl) (fun t ht _ => ⟨rfl, by rw [ht]; exact hR⟩) hlo hd hlocks
    · cases h
  · split at h
    · split at h
      · next hv =>
        cases h
        subst hv
        exact W.aret (v := .null) hx hb hr (Or.inl ⟨_, rfl⟩) (Or.inl rfl) (fun t ht _ => ⟨rfl, by rw [ht]; exact hR⟩) hlo hd hlocks
      · split at h
        · cases h
          exact W.aret hx hb hr (Or.inl ⟨_, rfl⟩) (Or.inr ⟨_, rfl⟩) (fun t ht _ => ⟨rfl, by rw [ht]; exact hR⟩) hlo hd hlocks
        · cases h
    · split at h
      · next hv =>
        cases h
        subst hv
        exact W.aret (v := .null) hx hb hr (Or.inr ⟨_, rfl⟩) (Or.inl rfl) (fun t ht _ => ⟨rfl, by rw [ht]; exact hR⟩) hlo hd hlocks
      · split at h
        · cases h
          exact W.aret hx hb hr (Or.inr ⟨_, rfl⟩) (Or.inr ⟨_, rfl⟩) (fun t ht _ => ⟨rfl, by rw [ht]; exact hR⟩) hlo hd hlocks
        · cases h
    · cases h
  · split at h
    · next hl =>
      cases h
      exact W.vret hx hb (hr.trans hl) (fun t ht _ => ⟨rfl, by rw [ht]; exact hR⟩) hlo hd hlocks
    · cases h
  · cases h
set_option maxHeartbeats 8000000 in
theorem mj_go_ok {D : mj_D} {s0 : State} {y : mj_Me} {d : Nat} {call : mj_F} {Qf : Option Value → mj_H → State → Prop} (hx : p.tables.exec = Jvm.exec) (hb : c.code = y.2.1) (hml : c.maxLocals = y.2.2.1) (hE : mj_env D s0) (hK : mj_K D s0 s) (hts : ∀ w ∈ mj_tb, w.before args s = true) (hown : s.vm.findClass y.1.cls = some m.cls) (hmn : y.1.name = "<init>" → meth.name = "<init>")
    (hcr : mj_cr y = true) (hRf : d ≤ R.frames) (hRl : 64 * d ≤ R.locals) (hcw : ∀ (j : Nat) (z : mj_Me), mj_ms[j]? = some z → j ≠ 1 → j < 380 → mj_cw z = true)
    (hmono : ∀ (j : Nat) (vs : List Value) (M : mj_H) (v : Option Value) (M' : mj_H), call j vs M = some (v, M') → M.length ≤ M'.length ∧ mj_sl M ≤ mj_sl M')
    (hcall : ∀ (j : Nat) (vs : List Value) (M : mj_H) (v : Option Value) (M' : mj_H) (z : mj_Me), d ≠ 0 → call j vs M = some (v, M') → mj_ms[j]? = some z → j ≠ 1 → j < 380 → mj_Mt l D s0 (d - 1) z vs M v M')
    (hret : ∀ (pc len : Nat) (i : Jvm.ClassFile.Instr) (la : Array Slot) (st : List Value) (v : Option Value) (M : mj_H) (H : Heap) (locs : List Loc) (cells slots : Nat), decode y.2.1 pc = .ok (i, len) → (mj_ln i = 0 ∨ len = mj_ln i) → mj_re y.2.2.2.1 i st = some v → mj_Rp D s0 M H → (∀ x ∈ locs, mj_A s0 x.base) → cells ≤ R.cells → slots ≤ R.slots → W p l e R s m args below meth c H locs cells slots (Qf v M) (F0 m pc la (mj_shS D.2.2.2 st))) :
    ∀ (n pc : Nat) (ls : mj_L) (st : List Value) (M : mj_H) (v : Option Value) (M' : mj_H), mj_go d call y n pc ls st M = some (v, M') → ∀ (H : Heap) (locs : List Loc) (la : Array Slot) (cells slots : Nat), cells + (M'.length - M.length) ≤ R.cells → slots + (mj_sl M' - mj_sl M) ≤ R.slots → mj_Rp D s0 M H → (∀ x ∈ locs, mj_A s0 x.base) → lv_has la y.2.2.1 (mj_shL D.2.2.2 ls) →
      W p l e R s m args below meth c H locs cells slots (Qf v M') (F0 m pc la (mj_shS D.2.2.2 st)) := by
  intro n
  induction n with
  | zero => intro pc ls st M v M' h; simp [mj_go] at h
  | succ n ih =>
    intro pc ls st M v M' h H locs la cells slots hc hs hR hlo hl
    unfold mj_go at h
    split at h
    · next r hr =>
      have hck := mj_cz_at _ 0 hcr pc r hr
      rw [Nat.zero_add] at hck
      obtain ⟨hd, hn, hw⟩ := mj_ck_eq hck
      split at h
      · split at h
        · next st' hq => exact mj_pu_ok hx hb hl hd hn hq (ih _ _ _ _ _ _ h H locs la cells slots hc hs hR hlo hl)
        · cases h
      · split at h
        · next q hq => exact mj_lo_ok hx hb hl hd hn hq (fun la' hl' => ih _ _ _ _ _ _ h H locs la' cells slots hc hs hR hlo hl')
        · cases h
      · split at h
        · next q hq => exact mj_br_ok hx hb hd hn hq (ih _ _ _ _ _ _ h H locs la cells slots hc hs hR hlo hl)
        · cases h
      · split at h
        · next st' hq => exact mj_hr_ok hx hb hE hK hR hts hown hd hn hw hq (ih _ _ _ _ _ _ h H locs la cells slots hc hs hR hlo hl)
        · cases h
      · split at h
        · next q hq =>
          have h1 := mj_hw_mono hq
          have h2 := mj_go_mono hmono _ _ _ _ _ _ _ h
          exact mj_hw_ok hx hb hE hK hR hts hown hmn hd hn hw hq (by omega) (by omega) hlo (fun H1 locs1 hR1 hlo1 => ih _ _ _ _ _ _ h H1 locs1 la _ _ (by omega) (by omega) hR1 hlo1 hl)
        · cases h
      · next hk5 =>
        split at h
        · cases h
        · next hd0 =>
          split at h
          · next h6 =>
            split at h
            · next a s1 =>
              split at h
              · next hrm =>
                have hrm8 := mj_rm_le (ad := D.2.2.2) hrm
                have hi : ∃ i, r.1 = .invokespecial i := by
                  cases hi : r.1 with
                  | invokespecial i => exact ⟨i, rfl⟩
                  | invokevirtual i =>
                    simp only [mj_ckW, hi, Bool.and_eq_true, Bool.or_eq_true, decide_eq_true_eq] at hw
                    omega
                  | invokestatic i =>
                    simp only [mj_ckW, hi] at hw
                    rw [if_neg (by omega)] at hw
                    simp only [Bool.and_eq_true, Bool.or_eq_true, decide_eq_true_eq] at hw
                    omega
                  | _ => rw [hi] at hk5; simp [mj_kd] at hk5
                obtain ⟨i, hi⟩ := hi
                rw [hi] at hd hn
                have hlen3 : r.2.1 = 3 := by simpa [mj_ln] using hn
                rw [hlen3] at hd
                simp only [mj_ckW, hi] at hw
                rw [if_pos h6] at hw
                exact W.objInit (g := F0 m pc la (.ref (D.2.2.2 a) :: mj_shS D.2.2.2 s1)) hx hb hown (hts _ (mj_w_in hw)) (hts _ mj_oi_w.1) (hts _ mj_oi_w.2) rfl (hl.1.trans hml.symm) rfl hd (by omega) (by show 2 * 0 + _ + 12 ≤ _; omega) (ih _ _ _ _ _ _ h H locs la cells slots hc hs hR hlo hl)
              · cases h
            · cases h
          · next h6 =>
            split at h
            · next h7 =>
              split at h
              · next q hq =>
                split at h
                · next hrm =>
                  have h1 := mj_cp_mono hq
                  have hi : ∃ i, r.1 = .invokestatic i := by
                    cases hi : r.1 with
                    | invokestatic i => exact ⟨i, rfl⟩
                    | invokevirtual i =>
                      simp only [mj_ckW, hi, Bool.and_eq_true, Bool.or_eq_true, decide_eq_true_eq] at hw
                      omega
                    | invokespecial i =>
                      simp only [mj_ckW, hi] at hw
                      rw [if_neg (by omega)] at hw
                      simp only [Bool.and_eq_true, Bool.or_eq_true, decide_eq_true_eq] at hw
                      omega
                    | _ => rw [hi] at hk5; simp [mj_kd] at hk5
                  obtain ⟨i, hi⟩ := hi
                  rw [hi] at hd hn
                  have hlen3 : r.2.1 = 3 := by simpa [mj_ln] using hn
                  rw [hlen3] at hd
                  simp only [mj_ckW, hi] at hw
                  rw [if_pos h7] at hw
                  exact mj_cp_ok hx hb (hml.trans hl.1.symm) hE hK hR hts hown (mj_w_in hw) (by omega) (by omega) hd hq hrm hlo (fun H1 locs1 hR1 hlo1 => ih _ _ _ _ _ _ h H1 locs1 la _ _ (by omega) (by omega) hR1 hlo1 hl)
                · cases h
              · cases h
            · next h7 =>
              split at h
              · next z hz =>
                split at h
                · next q hq =>
                  split at h
                  · next t ht =>
                    obtain ⟨j1, j2⟩ := mj_ck_j hw hk5 h6 h7
                    have h1 := hmono _ _ _ _ _ ht
                    have h2 := mj_go_mono hmono _ _ _ _ _ _ _ h
                    have hM := hcall _ _ _ t.1 t.2 z hd0 ht hz j1 j2
                    exact mj_in_ok hx hb (hml.trans hl.1.symm) hE hK hR hts hown hd hn hw hk5 h6 h7 hz (hcw _ _ hz j1 j2) hq hM (by omega) (by omega) (by omega) (by omega) hlo (fun H1 locs1 hR1 hlo1 => ih _ _ _ _ _ _ h H1 locs1 la _ _ (by omega) (by omega) hR1 hlo1 hl)
                  · cases h
                · cases h
              · cases h
      · split at h
        · next v' hq =>
          cases h
          exact hret _ _ _ _ _ _ _ _ _ _ _ hd hn hq hR hlo (by omega) (by omega)
        · cases h
      · cases h
    · cases h
end MJ7
theorem mj_args_sh (ad : Nat → Nat) : ∀ (vs : List Value) (i : Nat), lv_args i (mj_shS ad vs) = mj_shL ad (lv_args i vs) := by
  intro vs
  induction vs with
  | nil => intro i; rfl
  | cons v vs ih =>
    intro i
    show (i, mj_sh ad v) :: lv_args (if (mj_sh ad v).category = 2 then i + 2 else i + 1) (mj_shS ad vs) = _
    rw [mj_sh_cat, ih]
    rfl
theorem mj_slots_sh (ad : Nat → Nat) : ∀ (vs : List Value), (lg_sl (mj_shS ad vs)).length = (lg_sl vs).length := by
  intro vs
  induction vs with
  | nil => rfl
  | cons v vs ih =>
    simp only [lg_sl, mj_shS, List.map_cons, List.flatMap_cons, List.length_append, mj_sh_cat] at ih ⊢
    rw [ih]
    split <;> rfl
