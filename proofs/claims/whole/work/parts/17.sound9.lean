/-! The small machine is right, 9: every call. -/
/-- EVERY CALL of the small machine is a call of the machine -/
theorem mj_main {D : mj_D} {s0 : State} (l : Launch) (hE : mj_env D s0) (hZ0 : mj_fz s0) (hck : ∀ (j : Nat) (z : mj_Me), mj_ms[j]? = some z → mj_cr z = true) (hcw : ∀ (j : Nat) (z : mj_Me), mj_ms[j]? = some z → j ≠ 1 → j < 380 → mj_cw z = true) {fuel : Nat} :
    ∀ (d j : Nat) (vs : List Value) (M : mj_H) (v : Option Value) (M' : mj_H) (z : mj_Me), mj_ex fuel d j vs M = some (v, M') → mj_ms[j]? = some z → j ≠ 1 → j < 380 → mj_Mt l D s0 (d - 1) z vs M v M' := by
  intro d
  induction d with
  | zero => intro j vs M v M' z h; simp [mj_ex] at h
  | succ d ih =>
    intro j vs M v M' z h hz j1 j2
    unfold mj_ex at h
    split at h
    · next h98 =>
      subst h98
      obtain ⟨i, n, rfl, hd0, h0, h1, h5⟩ := mj_ci_eq h
      cases h5
      cases (show some mj_m98 = some z from hz)
      obtain ⟨d, rfl⟩ : ∃ d', d = d' + 1 := ⟨d - 1, by omega⟩
      exact mj_98 l hZ0 (hcw 99 mj_m99 rfl (by decide) (by decide)) (hcw 98 mj_m98 rfl (by decide) (by decide)) h0 h1
    rw [hz] at h
    dsimp only at h
    split at h
    · next hfit =>
      obtain ⟨w1, w2, w3, w4, w5, w6, w7, w8, w9⟩ := mj_cw_eq (hcw j z hz j1 j2)
      unfold mj_Mt
      refine Met.ofW (cc := z.2.1) (maxL := z.2.2.1) (ret := z.2.2.2.1) w6 rfl ?_
      intro p e s m args below meth c s₁ B hml hv
      obtain ⟨rfl, hK, hR⟩ := hv
      have hts := atoms_spec (ws := mj_ws z) B.pre
      have hts' : ∀ w ∈ mj_tb, w.before (mj_shS D.2.2.2 vs).toArray s = true := fun w hw => hts w (List.mem_cons_of_mem _ hw)
      have hown : s.vm.findClass z.1.cls = some m.cls := findClass_of_methodNamed B.named
      have hl := lv_entry (mj_shS D.2.2.2 vs) (n := z.2.2.1) (by rw [mj_slots_sh]; exact hfit)
      rw [lg_entry_eq]
      rw [mj_args_sh] at hl
      generalize (lg_sl (mj_shS D.2.2.2 vs) ++ List.replicate (z.2.2.1 - (lg_sl (mj_shS D.2.2.2 vs)).length) Slot.unset).toArray = la at hl ⊢
      exact mj_go_ok (d := d) (Qf := fun v1 M1 => MQ below (mj_Qc D s0 v1 M1) (mj_shS D.2.2.2 vs).toArray s (M'.length - M.length) (mj_sl M' - mj_sl M) (mj_A s0)) B.exec B.bytes hml hE hK hts' hown (fun hz => (name_of_methodNamed B.named B.method).1.trans hz) (hck j z hz) (Nat.le_refl d) (Nat.le_refl _) hcw (fun j vs M v M' h => mj_ex_mono d j vs M v M' h) (fun j vs M v M' z _ h1 h2 h3 h4 => ih j vs M v M' z h1 h2 h3 h4)
        (fun pc len i la st v1 M1 H locs cells slots hd hn h1 hR1 hlo1 hc1 hs1 => W.widen (k := M'.length - M.length) (n := mj_sl M' - mj_sl M) hc1 hs1 (mj_re_ok B.exec B.bytes B.returns B.notSynchronized hR1 hlo1 hd hn h1)) fuel 0 (lv_args 0 vs) [] M v M' h s.heap [] la 0 0 (by show 0 + _ ≤ M'.length - M.length; omega) (by show 0 + _ ≤ mj_sl M' - mj_sl M; omega) hR (fun x hx => by cases hx) hl
    · cases h
