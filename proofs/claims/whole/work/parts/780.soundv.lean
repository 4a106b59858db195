/-! The words of a method that is called, again: a method of a class that has entries, but none of its own (Math.max, Math.min of two ints). -/
def mj_cv (z : mj_Me) : Bool := mj_w z.2.2.2.2.2.2.1.1 (.code z.1 z.2.1 z.2.2.1 z.2.2.2.1) && (mj_w z.2.2.2.2.2.2.1.2.2.2 (.initialized z.1.cls) && (decide ((parseMethodDescriptor z.1.desc).map (fun d => d.parameters.length) = some z.2.2.2.2.1) && (decide (z.1.cls ≠ "java/lang/invoke/MethodHandle") && (decide (z.1.cls ≠ "java/lang/invoke/VarHandle") && (plainFor z.1 && (decide (z.2.2.1 ≤ 45) &&
  (if z.2.2.2.2.2.1 = 900 then decide (z.1.cls = "java/lang/String") else if z.2.2.2.2.2.1 = 999 then true else decide ((mj_cl.map (fun q => q.1))[z.2.2.2.2.2.1]? = some z.1.cls))))))))
theorem mj_cv_eq {z : mj_Me} (h : mj_cv z = true) : Cond.code z.1 z.2.1 z.2.2.1 z.2.2.2.1 ∈ mj_tb ∧ Cond.initialized z.1.cls ∈ mj_tb ∧ (parseMethodDescriptor z.1.desc).map (fun d => d.parameters.length) = some z.2.2.2.2.1 ∧ z.1.cls ≠ "java/lang/invoke/MethodHandle" ∧ z.1.cls ≠ "java/lang/invoke/VarHandle" ∧ plainFor z.1 = true ∧ z.2.2.1 ≤ 45 ∧
    (z.2.2.2.2.2.1 = 900 → z.1.cls = "java/lang/String") ∧ (z.2.2.2.2.2.1 ≠ 900 → z.2.2.2.2.2.1 < 999 → (mj_cl.map (fun q => q.1))[z.2.2.2.2.2.1]? = some z.1.cls) := by
  unfold mj_cv at h
  simp only [Bool.and_eq_true, decide_eq_true_eq] at h
  obtain ⟨h1, h2, h3, h4, h5, h6, h7, h8⟩ := h
  refine ⟨mj_w_in h1, mj_w_in h2, h3, h4, h5, h6, h7, fun h9 => ?_, fun h9 hlt => ?_⟩
  · rw [if_pos h9] at h8
    exact of_decide_eq_true h8
  · rw [if_neg h9, if_neg (by omega)] at h8
    exact of_decide_eq_true h8
section
variable {p : Program} {l : Launch} {e : Env} {R : Room} {s : State} {m : MethodId} {args : Array Value} {below : List Frame} {meth : Method} {c : Code} {H : Heap} {locs : List Loc} {cells slots : Nat} {Q : State → Prop} {cc : ByteArray}
set_option maxHeartbeats 8000000 in
theorem mj_in_okv {D : mj_D} {s0 : State} {y z : mj_Me} {M M' : mj_H} {r : mj_R} {la : Array Slot} {st : List Value} {q : List Value × List Value} {v : Option Value} {pc d : Nat} (hx : p.tables.exec = Jvm.exec) (hb : c.code = cc) (hml : c.maxLocals = la.size) (hE : mj_env D s0) (hK : mj_K D s0 s) (hR : mj_Rp D s0 M H) (hts : ∀ w ∈ mj_tb, w.before args s = true) (hown : s.vm.findClass y.1.cls = some m.cls)
    (hd : decode cc pc = .ok (r.1, r.2.1)) (hn : mj_ln r.1 = 0 ∨ r.2.1 = mj_ln r.1) (hw : mj_ckW y r = true) (hk5 : mj_kd r.1 = 5) (h6 : r.2.2.1 ≠ 6) (h7 : r.2.2.1 ≠ 7) (hz : mj_ms[r.2.2.2.1]? = some z) (hcw : mj_cv z = true) (h : mj_ca r.2.2.1 z st M = some q) (hM : mj_Mt l D s0 d z q.1 M v M')
    (hRf : d + 1 ≤ R.frames) (hRl : 64 * d + 64 ≤ R.locals) (hc : cells + (M'.length - M.length) ≤ R.cells) (hs : slots + (mj_sl M' - mj_sl M) ≤ R.slots) (hlo : ∀ x ∈ locs, mj_A s0 x.base)
    (k : ∀ (H1 : Heap) (locs1 : List Loc), mj_Rp D s0 M' H1 → (∀ x ∈ locs1, mj_A s0 x.base) → W p l e R s m args below meth c H1 locs1 (cells + (M'.length - M.length)) (slots + (mj_sl M' - mj_sl M)) Q (F0 m (pc + 3) la (mj_shS D.2.2.2 (v.toList ++ q.2)))) : W p l e R s m args below meth c H locs cells slots Q (F0 m pc la (mj_shS D.2.2.2 st)) := by
  obtain ⟨w1, w2, w3, w4, w5, w6, w7, w8, w9⟩ := mj_cv_eq hcw
  have hG := mj_ws_good w1
  have hS : CallFix p m c cc la.size s args mj_tb y.1.cls := ⟨hx, hb, hml, hown, hts⟩
  have hroom : (mj_ro d (M'.length - M.length) (mj_sl M' - mj_sl M)).frames + 1 ≤ R.frames ∧ 8 + (z.2.2.1 + 11) + (mj_ro d (M'.length - M.length) (mj_sl M' - mj_sl M)).locals ≤ R.locals := ⟨hRf, by show 8 + (z.2.2.1 + 11) + 64 * d ≤ _; omega⟩
  have fin : ∀ (rest : List Value), q.2 = rest → ∀ (w : Option Value) (st₀ t : State) (L : List Loc), (∀ x ∈ L, mj_A s0 x.base) → mj_Qc D s0 v M' #[] st₀ (.returned w) t → W p l e R s m args below meth c t.heap (locs ++ L) (cells + (M'.length - M.length)) (slots + (mj_sl M' - mj_sl M)) Q (F0 m (pc + 3) la (w.toList ++ mj_shS D.2.2.2 rest)) := by
    intro rest hr w st₀ t L hL hq
    obtain ⟨hq1, hq2⟩ := hq
    have hw' : w = v.map (mj_sh D.2.2.2) := Outcome.returned.inj hq1
    rw [hw', mj_ret_sh, ← hr]
    exact k t.heap _ hq2 (t_lL hlo hL)
  have pre : ∀ (vs : List Value), vs = q.1 → ∀ U : State, U.heap = H → s.WarmedH U.vm → mj_Pc D s0 q.1 M (mj_shS D.2.2.2 vs).toArray U := by
    intro vs hv U hU hW
    rw [hv]
    exact ⟨rfl, mj_K_warm hW hK, by rw [hU]; exact hR⟩
  unfold mj_ca at h
  split at h
  · cases h
  · next hlen =>
    have hlen : z.2.2.2.2.1 ≤ st.length := Nat.not_lt.mp ‹¬ st.length < z.2.2.2.2.1›
    have htl : (mj_shS D.2.2.2 (st.take z.2.2.2.2.1).reverse).length = z.2.2.2.2.1 := by simp [mj_shS, List.length_take]; omega
    split at h
    · next hkind =>
      split at h
      · next hrm =>
        cases h
        have hrm8 := mj_rm_le (ad := D.2.2.2) hrm
        cases hi : r.1 with
        | invokestatic i =>
          rw [hi] at hd hn
          simp only [mj_ln] at hn
          have hlen3 : r.2.1 = 3 := by simpa using hn
          rw [hlen3] at hd
          simp only [mj_ckW, hi] at hw
          rw [if_neg h7] at hw
          simp only [Bool.and_eq_true, mj_ckI, hz] at hw
          obtain ⟨-, -, -, hw⟩ := hw
          rcases hkind with hkd | hkd <;> rw [hkd] at hw <;> simp only [Bool.and_eq_true] at hw
          · have cb := callB_of (R := R) (rm := mj_ro d (M'.length - M.length) (mj_sl M' - mj_sl M)) (mc := M'.length - M.length) (ms := mj_sl M' - mj_sl M) z.2.2.2.2.1 hts hG rfl rfl rfl (hts _ w2) (hts _ (mj_w_in hw.1)) ⟨w4, w5, w3⟩ hroom
            exact mj_callK (W.runS (g := F0 m pc la (mj_shS D.2.2.2 st)) hS hM ⟨cb, hts _ (mj_w_in hw.2)⟩ ⟨mj_blind, pre _ rfl⟩ rfl htl rfl mj_take_split2 (by show 2 * 0 + _ ≤ 8; omega) hd ⟨hc, hs⟩) (fin _ rfl)
          · have cb := va_cnB (R := R) (rm := mj_ro d (M'.length - M.length) (mj_sl M' - mj_sl M)) (mc := M'.length - M.length) (ms := mj_sl M' - mj_sl M) z.2.2.2.2.1 hts hG rfl rfl rfl (hK.2.2.2 _ _ _ _ (mj_wN_in hw.1)) (hts _ w2) ⟨w4, w5, w3⟩ hroom
            exact mj_callN (va_runSN (g := F0 m pc la (mj_shS D.2.2.2 st)) hS hM ⟨cb, hts _ (mj_w_in hw.2), trivial⟩ ⟨mj_blind, pre _ rfl⟩ rfl htl rfl mj_take_split2 (by show 2 * 0 + _ ≤ 8; omega) hd ⟨hc, hs⟩) (fin _ rfl)
        | invokevirtual i =>
          simp only [mj_ckW, hi, Bool.and_eq_true, Bool.or_eq_true, decide_eq_true_eq] at hw
          omega
        | invokespecial i =>
          simp only [mj_ckW, hi] at hw
          rw [if_neg h6] at hw
          simp only [Bool.and_eq_true, Bool.or_eq_true, decide_eq_true_eq] at hw
          omega
        | _ => rw [hi] at hk5; simp [mj_kd] at hk5
      · cases h
    · next hkind =>
      split at h
      · next b rest hdrop =>
        split at h
        · next hrm =>
          have hrm8 := mj_rm_le (ad := D.2.2.2) hrm
          split at h
          · next hkd =>
            cases h
            cases hi : r.1 with
            | invokespecial i =>
              rw [hi] at hd hn
              simp only [mj_ln] at hn
              have hlen3 : r.2.1 = 3 := by simpa using hn
              rw [hlen3] at hd
              simp only [mj_ckW, hi] at hw
              rw [if_neg h6] at hw
              simp only [Bool.and_eq_true, mj_ckI, hz] at hw
              obtain ⟨-, -, -, hw⟩ := hw
              rcases hkd with hkd | hkd <;> rw [hkd] at hw <;> simp only [Bool.and_eq_true, decide_eq_true_eq] at hw
              · obtain ⟨u1, u2, u3, u4⟩ := hw
                have cb := callB_of (R := R) (rm := mj_ro d (M'.length - M.length) (mj_sl M' - mj_sl M)) (mc := M'.length - M.length) (ms := mj_sl M' - mj_sl M) z.2.2.2.2.1 hts hG rfl rfl rfl (hts _ w2) (hts _ (mj_w_in u1)) ⟨w4, w5, w3⟩ hroom
                rw [u4] at cb
                exact mj_callK (W.runI (g := F0 m pc la (mj_shS D.2.2.2 st)) (As := mj_shS D.2.2.2 (st.take z.2.2.2.2.1).reverse) (b := D.2.2.2 b) hS hM ⟨cb, u3, hts _ (mj_w_in u2)⟩ ⟨mj_blind, pre _ rfl⟩ rfl htl rfl (mj_take_split hdrop) (by show 2 * 0 + _ ≤ 8; omega) hd ⟨hc, hs⟩) (fin _ rfl)
              · obtain ⟨u1, u2, u3, u4⟩ := hw
                have cb := va_cnB (R := R) (rm := mj_ro d (M'.length - M.length) (mj_sl M' - mj_sl M)) (mc := M'.length - M.length) (ms := mj_sl M' - mj_sl M) z.2.2.2.2.1 hts hG rfl rfl rfl (hK.2.2.2 _ _ _ _ (mj_wN_in u1)) (hts _ w2) ⟨w4, w5, w3⟩ hroom
                rw [u4] at cb
                exact mj_callN (va_runIN (g := F0 m pc la (mj_shS D.2.2.2 st)) (As := mj_shS D.2.2.2 (st.take z.2.2.2.2.1).reverse) (b := D.2.2.2 b) hS hM ⟨cb, u3, hts _ (mj_w_in u2)⟩ ⟨mj_blind, pre _ rfl⟩ rfl htl rfl (mj_take_split hdrop) (by show 2 * 0 + _ ≤ 8; omega) hd ⟨hc, hs⟩) (fin _ rfl)
            | invokevirtual i =>
              simp only [mj_ckW, hi, Bool.and_eq_true, Bool.or_eq_true, decide_eq_true_eq] at hw
              omega
            | invokestatic i =>
              simp only [mj_ckW, hi] at hw
              rw [if_neg h7] at hw
              simp only [Bool.and_eq_true, Bool.or_eq_true, decide_eq_true_eq] at hw
              omega
            | _ => rw [hi] at hk5; simp [mj_kd] at hk5
          · next hkd =>
            split at h
            · next qc hqc =>
              split at h
              · next hcls =>
                cases h
                have hrecv : ∃ cellB : Cell, H[D.2.2.2 b]? = some cellB ∧ cellB.vm.isStatics = false ∧ s.vm.findClass z.1.cls = some cellB.cls ∨ 999 ≤ qc.1 := by
                  by_cases h9 : qc.1 = 900
                  · have hl : b < mj_E := by
                      by_cases hl : b < mj_E
                      · exact hl
                      · rcases hR.2.2.2.2 b qc hqc (Nat.not_lt.mp hl) with ⟨r, h1, -⟩ | ⟨h1, h2, -⟩
                        · have := mj_cl_lt h1; omega
                        · omega
                    rcases hR.2.2.2.1 b qc hqc hl with ⟨h1, -⟩ | ⟨-, -, h3, -⟩
                    · omega
                    · have hkept : ∀ x : Nat, x < s0.heap.size → ¬ mj_A s0 x → H[x]? = s0.heap[x]? := fun x hx _ => hR.2.2.1 x hx
                      obtain ⟨cell, g1, g2, g3, -⟩ := va_O.kept (va_O.moved hK.1 h3) hkept
                      refine ⟨cell, Or.inl ⟨g1, g2, ?_⟩⟩
                      rw [w8 (hcls.symm.trans h9)]
                      exact g3
                  · by_cases h99 : qc.1 < 999
                    · have hcl := w9 (by rw [← hcls]; exact h9) (by rw [← hcls]; exact h99)
                      rw [← hcls, List.getElem?_map] at hcl
                      cases hr : mj_cl[qc.1]? with
                      | none => rw [hr] at hcl; cases hcl
                      | some rr =>
                        rw [hr] at hcl
                        have hcl : rr.1 = z.1.cls := Option.some.inj hcl
                        obtain ⟨-, -, cell, c1, c2, c3, -⟩ := mj_obj hR hqc hr
                        refine ⟨cell, Or.inl ⟨c1, by rw [c3]; rfl, ?_⟩⟩
                        rw [c2, ← hcl]
                        exact (u_Kn_moved hK.1 (hE.1 _ rr hr)).2.1
                    · exact ⟨default, Or.inr (by omega)⟩
                cases hi : r.1 with
                | invokevirtual i =>
                  rw [hi] at hd hn
                  simp only [mj_ln] at hn
                  have hlen3 : r.2.1 = 3 := by simpa using hn
                  rw [hlen3] at hd
                  simp only [mj_ckW, hi, Bool.and_eq_true, mj_ckI, hz, Bool.or_eq_true, decide_eq_true_eq] at hw
                  obtain ⟨hk01, -, -, hw⟩ := hw
                  rcases hk01 with hkd0 | hkd0 <;> rw [hkd0] at hw <;> simp only [Bool.and_eq_true, decide_eq_true_eq] at hw
                  · obtain ⟨u1, u2, u3, u4⟩ := hw
                    obtain ⟨cellB, hB⟩ := hrecv
                    have hB := hB.resolve_right (by omega)
                    have cb := callB_of (R := R) (rm := mj_ro d (M'.length - M.length) (mj_sl M' - mj_sl M)) (mc := M'.length - M.length) (ms := mj_sl M' - mj_sl M) z.2.2.2.2.1 hts hG rfl rfl rfl (hts _ w2) (hts _ (mj_w_in u1)) ⟨w4, w5, w3⟩ hroom
                    exact mj_callK (W.runV (g := F0 m pc la (mj_shS D.2.2.2 st)) (As := mj_shS D.2.2.2 (st.take z.2.2.2.2.1).reverse) (b := D.2.2.2 b) hS hM ⟨cb, hts _ (mj_w_in u2), hts _ (mj_w_in u3)⟩ ⟨mj_blind, ⟨cellB, hB⟩, pre _ rfl⟩ rfl htl rfl (mj_take_split hdrop) (by show 2 * 0 + _ ≤ 8; omega) hd ⟨hc, hs⟩) (fin _ rfl)
                  · obtain ⟨u1, u2, u3, u4⟩ := hw
                    obtain ⟨cellB, hB⟩ := hrecv
                    have hB := hB.resolve_right (by omega)
                    have cb := va_cnB (R := R) (rm := mj_ro d (M'.length - M.length) (mj_sl M' - mj_sl M)) (mc := M'.length - M.length) (ms := mj_sl M' - mj_sl M) z.2.2.2.2.1 hts hG rfl rfl rfl (hK.2.2.2 _ _ _ _ (mj_wN_in u1)) (hts _ w2) ⟨w4, w5, w3⟩ hroom
                    exact mj_callN (va_runVN (g := F0 m pc la (mj_shS D.2.2.2 st)) (As := mj_shS D.2.2.2 (st.take z.2.2.2.2.1).reverse) (b := D.2.2.2 b) hS hM ⟨cb, hts _ (mj_w_in u2), hts _ (mj_w_in u3)⟩ ⟨mj_blind, ⟨cellB, hB⟩, pre _ rfl⟩ rfl htl rfl (mj_take_split hdrop) (by show 2 * 0 + _ ≤ 8; omega) hd ⟨hc, hs⟩) (fin _ rfl)
                | invokespecial i =>
                  simp only [mj_ckW, hi] at hw
                  rw [if_neg h6] at hw
                  simp only [Bool.and_eq_true, Bool.or_eq_true, decide_eq_true_eq] at hw
                  omega
                | invokestatic i =>
                  simp only [mj_ckW, hi] at hw
                  rw [if_neg h7] at hw
                  simp only [Bool.and_eq_true, Bool.or_eq_true, decide_eq_true_eq] at hw
                  omega
                | _ => rw [hi] at hk5; simp [mj_kd] at hk5
              · cases h
            · cases h
        · cases h
      · cases h
end
section
variable {p : Program} {l : Launch} {e : Env} {R : Room} {s : State} {m : MethodId} {args : Array Value} {below : List Frame} {meth : Method} {c : Code} {H : Heap} {locs : List Loc} {cells slots : Nat} {Q : State → Prop} {cc : ByteArray}
set_option maxHeartbeats 8000000 in
theorem mj_go_okv {D : mj_D} {s0 : State} {y : mj_Me} {d : Nat} {call : mj_F} {Qf : Option Value → mj_H → State → Prop} (hx : p.tables.exec = Jvm.exec) (hb : c.code = y.2.1) (hml : c.maxLocals = y.2.2.1) (hE : mj_env D s0) (hK : mj_K D s0 s) (hts : ∀ w ∈ mj_tb, w.before args s = true) (hown : s.vm.findClass y.1.cls = some m.cls) (hmn : y.1.name = "<init>" → meth.name = "<init>")
    (hcr : mj_cr y = true) (hRf : d ≤ R.frames) (hRl : 64 * d ≤ R.locals) (hcw : ∀ (j : Nat) (z : mj_Me), mj_ms[j]? = some z → j ≠ 1 → j < 380 → mj_cv z = true)
    (hmono : ∀ (j : Nat) (vs : List Value) (M : mj_H) (v : Option Value) (M' : mj_H), call j vs M = some (v, M') → M.length ≤ M'.length ∧ mj_sl M ≤ mj_sl M')
    (hcall : ∀ (j : Nat) (vs : List Value) (M : mj_H) (v : Option Value) (M' : mj_H) (z : mj_Me), d ≠ 0 → call j vs M = some (v, M') → mj_ms[j]? = some z → j ≠ 1 → j < 380 → mj_Mt l D s0 (d - 1) z vs M v M')
    (hret : ∀ (pc len : Nat) (i : Jvm.ClassFile.Instr) (la : Array Slot) (st : List Value) (v : Option Value) (M : mj_H) (H : Heap) (locs : List Loc) (cells slots : Nat), decode y.2.1 pc = .ok (i, len) → (mj_ln i = 0 ∨ len = mj_ln i) → mj_re y.2.2.2.1 i st = some v → mj_Rp D s0 M H → (∀ x ∈ locs, mj_A s0 x.base) → cells ≤ R.cells → slots ≤ R.slots → W p l e R s m args below meth c H locs cells slots (Qf v M) (F0 m pc la (mj_shS D.2.2.2 st))) :
    ∀ (n pc : Nat) (ls : mj_L) (st : List Value) (M : mj_H) (v : Option Value) (M' : mj_H), mj_go d call y n pc ls st M = some (v, M') → ∀ (H : Heap) (locs : List Loc) (la : Array Slot) (cells slots : Nat), cells + (M'.length - M.length) ≤ R.cells → slots + (mj_sl M' - mj_sl M) ≤ R.slots → mj_Rp D s0 M H → (∀ x ∈ locs, mj_A s0 x.base) → lv_has la y.2.2.1 (mj_shL D.2.2.2 ls) →
      W p l e R s m args below meth c H locs cells slots (Qf v M') (F0 m pc la (mj_shS D.2.2.2 st)) := by
  intro n
  induction n with
  | zero => intro pc ls st M v M' h; simp [mj_go] at h
  | succ n ih =>
    intro pc ls st M v M' h H locs la cells slots hc hs hR hlo hl
    unfold mj_go at h
    split at h
    · next r hr =>
      have hck := mj_cz_at _ 0 hcr pc r hr
      rw [Nat.zero_add] at hck
      obtain ⟨hd, hn, hw⟩ := mj_ck_eq hck
      split at h
      · split at h
        · next st' hq => exact mj_pu_ok hx hb hl hd hn hq (ih _ _ _ _ _ _ h H locs la cells slots hc hs hR hlo hl)
        · cases h
      · split at h
        · next q hq => exact mj_lo_ok hx hb hl hd hn hq (fun la' hl' => ih _ _ _ _ _ _ h H locs la' cells slots hc hs hR hlo hl')
        · cases h
      · split at h
        · next q hq => exact mj_br_ok hx hb hd hn hq (ih _ _ _ _ _ _ h H locs la cells slots hc hs hR hlo hl)
        · cases h
      · split at h
        · next st' hq => exact mj_hr_ok hx hb hE hK hR hts hown hd hn hw hq (ih _ _ _ _ _ _ h H locs la cells slots hc hs hR hlo hl)
        · cases h
      · split at h
        · next q hq =>
          have h1 := mj_hw_mono hq
          have h2 := mj_go_mono hmono _ _ _ _ _ _ _ h
          exact mj_hw_ok hx hb hE hK hR hts hown hmn hd hn hw hq (by omega) (by omega) hlo (fun H1 locs1 hR1 hlo1 => ih _ _ _ _ _ _ h H1 locs1 la _ _ (by omega) (by omega) hR1 hlo1 hl)
        · cases h
      · next hk5 =>
        split at h
        · cases h
        · next hd0 =>
          split at h
          · next h6 =>
            split at h
            · next a s1 =>
              split at h
              · next hrm =>
                have hrm8 := mj_rm_le (ad := D.2.2.2) hrm
                have hi : ∃ i, r.1 = .invokespecial i := by
                  cases hi : r.1 with
                  | invokespecial i => exact ⟨i, rfl⟩
                  | invokevirtual i =>
                    simp only [mj_ckW, hi, Bool.and_eq_true, Bool.or_eq_true, decide_eq_true_eq] at hw
                    omega
                  | invokestatic i =>
                    simp only [mj_ckW, hi] at hw
                    rw [if_neg (by omega)] at hw
                    simp only [Bool.and_eq_true, Bool.or_eq_true, decide_eq_true_eq] at hw
                    omega
                  | _ => rw [hi] at hk5; simp [mj_kd] at hk5
                obtain ⟨i, hi⟩ := hi
                rw [hi] at hd hn
                have hlen3 : r.2.1 = 3 := by simpa [mj_ln] using hn
                rw [hlen3] at hd
                simp only [mj_ckW, hi] at hw
                rw [if_pos h6] at hw
                exact W.objInit (g := F0 m pc la (.ref (D.2.2.2 a) :: mj_shS D.2.2.2 s1)) hx hb hown (hts _ (mj_w_in hw)) (hts _ mj_oi_w.1) (hts _ mj_oi_w.2) rfl (hl.1.trans hml.symm) rfl hd (by omega) (by show 2 * 0 + _ + 12 ≤ _; omega) (ih _ _ _ _ _ _ h H locs la cells slots hc hs hR hlo hl)
              · cases h
            · cases h
          · next h6 =>
            split at h
            · next h7 =>
              split at h
              · next q hq =>
                split at h
                · next hrm =>
                  have h1 := mj_cp_mono hq
                  have hi : ∃ i, r.1 = .invokestatic i := by
                    cases hi : r.1 with
                    | invokestatic i => exact ⟨i, rfl⟩
                    | invokevirtual i =>
                      simp only [mj_ckW, hi, Bool.and_eq_true, Bool.or_eq_true, decide_eq_true_eq] at hw
                      omega
                    | invokespecial i =>
                      simp only [mj_ckW, hi] at hw
                      rw [if_neg (by omega)] at hw
                      simp only [Bool.and_eq_true, Bool.or_eq_true, decide_eq_true_eq] at hw
                      omega
                    | _ => rw [hi] at hk5; simp [mj_kd] at hk5
                  obtain ⟨i, hi⟩ := hi
                  rw [hi] at hd hn
                  have hlen3 : r.2.1 = 3 := by simpa [mj_ln] using hn
                  rw [hlen3] at hd
                  simp only [mj_ckW, hi] at hw
                  rw [if_pos h7] at hw
                  exact mj_cp_ok hx hb (hml.trans hl.1.symm) hE hK hR hts hown (mj_w_in hw) (by omega) (by omega) hd hq hrm hlo (fun H1 locs1 hR1 hlo1 => ih _ _ _ _ _ _ h H1 locs1 la _ _ (by omega) (by omega) hR1 hlo1 hl)
                · cases h
              · cases h
            · next h7 =>
              split at h
              · next z hz =>
                split at h
                · next q hq =>
                  split at h
                  · next t ht =>
                    obtain ⟨j1, j2⟩ := mj_ck_j hw hk5 h6 h7
                    have h1 := hmono _ _ _ _ _ ht
                    have h2 := mj_go_mono hmono _ _ _ _ _ _ _ h
                    have hM := hcall _ _ _ t.1 t.2 z hd0 ht hz j1 j2
                    exact mj_in_okv hx hb (hml.trans hl.1.symm) hE hK hR hts hown hd hn hw hk5 h6 h7 hz (hcw _ _ hz j1 j2) hq hM (by omega) (by omega) (by omega) (by omega) hlo (fun H1 locs1 hR1 hlo1 => ih _ _ _ _ _ _ h H1 locs1 la _ _ (by omega) (by omega) hR1 hlo1 hl)
                  · cases h
                · cases h
              · cases h
      · split at h
        · next v' hq =>
          cases h
          exact hret _ _ _ _ _ _ _ _ _ _ _ hd hn hq hR hlo (by omega) (by omega)
        · cases h
      · cases h
    · cases h
end
theorem mj_98v {D : mj_D} {s0 : State} (l : Launch) (hZ0 : mj_fz s0) (hcw : mj_cv mj_m99 = true) (hcw8 : mj_cv mj_m98 = true) {d : Nat} {i n : Int32} {M : mj_H} (h0 : ¬ i < 0) (h1 : i < n) : mj_Mt l D s0 (d + 1) mj_m98 [.int i, .int n] M none M := by
  unfold mj_Mt
  rw [Nat.sub_self, Nat.sub_self]
  obtain ⟨w1, w2, w3, w4, w5, w6, w7, w8, w9⟩ := mj_cv_eq hcw
  have hG := mj_ws_good w1
  refine Met.ofW (cc := mj_m98.2.1) (maxL := mj_m98.2.2.1) (ret := mj_m98.2.2.2.1) (by decide +kernel) rfl ?_
  intro p e s m args below meth c s₁ B hml hv
  obtain ⟨rfl, hK, hR⟩ := hv
  have hts := atoms_spec (ws := mj_ws mj_m98) B.pre
  have hts' : ∀ w ∈ mj_tb, w.before (mj_shS D.2.2.2 [.int i, .int n]).toArray s = true := fun w hw => hts w (List.mem_cons_of_mem _ hw)
  have hown : s.vm.findClass mj_m98.1.cls = some m.cls := findClass_of_methodNamed B.named
  have hl := lv_entry (mj_shS D.2.2.2 [.int i, .int n]) (n := mj_m98.2.2.1) (by simp [lg_sl, mj_shS, mj_sh, Value.category, mj_m98])
  rw [lg_entry_eq]
  rw [mj_args_sh] at hl
  generalize (lg_sl (mj_shS D.2.2.2 [.int i, .int n]) ++ List.replicate (mj_m98.2.2.1 - (lg_sl (mj_shS D.2.2.2 [.int i, .int n])).length) Slot.unset).toArray = la at hl ⊢
  refine mj_pu_ok (ad := D.2.2.2) (st := []) (st' := [.int i]) B.exec B.bytes hl (show decode mj_m98.2.1 0 = .ok (.iload_n 0, 1) by decide +kernel) (by simp [mj_ln]) rfl ?_
  refine mj_pu_ok (st' := [.int n, .int i]) B.exec B.bytes hl (show decode mj_m98.2.1 1 = .ok (.iload_n 1, 1) by decide +kernel) (by simp [mj_ln]) rfl ?_
  obtain ⟨w, hw⟩ := hZ0
  have hZ := va_Z.kept (va_Z.moved hK.1 hw) (fun a ha _ => hR.2.2.1 a ha)
  refine va_gets B.exec B.bytes hZ va_S.rf hown (hts' _ mj_98w.1) (fun x hx => hx) (show decode mj_m98.2.1 2 = .ok (.getstatic 1053, 3) by decide +kernel) ?_
  have hS : CallFix p m c mj_m98.2.1 la.size s (mj_shS D.2.2.2 [.int i, .int n]).toArray mj_tb mj_m98.1.cls := ⟨B.exec, B.bytes, hml.trans hl.1.symm, hown, hts'⟩
  have hroom : (mj_ro 0 0 0).frames + 1 ≤ (headSpec (mj_ws mj_m98) (mj_ro (d + 1) 0 0)).room.frames ∧ 8 + (mj_m99.2.2.1 + 11) + (mj_ro 0 0 0).locals ≤ (headSpec (mj_ws mj_m98) (mj_ro (d + 1) 0 0)).room.locals := ⟨by show 0 + 1 ≤ d + 1; omega, by show 8 + (3 + 11) + 64 * 0 ≤ 64 * (d + 1); omega⟩
  have cb := callB_of (R := (headSpec (mj_ws mj_m98) (mj_ro (d + 1) 0 0)).room) (rm := mj_ro 0 0 0) (mc := 0) (ms := 0) mj_m99.2.2.2.2.1 hts' hG rfl rfl rfl (hts' _ w2) (hts' _ mj_98w.2.1) ⟨w4, w5, w3⟩ hroom
  refine mj_callK (W.runS (g := F0 m 5 la (w :: mj_shS D.2.2.2 [.int n, .int i])) (As := [.int i, .int n, w]) (rest := []) hS (mj_99 (D := D) (s0 := s0) (w := w) (M := M) l h0 h1) ⟨cb, hts' _ mj_98w.2.2⟩ ⟨fun _ _ _ _ q => ⟨q.1, mj_K_same rfl q.2.1, q.2.2⟩, fun U hU hW => ⟨rfl, mj_K_warm hW hK, by rw [hU]; exact hR⟩⟩ rfl rfl rfl rfl (by show 2 * 0 + _ ≤ 8; simp) (show decode mj_m98.2.1 5 = .ok (.invokestatic 1059, 3) by decide +kernel) ⟨Nat.le_refl _, Nat.le_refl _⟩) ?_
  intro v st₀ t L hL hq
  obtain ⟨hq1, hq2⟩ := hq
  have hv : v = some (.int i) := Outcome.returned.inj hq1
  subst hv
  refine mj_pu_ok (ad := D.2.2.2) (st := [.int i]) (st' := []) B.exec B.bytes hl (show decode mj_m98.2.1 8 = .ok (.pop, 1) by decide +kernel) (by simp [mj_ln]) rfl ?_
  exact mj_re_ok (v := none) B.exec B.bytes B.returns B.notSynchronized hq2 (fun x hx => hL x (by simpa using hx)) (show decode mj_m98.2.1 9 = .ok (.return_, 1) by decide +kernel) (by simp [mj_ln]) (by simp [mj_re, mj_m98])

theorem mj_mainv {D : mj_D} {s0 : State} (l : Launch) (hE : mj_env D s0) (hZ0 : mj_fz s0) (hck : ∀ (j : Nat) (z : mj_Me), mj_ms[j]? = some z → mj_cr z = true) (hcw : ∀ (j : Nat) (z : mj_Me), mj_ms[j]? = some z → j ≠ 1 → j < 380 → mj_cv z = true) {fuel : Nat} :
    ∀ (d j : Nat) (vs : List Value) (M : mj_H) (v : Option Value) (M' : mj_H) (z : mj_Me), mj_ex fuel d j vs M = some (v, M') → mj_ms[j]? = some z → j ≠ 1 → j < 380 → mj_Mt l D s0 (d - 1) z vs M v M' := by
  intro d
  induction d with
  | zero => intro j vs M v M' z h; simp [mj_ex] at h
  | succ d ih =>
    intro j vs M v M' z h hz j1 j2
    unfold mj_ex at h
    split at h
    · next h98 =>
      subst h98
      obtain ⟨i, n, rfl, hd0, h0, h1, h5⟩ := mj_ci_eq h
      cases h5
      cases (show some mj_m98 = some z from hz)
      obtain ⟨d, rfl⟩ : ∃ d', d = d' + 1 := ⟨d - 1, by omega⟩
      exact mj_98v l hZ0 (hcw 99 mj_m99 rfl (by decide) (by decide)) (hcw 98 mj_m98 rfl (by decide) (by decide)) h0 h1
    rw [hz] at h
    dsimp only at h
    split at h
    · next hfit =>
      obtain ⟨w1, w2, w3, w4, w5, w6, w7, w8, w9⟩ := mj_cv_eq (hcw j z hz j1 j2)
      unfold mj_Mt
      refine va_MetF (cc := z.2.1) (maxL := z.2.2.1) (ret := z.2.2.2.1) w6 rfl ?_
      intro p e s m args below meth c s₁ B hml hv
      obtain ⟨rfl, hK, hR⟩ := hv
      have hts := atoms_spec (ws := mj_ws z) B.pre
      have hts' : ∀ w ∈ mj_tb, w.before (mj_shS D.2.2.2 vs).toArray s = true := fun w hw => hts w (List.mem_cons_of_mem _ hw)
      have hown : s.vm.findClass z.1.cls = some m.cls := findClass_of_methodNamed B.named
      have hl := lv_entry (mj_shS D.2.2.2 vs) (n := z.2.2.1) (by rw [mj_slots_sh]; exact hfit)
      rw [lg_entry_eq]
      rw [mj_args_sh] at hl
      generalize (lg_sl (mj_shS D.2.2.2 vs) ++ List.replicate (z.2.2.1 - (lg_sl (mj_shS D.2.2.2 vs)).length) Slot.unset).toArray = la at hl ⊢
      exact mj_go_okv (d := d) (Qf := fun v1 M1 => MQ below (mj_Qc D s0 v1 M1) (mj_shS D.2.2.2 vs).toArray s (M'.length - M.length) (mj_sl M' - mj_sl M) (mj_A s0)) B.exec B.bytes hml hE hK hts' hown (fun hz => (name_of_methodNamed B.named B.method).1.trans hz) (hck j z hz) (Nat.le_refl d) (Nat.le_refl _) hcw (fun j vs M v M' h => mj_ex_mono d j vs M v M' h) (fun j vs M v M' z _ h1 h2 h3 h4 => ih j vs M v M' z h1 h2 h3 h4)
        (fun pc len i la st v1 M1 H locs cells slots hd hn h1 hR1 hlo1 hc1 hs1 => W.widen (k := M'.length - M.length) (n := mj_sl M' - mj_sl M) hc1 hs1 (mj_re_ok B.exec B.bytes B.returns B.notSynchronized hR1 hlo1 hd hn h1)) fuel 0 (lv_args 0 vs) [] M v M' h s.heap [] la 0 0 (by show 0 + _ ≤ M'.length - M.length; omega) (by show 0 + _ ≤ mj_sl M' - mj_sl M; omega) hR (fun x hx => by cases hx) hl
    · cases h

set_option maxHeartbeats 8000000 in
set_option maxRecDepth 100000 in
theorem mj_wholev (hck : ∀ (j : Nat) (z : mj_Me), mj_ms[j]? = some z → mj_cr z = true) (hcw : ∀ (j : Nat) (z : mj_Me), mj_ms[j]? = some z → j ≠ 1 → j < 380 → mj_cv z = true) (hg : mj_Goal)
    {p : Program} {e : Env} {s : State} {m : MethodId} {below : List Frame} {meth : Method} {c : Code} (l : Launch) {b L : Nat} {xs : Nat → Int32} (hL : L ≤ 640) (C0 : lw_At p s m meth c b L xs) : W p l e room_1 s m #[Value.ref b] below meth c s.heap [] 0 0 (lw_Z below #[Value.ref b] s) (entryFrame m ([Value.ref b] : List Value).toArray 4) := by
  obtain ⟨hx, hb, hr, hml, hown, hts, hX, hbl, hlocks, hgv⟩ := id C0
  have hylen : ((List.range L).map xs).length = L := by simp
  obtain ⟨D, hE, hK, hR, h0⟩ := mj_begin (args := #[Value.ref b]) (ys := (List.range L).map xs) (flat_of_before _ hgv) hts hX (by omega) hylen (fun j hj => by simp [List.getD, List.getElem?_map, List.getElem?_range hj])
  obtain ⟨fuel, d, M', hd, hgo, hcM, hsM⟩ := hg ((List.range L).map xs) (by rw [hylen]; exact hL)
  have hl := lv_entry ([.ref b]) (n := 4) (Nat.le_of_ble_eq_true rfl)
  rw [lg_entry_eq]
  generalize (lg_sl ([.ref b]) ++ List.replicate (4 - (lg_sl ([.ref b])).length) Slot.unset).toArray = la at hl ⊢
  have hl : lv_has la 4 (mj_shL D.2.2.2 [(0, .ref 0)]) := by
    show lv_has la 4 [(0, .ref (D.2.2.2 0))]
    rw [h0]
    exact hl
  have htb : ∀ w ∈ mj_tb, w.before #[Value.ref b] s = true := fun w hw => hts w (List.mem_filter.mp hw).1
  have hlen := mj_X_len ((List.range L).map xs)
  have hW := mj_go_okv (l := l) (e := e) (R := room_1) (s := s) (m := m) (args := #[Value.ref b]) (below := below) (meth := meth) (c := c) (y := mj_m380) (d := d) (call := mj_ex fuel d) (Qf := fun v _ t => v = some (.int 1) → lw_Z below #[Value.ref b] s t) hx hb hml hE hK htb hown (fun hz => absurd hz (by decide +kernel)) (hck 380 mj_m380 rfl) (by show d ≤ 2048; omega) (by show 64 * d ≤ 84000; omega) hcw (fun j vs M v M' h => mj_ex_mono d j vs M v M' h) (fun j vs M v M' z _ h1 h2 h3 h4 => mj_mainv l hE (mj_fz_of hts) hck hcw d j vs M v M' z h1 h2 h3 h4)
    (fun pc len i la st v M H locs cells slots hd hn h1 hR1 hlo1 hc1 hs1 => by
      by_cases hv : v = some (.int 1)
      · subst hv
        have hst : i = .ireturn ∧ st = [.int 1] := by
          unfold mj_re at h1
          split at h1
          · split at h1
            · split at h1
              · cases h1; exact ⟨rfl, rfl⟩
              · cases h1
            · cases h1
          · split at h1 <;> cases h1
          · split at h1
            · split at h1
              · next hz => cases h1; cases hz
              · split at h1
                · cases h1
                · cases h1
            · split at h1
              · next hz => cases h1; cases hz
              · split at h1
                · cases h1
                · cases h1
            · cases h1
          · split at h1 <;> cases h1
          · cases h1
        obtain ⟨rfl, rfl⟩ := hst
        have hlen1 : len = 1 := by simpa [mj_ln] using hn
        subst hlen1
        have hW2 : W p l e room_1 s m #[Value.ref b] below meth c H locs cells slots (lw_Z below #[Value.ref b] s) (F0 m pc la [.int 1]) := by
          refine va_forget (fun q hq => hlo1 q hq) ?_
          refine W.widen (k := 600000) (n := 7302250) hc1 hs1 ?_
          exact lw_ret hx hb hr hlocks hd
        intro T hT X
        obtain ⟨t, a1, b1⟩ := hW2 T hT X
        exact ⟨t, a1, fun _ => b1⟩
      · intro T hT X
        exact ⟨_, Steps.refl _, fun h => absurd h hv⟩)
    fuel 0 [(0, .ref 0)] [] (mj_X ((List.range L).map xs)) (some (.int 1)) M' hgo s.heap [] la 0 0 (by show 0 + _ ≤ 600000; rw [hlen]; omega) (by show 0 + _ ≤ 7302250; omega) hR (fun x hx => by cases hx) hl
  intro T hT X
  obtain ⟨t, a1, b1⟩ := hW T hT X
  exact ⟨t, a1, b1 rfl⟩

