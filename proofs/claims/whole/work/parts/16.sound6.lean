/-! The small machine is right, 6: a call, by the callee's contract; a method's frame; every call. -/
/-- the callee's contract, as the machine's answer tells it -/
def mj_Mt (l : Launch) (D : mj_D) (s0 : State) (d : Nat) (z : mj_Me) (vs : List Value) (M : mj_H) (v : Option Value) (M' : mj_H) : Prop :=
  Met l z.1 (mj_ws z) (mj_ro d (M'.length - M.length) (mj_sl M' - mj_sl M)) (mj_Pc D s0 vs M) (mj_Qc D s0 v M') (M'.length - M.length) (mj_sl M' - mj_sl M) (mj_A s0)
theorem mj_ws_good {z : mj_Me} (h : Cond.code z.1 z.2.1 z.2.2.1 z.2.2.2.1 ∈ mj_tb) : GoodIn mj_tb (mj_ws z) := fun w hw => by
  rcases List.mem_cons.mp hw with rfl | hw
  · exact mj_tb_good _ h
  · exact mj_tb_good _ hw
theorem mj_cw_eq {z : mj_Me} (h : mj_cw z = true) : Cond.code z.1 z.2.1 z.2.2.1 z.2.2.2.1 ∈ mj_tb ∧ Cond.initialized z.1.cls ∈ mj_tb ∧ (parseMethodDescriptor z.1.desc).map (fun d => d.parameters.length) = some z.2.2.2.2.1 ∧ z.1.cls ≠ "java/lang/invoke/MethodHandle" ∧ z.1.cls ≠ "java/lang/invoke/VarHandle" ∧ plainName z.1.cls = true ∧ z.2.2.1 ≤ 45 ∧
    (z.2.2.2.2.2.1 = 900 → z.1.cls = "java/lang/String") ∧ (z.2.2.2.2.2.1 ≠ 900 → z.2.2.2.2.2.1 < 999 → (mj_cl.map (fun q => q.1))[z.2.2.2.2.2.1]? = some z.1.cls) := by
  unfold mj_cw at h
  simp only [Bool.and_eq_true, decide_eq_true_eq] at h
  obtain ⟨h1, h2, h3, h4, h5, h6, h7, h8⟩ := h
  refine ⟨mj_w_in h1, mj_w_in h2, h3, h4, h5, h6, h7, fun h9 => ?_, fun h9 hlt => ?_⟩
  · rw [if_pos h9] at h8
    exact of_decide_eq_true h8
  · rw [if_neg h9, if_neg (by omega)] at h8
    exact of_decide_eq_true h8
theorem mj_take_split {ad : Nat → Nat} {st rest : List Value} {b n : Nat} (h : st.drop n = .ref b :: rest) : mj_shS ad st = (mj_shS ad (st.take n).reverse).reverse ++ .ref (ad b) :: mj_shS ad rest := by
  have h1 : st = st.take n ++ st.drop n := (List.take_append_drop n st).symm
  conv => lhs; rw [h1, h]
  simp [mj_shS, mj_sh]
theorem mj_take_split2 {ad : Nat → Nat} {st : List Value} {n : Nat} : mj_shS ad st = (mj_shS ad (st.take n).reverse).reverse ++ mj_shS ad (st.drop n) := by
  have h1 : st = st.take n ++ st.drop n := (List.take_append_drop n st).symm
  conv => lhs; rw [h1]
  simp [mj_shS]
theorem mj_ret_sh {ad : Nat → Nat} {v : Option Value} {rest : List Value} : (v.map (mj_sh ad)).toList ++ mj_shS ad rest = mj_shS ad (v.toList ++ rest) := by cases v <;> simp [mj_shS]
section MJ6
variable {p : Program} {l : Launch} {e : Env} {R : Room} {s : State} {m : MethodId} {args : Array Value} {below : List Frame} {meth : Method} {c : Code} {H : Heap} {locs : List Loc} {cells slots : Nat} {Q : State → Prop} {cc : ByteArray}
set_option maxHeartbeats 8000000 in
theorem mj_in_ok {D : mj_D} {s0 : State} {y z : mj_Me} {M M' : mj_H} {r : mj_R} {la : Array Slot} {st : List Value} {q : List Value × List Value} {v : Option Value} {pc d : Nat} (hx : p.tables.exec = Jvm.exec) (hb : c.code = cc) (hml : c.maxLocals = la.size) (hE : mj_env D s0) (hK : mj_K D s0 s) (hR : mj_Rp D s0 M H) (hts : ∀ w ∈ mj_tb, w.before args s = true) (hown : s.vm.findClass y.1.cls = some m.cls)
    (hd : decode cc pc = .ok (r.1, r.2.1)) (hn : mj_ln r.1 = 0 ∨ r.2.1 = mj_ln r.1) (hw : mj_ckW y r = true) (hk5 : mj_kd r.1 = 5) (h6 : r.2.2.1 ≠ 6) (h7 : r.2.2.1 ≠ 7) (hz : mj_ms[r.2.2.2.1]? = some z) (hcw : mj_cw z = true) (h : mj_ca r.2.2.1 z st M = some q) (hM : mj_Mt l D s0 d z q.1 M v M')
    (hRf : d + 1 ≤ R.frames) (hRl : 64 * d + 64 ≤ R.locals) (hc : cells + (M'.length - M.length) ≤ R.cells) (hs : slots + (mj_sl M' - mj_sl M) ≤ R.slots) (hlo : ∀ x ∈ locs, mj_A s0 x.base)
    (k : ∀ (H1 : Heap) (locs1 : List Loc), mj_Rp D s0 M' H1 → (∀ x ∈ locs1, mj_A s0 x.base) → W p l e R s m args below meth c H1 locs1 (cells + (M'.length - M.length)) (slots + (mj_sl M' - mj_sl M)) Q (F0 m (pc + 3) la (mj_shS D.2.2.2 (v.toList ++ q.2)))) : W p l e R s m args below meth c H locs cells slots Q (F0 m pc la (mj_shS D.2.2.2 st)) := by
  obtain ⟨w1, w2, w3, w4, w5, w6, w7, w8, w9⟩ := mj_cw_eq hcw
  have hG := mj_ws_good w1
  have hS : CallFix p m c cc la.size s args mj_tb y.1.cls := ⟨hx, hb, hml, hown, hts⟩
  have hroom : (mj_ro d (M'.length - M.length) (mj_sl M' - mj_sl M)).frames + 1 ≤ R.frames ∧ 8 + (z.2.2.1 + 11) + (mj_ro d (M'.length - M.length) (mj_sl M' - mj_sl M)).locals ≤ R.locals := ⟨hRf, by show 8 + (z.2.2.1 + 11) + 64 * d ≤ _; omega⟩
  have fin : ∀ (rest : List Value), q.2 = rest → ∀ (w : Option Value) (st₀ t : State) (L : List Loc), (∀ x ∈ L, mj_A s0 x.base) → mj_Qc D s0 v M' #[] st₀ (.returned w) t → W p l e R s m args below meth c t.heap (locs ++ L) (cells + (M'.length - M.length)) (slots + (mj_sl M' - mj_sl M)) Q (F0 m (pc + 3) la (w.toList ++ mj_shS D.2.2.2 rest)) := by
    intro rest hr w st₀ t L hL hq
    obtain ⟨hq1, hq2⟩ := hq
    have hw' : w = v.map (mj_sh D.2.2.2) := Outcome.returned.inj hq1
    rw [hw', mj_ret_sh, ← hr]
    exact k t.heap _ hq2 (t_lL hlo hL)
  have pre : ∀ (vs : List Value), vs = q.1 → ∀ U : State, U.heap = H → s.WarmedH U.vm → mj_Pc D s0 q.1 M (mj_shS D.2.2.2 vs).toArray U := by
    intro vs hv U hU hW
    rw [hv]
    exact ⟨rfl, mj_K_warm hW hK, by rw [hU]; exact hR⟩
  unfold mj_ca at h
  split at h
  · cases h
  · next hlen =>
    have hlen : z.2.2.2.2.1 ≤ st.length := Nat.not_lt.mp ‹¬ st.length < z.2.2.2.2.1›
    have htl : (mj_shS D.2.2.2 (st.take z.2.2.2.2.1).reverse).length = z.2.2.2.2.1 := by simp [mj_shS, List.length_take]; omega
    split at h
    · next hkind =>
      split at h
      · next hrm =>
        cases h
        have hrm8 := mj_rm_le (ad := D.2.2.2) hrm
        cases hi : r.1 with
        | invokestatic i =>
          rw [hi] at hd hn
          simp only [mj_ln] at hn
          have hlen3 : r.2.1 = 3 := by simpa using hn
          rw [hlen3] at hd
          simp only [mj_ckW, hi] at hw
          rw [if_neg h7] at hw
          simp only [Bool.and_eq_true, mj_ckI, hz] at hw
          obtain ⟨-, -, -, hw⟩ := hw
          rcases hkind with hkd | hkd <;> rw [hkd] at hw <;> simp only [Bool.and_eq_true] at hw
          · have cb := callB_of (R := R) (rm := mj_ro d (M'.length - M.length) (mj_sl M' - mj_sl M)) (mc := M'.length - M.length) (ms := mj_sl M' - mj_sl M) z.2.2.2.2.1 hts hG rfl rfl rfl (hts _ w2) (hts _ (mj_w_in hw.1)) ⟨w4, w5, w3⟩ hroom
            exact mj_callK (W.runS (g := F0 m pc la (mj_shS D.2.2.2 st)) hS hM ⟨cb, hts _ (mj_w_in hw.2)⟩ ⟨mj_blind, pre _ rfl⟩ rfl htl rfl mj_take_split2 (by show 2 * 0 + _ ≤ 8; omega) hd ⟨hc, hs⟩) (fin _ rfl)
          · have cb := va_cnB (R := R) (rm := mj_ro d (M'.length - M.length) (mj_sl M' - mj_sl M)) (mc := M'.length - M.length) (ms := mj_sl M' - mj_sl M) z.2.2.2.2.1 hts hG rfl rfl rfl (hK.2.2.2 _ _ _ _ (mj_wN_in hw.1)) (hts _ w2) ⟨w4, w5, w3⟩ hroom
            exact mj_callN (va_runSN (g := F0 m pc la (mj_shS D.2.2.2 st)) hS hM ⟨cb, hts _ (mj_w_in hw.2), trivial⟩ ⟨mj_blind, pre _ rfl⟩ rfl htl rfl mj_take_split2 (by show 2 * 0 + _ ≤ 8; omega) hd ⟨hc, hs⟩) (fin _ rfl)
        | invokevirtual i =>
          simp only [mj_ckW, hi, Bool.and_eq_true, Bool.or_eq_true, decide_eq_true_eq] at hw
          omega
        | invokespecial i =>
          simp only [mj_ckW, hi] at hw
          rw [if_neg h6] at hw
          simp only [Bool.and_eq_true, Bool.or_eq_true, decide_eq_true_eq] at hw
          omega
        | _ => rw [hi] at hk5; simp [mj_kd] at hk5
      · cases h
    · next hkind =>
      split at h
      · next b rest hdrop =>
        split at h
        · next hrm =>
          have hrm8 := mj_rm_le (ad := D.2.2.2) hrm
          split at h
          · next hkd =>
            cases h
            cases hi : r.1 with
            | invokespecial i =>
              rw [hi] at hd hn
              simp only [mj_ln] at hn
              have hlen3 : r.2.1 = 3 := by simpa using hn
              rw [hlen3] at hd
              simp only [mj_ckW, hi] at hw
              rw [if_neg h6] at hw
              simp only [Bool.and_eq_true, mj_ckI, hz] at hw
              obtain ⟨-, -, -, hw⟩ := hw
              rcases hkd with hkd | hkd <;> rw [hkd] at hw <;> simp only [Bool.and_eq_true, decide_eq_true_eq] at hw
              · obtain ⟨u1, u2, u3, u4⟩ := hw
                have cb := callB_of (R := R) (rm := mj_ro d (M'.length - M.length) (mj_sl M' - mj_sl M)) (mc := M'.length - M.length) (ms := mj_sl M' - mj_sl M) z.2.2.2.2.1 hts hG rfl rfl rfl (hts _ w2) (hts _ (mj_w_in u1)) ⟨w4, w5, w3⟩ hroom
                rw [u4] at cb
                exact mj_callK (W.runI (g := F0 m pc la (mj_shS D.2.2.2 st)) (As := mj_shS D.2.2.2 (st.take z.2.2.2.2.1).reverse) (b := D.2.2.2 b) hS hM ⟨cb, u3, hts _ (mj_w_in u2)⟩ ⟨mj_blind, pre _ rfl⟩ rfl htl rfl (mj_take_split hdrop) (by show 2 * 0 + _ ≤ 8; omega) hd ⟨hc, hs⟩) (fin _ rfl)
              · obtain ⟨u1, u2, u3, u4⟩ := hw
                have cb := va_cnB (R := R) (rm := mj_ro d (M'.length - M.length) (mj_sl M' - mj_sl M)) (mc := M'.length - M.length) (ms := mj_sl M' - mj_sl M) z.2.2.2.2.1 hts hG rfl rfl rfl (hK.2.2.2 _ _ _ _ (mj_wN_in u1)) (hts _ w2) ⟨w4, w5, w3⟩ hroom
                rw [u4] at cb
                exact mj_callN (va_runIN (g := F0 m pc la (mj_shS D.2.2.2 st)) (As := mj_shS D.2.2.2 (st.take z.2.2.2.2.1).reverse) (b := D.2.2.2 b) hS hM ⟨cb, u3, hts _ (mj_w_in u2)⟩ ⟨mj_blind, pre _ rfl⟩ rfl htl rfl (mj_take_split hdrop) (by show 2 * 0 + _ ≤ 8; omega) hd ⟨hc, hs⟩) (fin _ rfl)
            | invokevirtual i =>
              simp only [mj_ckW, hi, Bool.and_eq_true, Bool.or_eq_true, decide_eq_true_eq] at hw
              omega
            | invokestatic i =>
              simp only [mj_ckW, hi] at hw
              rw [if_neg h7] at hw
              simp only [Bool.and_eq_true, Bool.or_eq_true, decide_eq_true_eq] at hw
              omega
            | _ => rw [hi] at hk5; simp [mj_kd] at hk5
          · next hkd =>
            split at h
            · next qc hqc =>
              split at h
              · next hcls =>
                cases h
                have hrecv : ∃ cellB : Cell, H[D.2.2.2 b]? = some cellB ∧ cellB.vm.isStatics = false ∧ s.vm.findClass z.1.cls = some cellB.cls ∨ 999 ≤ qc.1 := by
                  by_cases h9 : qc.1 = 900
                  · have hl : b < mj_E := by
                      by_cases hl : b < mj_E
                      · exact hl
                      · rcases hR.2.2.2.2 b qc hqc (Nat.not_lt.mp hl) with ⟨r, h1, -⟩ | ⟨h1, h2, -⟩
                        · have := mj_cl_lt h1; omega
                        · omega
                    rcases hR.2.2.2.1 b qc hqc hl with ⟨h1, -⟩ | ⟨-, -, h3, -⟩
                    · omega
                    · have hkept : ∀ x : Nat, x < s0.heap.size → ¬ mj_A s0 x → H[x]? = s0.heap[x]? := fun x hx _ => hR.2.2.1 x hx
                      obtain ⟨cell, g1, g2, g3, -⟩ := va_O.kept (va_O.moved hK.1 h3) hkept
                      refine ⟨cell, Or.inl ⟨g1, g2, ?_⟩⟩
                      rw [w8 (hcls.symm.trans h9)]
                      exact g3
                  · by_cases h99 : qc.1 < 999
                    · have hcl := w9 (by rw [← hcls]; exact h9) (by rw [← hcls]; exact h99)
                      rw [← hcls, List.getElem?_map] at hcl
                      cases hr : mj_cl[qc.1]? with
                      | none => rw [hr] at hcl; cases hcl
                      | some rr =>
                        rw [hr] at hcl
                        have hcl : rr.1 = z.1.cls := Option.some.inj hcl
                        obtain ⟨-, -, cell, c1, c2, c3, -⟩ := mj_obj hR hqc hr
                        refine ⟨cell, Or.inl ⟨c1, by rw [c3]; rfl, ?_⟩⟩
                        rw [c2, ← hcl]
                        exact (u_Kn_moved hK.1 (hE.1 _ rr hr)).2.1
                    · exact ⟨default, Or.inr (by omega)⟩
                cases hi : r.1 with
                | invokevirtual i =>
                  rw [hi] at hd hn
                  simp only [mj_ln] at hn
                  have hlen3 : r.2.1 = 3 := by simpa using hn
                  rw [hlen3] at hd
                  simp only [mj_ckW, hi, Bool.and_eq_true, mj_ckI, hz, Bool.or_eq_true, decide_eq_true_eq] at hw
                  obtain ⟨hk01, -, -, hw⟩ := hw
                  rcases hk01 with hkd0 | hkd0 <;> rw [hkd0] at hw <;> simp only [Bool.and_eq_true, decide_eq_true_eq] at hw
                  · obtain ⟨u1, u2, u3, u4⟩ := hw
                    obtain ⟨cellB, hB⟩ := hrecv
                    have hB := hB.resolve_right (by omega)
                    have cb := callB_of (R := R) (rm := mj_ro d (M'.length - M.length) (mj_sl M' - mj_sl M)) (mc := M'.length - M.length) (ms := mj_sl M' - mj_sl M) z.2.2.2.2.1 hts hG rfl rfl rfl (hts _ w2) (hts _ (mj_w_in u1)) ⟨w4, w5, w3⟩ hroom
                    exact mj_callK (W.runV (g := F0 m pc la (mj_shS D.2.2.2 st)) (As := mj_shS D.2.2.2 (st.take z.2.2.2.2.1).reverse) (b := D.2.2.2 b) hS hM ⟨cb, hts _ (mj_w_in u2), hts _ (mj_w_in u3)⟩ ⟨mj_blind, ⟨cellB, hB⟩, pre _ rfl⟩ rfl htl rfl (mj_take_split hdrop) (by show 2 * 0 + _ ≤ 8; omega) hd ⟨hc, hs⟩) (fin _ rfl)
                  · obtain ⟨u1, u2, u3, u4⟩ := hw
                    obtain ⟨cellB, hB⟩ := hrecv
                    have hB := hB.resolve_right (by omega)
                    have cb := va_cnB (R := R) (rm := mj_ro d (M'.length - M.length) (mj_sl M' - mj_sl M)) (mc := M'.length - M.length) (ms := mj_sl M' - mj_sl M) z.2.2.2.2.1 hts hG rfl rfl rfl (hK.2.2.2 _ _ _ _ (mj_wN_in u1)) (hts _ w2) ⟨w4, w5, w3⟩ hroom
                    exact mj_callN (va_runVN (g := F0 m pc la (mj_shS D.2.2.2 st)) (As := mj_shS D.2.2.2 (st.take z.2.2.2.2.1).reverse) (b := D.2.2.2 b) hS hM ⟨cb, hts _ (mj_w_in u2), hts _ (mj_w_in u3)⟩ ⟨mj_blind, ⟨cellB, hB⟩, pre _ rfl⟩ rfl htl rfl (mj_take_split hdrop) (by show 2 * 0 + _ ≤ 8; omega) hd ⟨hc, hs⟩) (fin _ rfl)
                | invokespecial i =>
                  simp only [mj_ckW, hi] at hw
                  rw [if_neg h6] at hw
                  simp only [Bool.and_eq_true, Bool.or_eq_true, decide_eq_true_eq] at hw
                  omega
                | invokestatic i =>
                  simp only [mj_ckW, hi] at hw
                  rw [if_neg h7] at hw
                  simp only [Bool.and_eq_true, Bool.or_eq_true, decide_eq_true_eq] at hw
                  omega
                | _ => rw [hi] at hk5; simp [mj_kd] at hk5
              · cases h
            · cases h
        · cases h
      · cases h
end MJ6
