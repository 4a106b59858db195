/-! The small machine is right, 8: String.checkIndex. -/
/-- Preconditions.checkIndex within the bounds, whatever its third argument is -/
theorem mj_99 {D : mj_D} {s0 : State} (l : Launch) {i n : Int32} {w : Value} {M : mj_H} (h0 : ¬ i < 0) (h1 : i < n) :
    Met l mj_m99.1 (mj_ws mj_m99) (mj_ro 0 0 0) (va_Pc [.int i, .int n, w] (fun U => mj_K D s0 U ∧ mj_Rp D s0 M U.heap)) (mj_Qc D s0 (some (.int i)) M) 0 0 (mj_A s0) := by
  refine Met.ofW (cc := mj_m99.2.1) (maxL := mj_m99.2.2.1) (ret := mj_m99.2.2.2.1) (by decide +kernel) rfl ?_
  intro p e s m args below meth c s₁ B hml hv
  obtain ⟨rfl, hK, hR⟩ := hv
  rw [lg_entry_eq]
  have hlen : 2 ≤ (lg_sl [.int i, .int n, w]).length := by simp [lg_sl, Value.category]
  have hl := lv_entry [.int i, .int n, w] (n := max mj_m99.2.2.1 (lg_sl [.int i, .int n, w]).length) (Nat.le_max_right _ _)
  have e1 : max mj_m99.2.2.1 (lg_sl [.int i, .int n, w]).length - (lg_sl [.int i, .int n, w]).length = mj_m99.2.2.1 - (lg_sl [.int i, .int n, w]).length := by omega
  rw [e1] at hl
  generalize (lg_sl [.int i, .int n, w] ++ List.replicate (mj_m99.2.2.1 - (lg_sl [.int i, .int n, w]).length) Slot.unset).toArray = la at hl ⊢
  have hl2 : lv_has la (max mj_m99.2.2.1 (lg_sl [.int i, .int n, w]).length) (mj_shL D.2.2.2 [(0, .int i), (1, .int n)]) := by
    refine ⟨hl.1, hl.2.1, fun q hq => hl.2.2 q ?_⟩
    simp only [mj_shL, mj_sh, List.map_cons, List.map_nil, List.mem_cons, List.mem_nil_iff, or_false] at hq
    rcases hq with rfl | rfl <;> simp [lv_args, Value.category]
  refine mj_pu_ok (st := []) (st' := [.int i]) B.exec B.bytes hl2 (show decode mj_m99.2.1 0 = .ok (.iload_n 0, 1) by decide +kernel) (by simp [mj_ln]) rfl ?_
  refine mj_br_ok (q := (4, [])) B.exec B.bytes (show decode mj_m99.2.1 1 = .ok (.ifCond .lt 8, 3) by decide +kernel) (by simp [mj_ln]) (by simp [mj_br, mj_tg, mj_c1, h0]) ?_
  refine mj_pu_ok (st' := [.int i]) B.exec B.bytes hl2 (show decode mj_m99.2.1 4 = .ok (.iload_n 0, 1) by decide +kernel) (by simp [mj_ln]) rfl ?_
  refine mj_pu_ok (st' := [.int n, .int i]) B.exec B.bytes hl2 (show decode mj_m99.2.1 5 = .ok (.iload_n 1, 1) by decide +kernel) (by simp [mj_ln]) rfl ?_
  refine mj_br_ok (q := (16, [])) B.exec B.bytes (show decode mj_m99.2.1 6 = .ok (.if_icmp .lt 10, 3) by decide +kernel) (by simp [mj_ln]) (by simp [mj_br, mj_tg, mj_c2, h1]) ?_
  refine mj_pu_ok (st' := [.int i]) B.exec B.bytes hl2 (show decode mj_m99.2.1 16 = .ok (.iload_n 0, 1) by decide +kernel) (by simp [mj_ln]) rfl ?_
  exact mj_re_ok (v := some (.int i)) B.exec B.bytes B.returns B.notSynchronized hR (fun x hx => by cases hx) (show decode mj_m99.2.1 17 = .ok (.ireturn, 1) by decide +kernel) (by simp [mj_ln]) (by simp [mj_re, mj_m99, narrow])
theorem mj_98w : Cond.fieldLink "java/lang/String" 1053 "jdk/internal/util/Preconditions" "SIOOBE_FORMATTER" "Ljava/util/function/BiFunction;" ∈ mj_tb ∧ Cond.methodLink "java/lang/String" 1059 mj_m99.1 ∈ mj_tb ∧ Cond.static mj_m99.1 ∈ mj_tb :=
  ⟨mj_w_in (p := 16390) (by decide +kernel), mj_w_in (p := 16392) (by decide +kernel), mj_w_in (p := 16393) (by decide +kernel)⟩
/-- the static has some value -/
def mj_fz (s0 : State) : Prop := ∃ w : Value, va_Z "jdk/internal/util/Preconditions" "SIOOBE_FORMATTER" "Ljava/util/function/BiFunction;" w (mj_A s0) s0 s0.heap
theorem mj_fz_of {args : Array Value} {s : State} (hts : ∀ w ∈ lw_tbl, w.before args s = true) : mj_fz s := by
  obtain ⟨cc, kc, fi, f, a, cell, hc, hi, hst, ha, hcell, hs, hcls, hlt, hty⟩ := Cond.laysStatic_spec (hts _ (mj_wN_in (p := 16391) (w := .laysStatic "jdk/internal/util/Preconditions" "SIOOBE_FORMATTER" "Ljava/util/function/BiFunction;") (by decide +kernel)))
  exact ⟨cell.slots[f.slot], cc, kc, fi, f, a, cell, hi, hst, Cond.initialized_spec hc (State.fieldFound?_spec hi).1 (hts _ (mj_wN_in (p := 4111) (w := .initialized "jdk/internal/util/Preconditions") (by decide +kernel))), ha, hcell, hs, Array.getElem?_eq_getElem hlt, Nat.not_le.mpr (Array.getElem?_eq_some_iff.mp hcell).1⟩
theorem mj_98 {D : mj_D} {s0 : State} (l : Launch) (hZ0 : mj_fz s0) (hcw : mj_cw mj_m99 = true) (hcw8 : mj_cw mj_m98 = true) {d : Nat} {i n : Int32} {M : mj_H} (h0 : ¬ i < 0) (h1 : i < n) : mj_Mt l D s0 (d + 1) mj_m98 [.int i, .int n] M none M := by
  unfold mj_Mt
  rw [Nat.sub_self, Nat.sub_self]
  obtain ⟨w1, w2, w3, w4, w5, w6, w7, w8, w9⟩ := mj_cw_eq hcw
  have hG := mj_ws_good w1
  refine Met.ofW (cc := mj_m98.2.1) (maxL := mj_m98.2.2.1) (ret := mj_m98.2.2.2.1) (by decide +kernel) rfl ?_
  intro p e s m args below meth c s₁ B hml hv
  obtain ⟨rfl, hK, hR⟩ := hv
  have hts := atoms_spec (ws := mj_ws mj_m98) B.pre
  have hts' : ∀ w ∈ mj_tb, w.before (mj_shS D.2.2.2 [.int i, .int n]).toArray s = true := fun w hw => hts w (List.mem_cons_of_mem _ hw)
  have hown : s.vm.findClass mj_m98.1.cls = some m.cls := findClass_of_methodNamed B.named
  have hl := lv_entry (mj_shS D.2.2.2 [.int i, .int n]) (n := mj_m98.2.2.1) (by simp [lg_sl, mj_shS, mj_sh, Value.category, mj_m98])
  rw [lg_entry_eq]
  rw [mj_args_sh] at hl
  generalize (lg_sl (mj_shS D.2.2.2 [.int i, .int n]) ++ List.replicate (mj_m98.2.2.1 - (lg_sl (mj_shS D.2.2.2 [.int i, .int n])).length) Slot.unset).toArray = la at hl ⊢
  refine mj_pu_ok (ad := D.2.2.2) (st := []) (st' := [.int i]) B.exec B.bytes hl (show decode mj_m98.2.1 0 = .ok (.iload_n 0, 1) by decide +kernel) (by simp [mj_ln]) rfl ?_
  refine mj_pu_ok (st' := [.int n, .int i]) B.exec B.bytes hl (show decode mj_m98.2.1 1 = .ok (.iload_n 1, 1) by decide +kernel) (by simp [mj_ln]) rfl ?_
  obtain ⟨w, hw⟩ := hZ0
  have hZ := va_Z.kept (va_Z.moved hK.1 hw) (fun a ha _ => hR.2.2.1 a ha)
  refine va_gets B.exec B.bytes hZ va_S.rf hown (hts' _ mj_98w.1) (fun x hx => hx) (show decode mj_m98.2.1 2 = .ok (.getstatic 1053, 3) by decide +kernel) ?_
  have hS : CallFix p m c mj_m98.2.1 la.size s (mj_shS D.2.2.2 [.int i, .int n]).toArray mj_tb mj_m98.1.cls := ⟨B.exec, B.bytes, hml.trans hl.1.symm, hown, hts'⟩
  have hroom : (mj_ro 0 0 0).frames + 1 ≤ (headSpec (mj_ws mj_m98) (mj_ro (d + 1) 0 0)).room.frames ∧ 8 + (mj_m99.2.2.1 + 11) + (mj_ro 0 0 0).locals ≤ (headSpec (mj_ws mj_m98) (mj_ro (d + 1) 0 0)).room.locals := ⟨by show 0 + 1 ≤ d + 1; omega, by show 8 + (3 + 11) + 64 * 0 ≤ 64 * (d + 1); omega⟩
  have cb := callB_of (R := (headSpec (mj_ws mj_m98) (mj_ro (d + 1) 0 0)).room) (rm := mj_ro 0 0 0) (mc := 0) (ms := 0) mj_m99.2.2.2.2.1 hts' hG rfl rfl rfl (hts' _ w2) (hts' _ mj_98w.2.1) ⟨w4, w5, w3⟩ hroom
  refine mj_callK (W.runS (g := F0 m 5 la (w :: mj_shS D.2.2.2 [.int n, .int i])) (As := [.int i, .int n, w]) (rest := []) hS (mj_99 (D := D) (s0 := s0) (w := w) (M := M) l h0 h1) ⟨cb, hts' _ mj_98w.2.2⟩ ⟨fun _ _ _ _ q => ⟨q.1, mj_K_same rfl q.2.1, q.2.2⟩, fun U hU hW => ⟨rfl, mj_K_warm hW hK, by rw [hU]; exact hR⟩⟩ rfl rfl rfl rfl (by show 2 * 0 + _ ≤ 8; simp) (show decode mj_m98.2.1 5 = .ok (.invokestatic 1059, 3) by decide +kernel) ⟨Nat.le_refl _, Nat.le_refl _⟩) ?_
  intro v st₀ t L hL hq
  obtain ⟨hq1, hq2⟩ := hq
  have hv : v = some (.int i) := Outcome.returned.inj hq1
  subst hv
  refine mj_pu_ok (ad := D.2.2.2) (st := [.int i]) (st' := []) B.exec B.bytes hl (show decode mj_m98.2.1 8 = .ok (.pop, 1) by decide +kernel) (by simp [mj_ln]) rfl ?_
  exact mj_re_ok (v := none) B.exec B.bytes B.returns B.notSynchronized hq2 (fun x hx => hL x (by simpa using hx)) (show decode mj_m98.2.1 9 = .ok (.return_, 1) by decide +kernel) (by simp [mj_ln]) (by simp [mj_re, mj_m98])
