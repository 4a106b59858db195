/-! The small machine is right, 5: copying, calling, coming back. -/
/-- the words of a method that is called: code, class initialised, how many parameters, how many locals, its class's number -/
def mj_cw (z : mj_Me) : Bool := mj_w z.2.2.2.2.2.2.1.1 (.code z.1 z.2.1 z.2.2.1 z.2.2.2.1) && (mj_w z.2.2.2.2.2.2.1.2.2.2 (.initialized z.1.cls) && (decide ((parseMethodDescriptor z.1.desc).map (fun d => d.parameters.length) = some z.2.2.2.2.1) && (decide (z.1.cls ≠ "java/lang/invoke/MethodHandle") && (decide (z.1.cls ≠ "java/lang/invoke/VarHandle") && (plainName z.1.cls && (decide (z.2.2.1 ≤ 45) &&
  (if z.2.2.2.2.2.1 = 900 then decide (z.1.cls = "java/lang/String") else if z.2.2.2.2.2.1 = 999 then true else decide ((mj_cl.map (fun q => q.1))[z.2.2.2.2.2.1]? = some z.1.cls))))))))
def mj_ws (y : mj_Me) : List Cond := .code y.1 y.2.1 y.2.2.1 y.2.2.2.1 :: mj_tb
abbrev mj_Qc (D : mj_D) (s0 : State) (v : Option Value) (M : mj_H) : Array Value → State → Outcome → State → Prop := fun _ _ o t => o = .returned (v.map (mj_sh D.2.2.2)) ∧ mj_Rp D s0 M t.heap
abbrev mj_Pc (D : mj_D) (s0 : State) (vs : List Value) (M : mj_H) : Array Value → State → Prop := va_Pc (mj_shS D.2.2.2 vs) (fun U => mj_K D s0 U ∧ mj_Rp D s0 M U.heap)
def mj_ro (d mc ms : Nat) : Room := { frames := d, cells := mc, slots := ms, locals := 64 * d }
theorem mj_K_warm {D : mj_D} {s0 s U : State} (hW : s.WarmedH U.vm) (h : mj_K D s0 s) : mj_K D s0 U :=
  ⟨h.1.trans hW.alike, fun own i tx k h1 h2 => vk_R.warm hW (h.2.1 own i tx k h1 h2), fun a i b n d t h1 => va_Nw.warmF hW (h.2.2.1 a i b n d t h1), fun a i x t h1 => va_Nw.warmM hW (h.2.2.2 a i x t h1)⟩
theorem mj_K_same {D : mj_D} {s0 s U : State} (hv : U.vm = s.vm) (h : mj_K D s0 s) : mj_K D s0 U :=
  ⟨by rw [hv]; exact h.1, fun own i tx k h1 h2 => vk_R.same hv (h.2.1 own i tx k h1 h2), fun a i b n d t h1 => va_Nw.same rfl hv.symm (h.2.2.1 a i b n d t h1), fun a i x t h1 => va_Nw.same rfl hv.symm (h.2.2.2 a i x t h1)⟩
theorem mj_blind {D : mj_D} {s0 : State} {vs : List Value} {M : mj_H} : FrameBlind (mj_Pc D s0 vs M) := fun _ _ _ _ q => ⟨q.1, mj_K_same rfl q.2.1, q.2.2⟩
theorem mj_sum_sh (ad : Nat → Nat) (st : List Value) : ((mj_shS ad st).map fun v => v.category).sum = (st.map fun v => v.category).sum := by
  simp [mj_shS, List.map_map, Function.comp_def, mj_sh_cat]
theorem mj_rm_le {ad : Nat → Nat} {st : List Value} (h : mj_rm st = true) : ((mj_shS ad st).map fun v => v.category).sum ≤ 8 := by
  rw [mj_sum_sh]
  exact of_decide_eq_true h
theorem mj_ck_eq {y : mj_Me} {pc : Nat} {r : mj_R} (h : mj_ck y pc r = true) : decode y.2.1 pc = .ok (r.1, r.2.1) ∧ (mj_ln r.1 = 0 ∨ r.2.1 = mj_ln r.1) ∧ mj_ckW y r = true := by
  unfold mj_ck at h
  simp only [Bool.and_eq_true, Bool.or_eq_true, decide_eq_true_eq] at h
  refine ⟨?_, h.2.1, h.2.2⟩
  have h1 := h.1
  split at h1
  · next q hq => rw [hq, of_decide_eq_true h1]
  · cases h1
theorem mj_oi_w : Cond.instanceMethod objectInit ∈ mj_tb ∧ Cond.code objectInit ⟨#[0xb1]⟩ 1 none ∈ mj_tb := ⟨mj_w_in (p := 4122) (by decide +kernel), mj_w_in (p := 4123) (by decide +kernel)⟩
theorem mj_cp_w : Cond.native arraycopyName ∈ mj_tb ∧ Cond.static arraycopyName ∈ mj_tb ∧ Cond.initialized "java/lang/System" ∈ mj_tb := ⟨mj_w_in (p := 8400) (by decide +kernel), mj_w_in (p := 8399) (by decide +kernel), mj_w_in (p := 4108) (by decide +kernel)⟩
theorem mj_cpl_get {α : Type} (f g : List α) (sp dp n j : Nat) (h4 : sp + n ≤ f.length) (h5 : dp + n ≤ g.length) : (g.take dp ++ ((f.drop sp).take n ++ g.drop (dp + n)))[j]? = if dp ≤ j ∧ j < dp + n then f[sp + (j - dp)]? else g[j]? := by
  have l1 : (g.take dp).length = dp := by rw [List.length_take]; omega
  have l2 : ((f.drop sp).take n).length = n := by rw [List.length_take, List.length_drop]; omega
  by_cases h1 : j < dp
  · rw [if_neg (by omega), List.getElem?_append_left (by omega), List.getElem?_take_of_lt h1]
  · rw [List.getElem?_append_right (by omega), l1]
    by_cases h2 : j < dp + n
    · rw [if_pos ⟨by omega, h2⟩, List.getElem?_append_left (by omega), List.getElem?_take_of_lt (by omega), List.getElem?_drop]
    · rw [if_neg (by omega), List.getElem?_append_right (by omega), l2, List.getElem?_drop]
      congr 1
      omega
theorem mj_cpl_len {α : Type} (f g : List α) (sp dp n : Nat) (h4 : sp + n ≤ f.length) (h5 : dp + n ≤ g.length) : (g.take dp ++ ((f.drop sp).take n ++ g.drop (dp + n))).length = g.length := by
  simp only [List.length_append, List.length_take, List.length_drop]
  omega
theorem mj_arrV_ext {cA : ClassId} {N : Nat} {f g : Nat → Value} (h : ∀ j, j < N → f j = g j) : arrV cA N f = arrV cA N g := by
  have : (fun j : Fin N => f j.val) = fun j : Fin N => g j.val := by
    funext j
    exact h j.val j.isLt
  simp only [arrV, this]
theorem mj_cp_mono {st : List Value} {M : mj_H} {q : List Value × mj_H} (h : mj_cp st M = some q) : M.length = q.2.length ∧ mj_sl M = mj_sl q.2 := by
  unfold mj_cp at h
  split at h
  · split at h
    · cases h
    · split at h
      · next f g hf hg =>
        split at h
        · next hz =>
          obtain ⟨z1, z2, z3, z4, z5, z6, z7, z8⟩ := hz
          cases h
          refine ⟨by simp, ?_⟩
          show mj_sl M = mj_sl (M.set _ _)
          rw [mj_sl_set hg (mj_cpl_len _ _ _ _ _ z6 z7)]
        · cases h
      · cases h
  · cases h
section MJ5
variable {p : Program} {l : Launch} {e : Env} {R : Room} {s : State} {m : MethodId} {args : Array Value} {below : List Frame} {meth : Method} {c : Code} {H : Heap} {locs : List Loc} {cells slots : Nat} {Q : State → Prop} {cc : ByteArray}
set_option maxHeartbeats 8000000 in
theorem mj_cp_ok {D : mj_D} {s0 : State} {M : mj_H} {own : String} {i : Nat} {la : Array Slot} {st : List Value} {q : List Value × mj_H} {pc : Nat} (hx : p.tables.exec = Jvm.exec) (hb : c.code = cc) (hml : c.maxLocals = la.size) (hE : mj_env D s0) (hK : mj_K D s0 s) (hR : mj_Rp D s0 M H) (hts : ∀ w ∈ mj_tb, w.before args s = true) (hown : s.vm.findClass own = some m.cls)
    (hlink : Cond.methodLink own i arraycopyName ∈ mj_tb) (hframes : 1 ≤ R.frames) (hlocals : 64 ≤ R.locals) (hd : decode cc pc = .ok (.invokestatic i, 3)) (h : mj_cp st M = some q) (hrm : mj_rm q.1 = true) (hlo : ∀ z ∈ locs, mj_A s0 z.base)
    (k : ∀ (H1 : Heap) (locs1 : List Loc), mj_Rp D s0 q.2 H1 → (∀ z ∈ locs1, mj_A s0 z.base) → W p l e R s m args below meth c H1 locs1 cells slots Q (F0 m (pc + 3) la (mj_shS D.2.2.2 q.1))) : W p l e R s m args below meth c H locs cells slots Q (F0 m pc la (mj_shS D.2.2.2 st)) := by
  unfold mj_cp at h
  split at h
  · next n dp b sp a s1 =>
    split at h
    · cases h
    · next hl =>
      split at h
      · next f g hf hg =>
        split at h
        · next hz =>
          obtain ⟨z1, z2, h1, h2, h3, h4, h5, h6⟩ := hz
          cases h
          have hlb : mj_E ≤ b := Nat.not_lt.mp (fun z => ‹¬ (b < mj_E ∨ a < mj_E)› (Or.inl z))
          have hla : mj_E ≤ a := Nat.not_lt.mp (fun z => ‹¬ (b < mj_E ∨ a < mj_E)› (Or.inr z))
          have nn : ∀ z : Int32, ¬ z < 0 → z.toInt = (z.toNatClampNeg : Int) := by
            intro z hz
            have hz0 : (0 : Int) ≤ z.toInt := by
              have := Int32.not_lt.mp hz
              simpa using Int32.le_iff_toInt_le.mp this
            show z.toInt = ((z.toInt.toNat : Nat) : Int)
            omega
          intro T hT X
          obtain ⟨f10, hc0⟩ := mj_arr_at hR hla hf (by omega)
          obtain ⟨g10, hc1⟩ := mj_arr_at hR hlb hg (by omega)
          have hA0 := arrOfT_moved hK.1 (hE.2.1 f.1 (by omega) f10).1 f.2.length (fun j => mj_sh D.2.2.2 (f.2.getD j .null))
          have hA1 := arrOfT_moved hK.1 (hE.2.1 g.1 (by omega) g10).1 g.2.length (fun j => mj_sh D.2.2.2 (g.2.getD j .null))
          rw [show mj_aty f.1 = .int by rw [z1]; rfl] at hA0
          rw [show mj_aty g.1 = .int by rw [z2]; rfl] at hA1
          obtain ⟨-, k0, hk0, cm0, hkk0⟩ := hA0
          obtain ⟨-, k1, hk1, cm1, hkk1⟩ := hA1
          have hs8 : ((mj_shS D.2.2.2 s1).map fun v => v.category).sum ≤ 8 := mj_rm_le hrm
          obtain ⟨vm', X', step⟩ := X.arraycopy hx hown (hts _ hlink) (hts _ mj_cp_w.1) (hts _ mj_cp_w.2.1) (hts _ mj_cp_w.2.2) (src := D.2.2.2 a) (dst := D.2.2.2 b) (srcPos := sp) (destPos := dp) (n := n) (by rw [hT]; exact hc0) (by rw [hT]; exact hc1)
            (fun _ h => by cases h) (fun _ h => by cases h) (fun h => by cases h) (fun h => by cases h) hk0 hk1 hkk0 hkk1 (by simp [refKind]) h1 h2 h3
            (by rw [nn sp h1, nn n h3, arrV_size]; omega)
            (by rw [nn dp h2, nn n h3, arrV_size]; omega)
            (fun vm₁ _ i hi => by
              have e : (arrV (D.2.2.1 f.1) f.2.length (fun j => mj_sh D.2.2.2 (f.2.getD j .null))).slots.getD (sp.toNatClampNeg + i) .null = mj_sh D.2.2.2 (f.2.getD (sp.toNatClampNeg + i) .null) := by
                rw [Array.getD_eq_getD_getElem?, arrV_read _ _ (by omega)]
                rfl
              have hin : f.2.getD (sp.toNatClampNeg + i) .null ∈ (f.2.drop sp.toNatClampNeg).take n.toNatClampNeg := by
                refine List.mem_of_getElem? (i := i) ?_
                rw [List.getElem?_take_of_lt hi, List.getElem?_drop]
                simp [List.getD, List.getElem?_eq_getElem (show sp.toNatClampNeg + i < f.2.length by omega)]
              have hfi := List.all_eq_true.mp h6 _ hin
              rw [e]
              cases hv : f.2.getD (sp.toNatClampNeg + i) .null <;> rw [hv] at hfi <;> first | exact ⟨rfl, trivial⟩ | (simp [fits] at hfi; done))
            (g := F0 m pc la (.int n :: .int dp :: .ref (D.2.2.2 b) :: .int sp :: .ref (D.2.2.2 a) :: mj_shS D.2.2.2 s1)) rfl (by rw [hml]) (rest := mj_shS D.2.2.2 s1) rfl (by rw [hb]; exact hd) hframes (by
              show 2 * 0 + _ + (nativeFrameWords "java/lang/System" "arraycopy" 5 + 11) ≤ _
              have : nativeFrameWords "java/lang/System" "arraycopy" 5 = 7 := by decide +kernel
              omega)
          have e1 : copied (arrV (D.2.2.1 f.1) f.2.length (fun j => mj_sh D.2.2.2 (f.2.getD j .null))) (arrV (D.2.2.1 g.1) g.2.length (fun j => mj_sh D.2.2.2 (g.2.getD j .null))) sp dp n = arrV (D.2.2.1 g.1) g.2.length (fun j => va_cpy (fun j => mj_sh D.2.2.2 (f.2.getD j .null)) (fun j => mj_sh D.2.2.2 (g.2.getD j .null)) sp.toNatClampNeg dp.toNatClampNeg n.toNatClampNeg j) := va_copied (fun z => z) _ _ _ _ h4
          rw [e1] at X' step
          have hlt : D.2.2.2 b < H.size := (Array.getElem?_eq_some_iff.mp hc1).1
          obtain ⟨cN, hcN⟩ : ∃ x, x = arrV (D.2.2.1 g.1) g.2.length (fun j => va_cpy (fun j => mj_sh D.2.2.2 (f.2.getD j .null)) (fun j => mj_sh D.2.2.2 (g.2.getD j .null)) sp.toNatClampNeg dp.toNatClampNeg n.toNatClampNeg j) := ⟨_, rfl⟩
          rw [← hcN] at X' step
          have hheap : ((T.setVm vm').setCell (D.2.2.2 b) cN).heap = H.setIfInBounds (D.2.2.2 b) cN := by rw [← hT]; rfl
          have oq : ∀ z : Nat, z ≠ D.2.2.2 b → (H.setIfInBounds (D.2.2.2 b) cN)[z]? = H[z]? := fun z hz => by simp [Array.getElem?_setIfInBounds, Ne.symm hz]
          have hlen := mj_cpl_len f.2 g.2 sp.toNatClampNeg dp.toNatClampNeg n.toNatClampNeg h4 h5
          have hR' := mj_Rp_set (c' := (1000, g.2.take dp.toNatClampNeg ++ ((f.2.drop sp.toNatClampNeg).take n.toNatClampNeg ++ g.2.drop (dp.toNatClampNeg + n.toNatClampNeg)))) hE hR hlb (List.getElem?_eq_some_iff.mp hg).1 (H1 := H.setIfInBounds (D.2.2.2 b) cN) (by simp) oq (Or.inr ⟨Nat.le_refl _, by show 1000 < 1010; omega, by
            rw [Array.getElem?_setIfInBounds, if_pos rfl, if_pos hlt, hcN]
            show some _ = some (arrV (D.2.2.1 1000) (g.2.take dp.toNatClampNeg ++ ((f.2.drop sp.toNatClampNeg).take n.toNatClampNeg ++ g.2.drop (dp.toNatClampNeg + n.toNatClampNeg))).length _)
            rw [hlen, z2]
            congr 1
            refine mj_arrV_ext fun j hj => ?_
            show va_cpy _ _ _ _ _ j = mj_sh D.2.2.2 ((g.2.take dp.toNatClampNeg ++ ((f.2.drop sp.toNatClampNeg).take n.toNatClampNeg ++ g.2.drop (dp.toNatClampNeg + n.toNatClampNeg))).getD j .null)
            unfold va_cpy
            simp only [List.getD]
            rw [mj_cpl_get _ _ _ _ _ _ h4 h5]
            split <;> rfl⟩)
          obtain ⟨t, a1, b1⟩ := k _ _ hR' (fun z hz => by
            rcases List.mem_append.mp hz with h | h
            · exact hlo z h
            · obtain ⟨y, -, hy⟩ := List.mem_map.mp h
              rw [← hy]
              exact mj_A_ad hE hlb) _ hheap X'
          exact ⟨t, step t a1, b1⟩
        · cases h
      · cases h
  · cases h
theorem mj_callK {g : JFrame} {rest : List Value} {mc ms : Nat} {free : Addr → Prop} {Qa : State → Outcome → State → Prop} (hr : CallRun p l e R s m args below meth c H locs cells slots mc ms g rest Qa free)
    (kk : ∀ (v : Option Value) (st₀ t : State) (L : List Loc), (∀ q ∈ L, free q.base) → Qa st₀ (.returned v) t → W p l e R s m args below meth c t.heap (locs ++ L) (cells + mc) (slots + ms) Q { g with pc := g.pc + 3, stack := v.toList ++ rest }) : W p l e R s m args below meth c H locs cells slots Q g := by
  intro T hT X
  obtain ⟨v, st₀, t, T', L, h0, X', hL, e1, hq, st⟩ := hr T hT X
  obtain ⟨t2, a1, b1⟩ := kk v st₀ t L hL hq T' e1 X'
  exact ⟨t2, st t2 a1, b1⟩
theorem mj_callN {g : JFrame} {rest : List Value} {mc ms : Nat} {free : Addr → Prop} {Qa : State → Outcome → State → Prop} (hr : va_Run p l e R s m args below meth c H locs cells slots mc ms g rest Qa free)
    (kk : ∀ (v : Option Value) (st₀ t : State) (L : List Loc), (∀ q ∈ L, free q.base) → Qa st₀ (.returned v) t → W p l e R s m args below meth c t.heap (locs ++ L) (cells + mc) (slots + ms) Q { g with pc := g.pc + 3, stack := v.toList ++ rest }) : W p l e R s m args below meth c H locs cells slots Q g := by
  intro T hT X
  obtain ⟨v, st₀, t, T', L, h0, X', hL, e1, -, hq, st⟩ := hr T hT X
  obtain ⟨t2, a1, b1⟩ := kk v st₀ t L hL hq T' e1 X'
  exact ⟨t2, st t2 a1, b1⟩
end MJ5
