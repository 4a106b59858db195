def R_law : String := "PasskeyHouseLaw"
def lw_P (b : Addr) (xs : List Int32) (args : Array Value) (s : State) : Prop := args = #[.ref b] ∧ s.IntsAt b xs ∧ xs.length ≤ 640 ∧ (Jvm.Cond.and given_1 narrow_1).before args s = true
def lw_Q (_ : Array Value) (s : State) (o : Outcome) (t : State) : Prop := o = .returned (some (.int 1)) ∧ Framed s o t [] 600000 7302250
def lw_Z (below : List Frame) (a : Array Value) (s : State) : State → Prop := fun t => ∃ o, t.status = .running ∧ Ended t below o ∧ lw_Q a s o t
/-- the law's own end, with 1 on the stack, nothing written that was there before, its room as the claim has it -/
theorem lw_ret {p : Program} {l : Launch} {e : Env} {s : State} {m : MethodId} {below : List Frame} {meth : Method} {c : Code} {b : Nat} (hx : p.tables.exec = Jvm.exec) (hb : c.code = code) (hr : meth.sig.returnType = ret) (hlocks : meth.locks = false) {pc : Nat} {H : Heap} {ls : Array Slot} (hdg : decode code pc = .ok (.ireturn, 1)) : W p l e room_1 s m #[Value.ref b] below meth c H [] 600000 7302250 (lw_Z below #[Value.ref b] s) (F0 m pc ls [.int 1]) := by
  intro T hT X
  obtain ⟨fs, hret, hrun, hended, hW, hframe⟩ := X.leave (v := some (.int 1)) (hlocks := hlocks) (fun h => by rw [hr] at h; cases h)
  have hmeth' : T.vm.method? m = some meth := X.method'
  refine ⟨T.setFrames fs, ?_, .returned (some (.int 1)), hrun, hended, rfl, ⟨_, rfl⟩, hW, hframe⟩
  jvm_step X.here [X.here.top, hx, hb, hdg, hmeth', hr, ret, narrow_b1]
  (try refine ⟨rfl, ?_⟩); (try refine ⟨rfl, ?_⟩)
  first | (intro acts; rw [hret _ acts rfl rfl rfl]) | rw [hret _ _ rfl rfl rfl]
  exact Steps.refl _
/-- what holds at the law's entry: the machine, the code, the tables' words (any of lw_tbl by 'hts w (by decide +kernel)'), the script of L ints xs at the cell b, what the Statement gives of the start (any of its parts by flat_of_before) -/
def lw_At (p : Program) (s : State) (m : MethodId) (meth : Method) (c : Code) (b L : Nat) (xs : Nat → Int32) : Prop :=
  p.tables.exec = Jvm.exec ∧ c.code = code ∧ meth.sig.returnType = ret ∧ c.maxLocals = 4 ∧ s.vm.findClass R_law = some m.cls ∧ (∀ w ∈ lw_tbl, w.before #[Value.ref b] s = true) ∧ va_X b L xs s s.heap ∧ b < s.heap.size ∧ meth.locks = false ∧ (Jvm.Cond.and given_1 narrow_1).before #[Value.ref b] s = true

/-- what is left: the small machine runs the law to 1, within the room -/
def mj_Goal : Prop := ∀ ys : List Int32, ys.length ≤ 640 → ∃ (fuel d : Nat) (M' : mj_H), d ≤ 1000 ∧ mj_go d (mj_ex fuel d) mj_m380 fuel 0 [(0, .ref 0)] [] (mj_X ys) = some (some (.int 1), M') ∧ M'.length ≤ mj_E + 600000 ∧ mj_sl M' ≤ mj_sl (mj_X ys) + 7302250
set_option maxHeartbeats 8000000 in
set_option maxRecDepth 100000 in
theorem mj_whole (hck : ∀ (j : Nat) (z : mj_Me), mj_ms[j]? = some z → mj_cr z = true) (hcw : ∀ (j : Nat) (z : mj_Me), mj_ms[j]? = some z → j ≠ 1 → j < 380 → mj_cw z = true) (hg : mj_Goal)
    {p : Program} {e : Env} {s : State} {m : MethodId} {below : List Frame} {meth : Method} {c : Code} (l : Launch) {b L : Nat} {xs : Nat → Int32} (hL : L ≤ 640) (C0 : lw_At p s m meth c b L xs) : W p l e room_1 s m #[Value.ref b] below meth c s.heap [] 0 0 (lw_Z below #[Value.ref b] s) (entryFrame m ([Value.ref b] : List Value).toArray 4) := by
  obtain ⟨hx, hb, hr, hml, hown, hts, hX, hbl, hlocks, hgv⟩ := id C0
  have hylen : ((List.range L).map xs).length = L := by simp
  obtain ⟨D, hE, hK, hR, h0⟩ := mj_begin (args := #[Value.ref b]) (ys := (List.range L).map xs) (flat_of_before _ hgv) hts hX (by omega) hylen (fun j hj => by simp [List.getD, List.getElem?_map, List.getElem?_range hj])
  obtain ⟨fuel, d, M', hd, hgo, hcM, hsM⟩ := hg ((List.range L).map xs) (by rw [hylen]; exact hL)
  have hl := lv_entry ([.ref b]) (n := 4) (Nat.le_of_ble_eq_true rfl)
  rw [lg_entry_eq]
  generalize (lg_sl ([.ref b]) ++ List.replicate (4 - (lg_sl ([.ref b])).length) Slot.unset).toArray = la at hl ⊢
  have hl : lv_has la 4 (mj_shL D.2.2.2 [(0, .ref 0)]) := by
    show lv_has la 4 [(0, .ref (D.2.2.2 0))]
    rw [h0]
    exact hl
  have htb : ∀ w ∈ mj_tb, w.before #[Value.ref b] s = true := fun w hw => hts w (List.mem_filter.mp hw).1
  have hlen := mj_X_len ((List.range L).map xs)
  have hW := mj_go_ok (l := l) (e := e) (R := room_1) (s := s) (m := m) (args := #[Value.ref b]) (below := below) (meth := meth) (c := c) (y := mj_m380) (d := d) (call := mj_ex fuel d) (Qf := fun v _ t => v = some (.int 1) → lw_Z below #[Value.ref b] s t) hx hb hml hE hK htb hown (fun hz => absurd hz (by decide +kernel)) (hck 380 mj_m380 rfl) (by show d ≤ 2048; omega) (by show 64 * d ≤ 84000; omega) hcw (fun j vs M v M' h => mj_ex_mono d j vs M v M' h) (fun j vs M v M' z _ h1 h2 h3 h4 => mj_main l hE (mj_fz_of hts) hck hcw d j vs M v M' z h1 h2 h3 h4)
    (fun pc len i la st v M H locs cells slots hd hn h1 hR1 hlo1 hc1 hs1 => by
      by_cases hv : v = some (.int 1)
      · subst hv
        have hst : i = .ireturn ∧ st = [.int 1] := by
          unfold mj_re at h1
          split at h1
          · split at h1
            · split at h1
              · cases h1; exact ⟨rfl, rfl⟩
              · cases h1
            · cases h1
          · split at h1 <;> cases h1
          · split at h1
            · split at h1
              · next hz => cases h1; cases hz
              · split at h1
                · cases h1
                · cases h1
            · split at h1
              · next hz => cases h1; cases hz
              · split at h1
                · cases h1
                · cases h1
            · cases h1
          · split at h1 <;> cases h1
          · cases h1
        obtain ⟨rfl, rfl⟩ := hst
        have hlen1 : len = 1 := by simpa [mj_ln] using hn
        subst hlen1
        have hW2 : W p l e room_1 s m #[Value.ref b] below meth c H locs cells slots (lw_Z below #[Value.ref b] s) (F0 m pc la [.int 1]) := by
          refine va_forget (fun q hq => hlo1 q hq) ?_
          refine W.widen (k := 600000) (n := 7302250) hc1 hs1 ?_
          exact lw_ret hx hb hr hlocks hd
        intro T hT X
        obtain ⟨t, a1, b1⟩ := hW2 T hT X
        exact ⟨t, a1, fun _ => b1⟩
      · intro T hT X
        exact ⟨_, Steps.refl _, fun h => absurd h hv⟩)
    fuel 0 [(0, .ref 0)] [] (mj_X ((List.range L).map xs)) (some (.int 1)) M' hgo s.heap [] la 0 0 (by show 0 + _ ≤ 600000; rw [hlen]; omega) (by show 0 + _ ≤ 7302250; omega) hR (fun x hx => by cases hx) hl
  intro T hT X
  obtain ⟨t, a1, b1⟩ := hW T hT X
  exact ⟨t, a1, b1 rfl⟩
