/-! The small machine is right, 3: writing and making. -/
theorem mj_own.kept {D : mj_D} {q : Nat} {c : mj_C} {H H1 : Heap} (h : mj_own D q c H) (hq : H1[q]? = H[q]?) : mj_own D q c H1 := by
  rcases h with ⟨r, h1, h2, h3⟩ | ⟨h1, h2, h3⟩
  · exact Or.inl ⟨r, h1, h2, h3.kept hq⟩
  · exact Or.inr ⟨h1, h2, hq.trans h3⟩
theorem mj_ad_inj {D : mj_D} {s0 : State} (hE : mj_env D s0) {i j : Nat} (hi : mj_E ≤ i) (hj : mj_E ≤ j) (h : D.2.2.2 i = D.2.2.2 j) : i = j := by
  rw [hE.2.2.1 i hi, hE.2.2.1 j hj] at h
  omega
theorem mj_Rp_set {D : mj_D} {s0 : State} {M : mj_H} {H H1 : Heap} {a : Nat} {c' : mj_C} (hE : mj_env D s0) (hR : mj_Rp D s0 M H) (hl : mj_E ≤ a) (ha : a < M.length) (hsz : H1.size = H.size) (ho : ∀ q : Nat, q ≠ D.2.2.2 a → H1[q]? = H[q]?) (hc : mj_own D (D.2.2.2 a) c' H1) : mj_Rp D s0 (M.set a c') H1 := by
  have hada := hE.2.2.1 a hl
  refine ⟨?_, ?_, ?_, ?_, ?_⟩
  · rw [List.length_set, hsz]; exact hR.1
  · rw [List.length_set]; exact hR.2.1
  · intro q hq
    rw [ho q (by omega)]
    exact hR.2.2.1 q hq
  · intro i c hi hlt
    rw [List.getElem?_set_ne (by omega)] at hi
    exact hR.2.2.2.1 i c hi hlt
  · intro i c hi hge
    by_cases hia : a = i
    · subst hia
      rw [List.getElem?_set_self ha] at hi
      cases hi
      exact hc
    · rw [List.getElem?_set_ne hia] at hi
      exact (hR.2.2.2.2 i c hi hge).kept (ho _ (fun z => hia (mj_ad_inj hE hge hl z).symm))
theorem mj_Rp_push {D : mj_D} {s0 : State} {M : mj_H} {H H1 : Heap} {c' : mj_C} (hE : mj_env D s0) (hR : mj_Rp D s0 M H) (hsz : H1.size = H.size + 1) (ho : ∀ q : Nat, q < H.size → H1[q]? = H[q]?) (hc : mj_own D H.size c' H1) : mj_Rp D s0 (M ++ [c']) H1 ∧ D.2.2.2 M.length = H.size := by
  have h1 := hR.1
  have h2 := hR.2.1
  have had : D.2.2.2 M.length = H.size := by rw [hE.2.2.1 _ h2, h1]
  refine ⟨⟨?_, ?_, ?_, ?_, ?_⟩, had⟩
  · rw [List.length_append, List.length_singleton, hsz, h1]; omega
  · rw [List.length_append]; omega
  · intro q hq
    rw [ho q (by omega)]
    exact hR.2.2.1 q hq
  · intro i c hi hlt
    rw [List.getElem?_append_left (by omega)] at hi
    exact hR.2.2.2.1 i c hi hlt
  · intro i c hi hge
    by_cases hil : i < M.length
    · rw [List.getElem?_append_left hil] at hi
      refine (hR.2.2.2.2 i c hi hge).kept (ho _ ?_)
      rw [hE.2.2.1 i hge, h1]
      omega
    · rw [List.getElem?_append_right (by omega)] at hi
      have hz : i - M.length < 1 := (List.getElem?_eq_some_iff.mp hi).1
      have : i = M.length := by omega
      subst this
      rw [Nat.sub_self] at hi
      cases hi
      rw [had]
      exact hc
theorem mj_nf {ty : FieldType} {v : Value} (ad : Nat → Nat) (h : narrow ty v = v) (hf : fits ty v = true) : narrow ty (mj_sh ad v) = mj_sh ad v ∧ fits ty (mj_sh ad v) = true := by
  cases v <;> cases ty <;> first | exact ⟨h, hf⟩ | exact ⟨rfl, rfl⟩ | (simp [fits] at hf; done)
theorem mj_updV {ad : Nat → Nat} {vs : List Value} {k : Nat} {v : Value} (hk : k < vs.length) : updV (fun j => mj_sh ad (vs.getD j .null)) k (mj_sh ad v) = fun j => mj_sh ad ((vs.set k v).getD j .null) := by
  funext j
  by_cases hj : j = k
  · subst hj
    simp [updV, List.getD, List.getElem?_set, hk]
  · simp [updV, hj, List.getD, List.getElem?_set, Ne.symm hj]
theorem mj_sl_set {M : mj_H} {a : Nat} {q c : mj_C} (h : M[a]? = some q) (hc : c.2.length = q.2.length) : mj_sl (M.set a c) = mj_sl M := by
  have : (M.set a c).map (fun c => c.2.length) = M.map (fun c => c.2.length) := by
    apply List.ext_getElem?
    intro j
    rw [List.map_set, List.getElem?_set]
    by_cases hj : a = j
    · subst hj
      have hl := (List.getElem?_eq_some_iff.mp h).1
      rw [if_pos rfl, if_pos (by simpa using hl), List.getElem?_map, h]
      simp [hc]
    · rw [if_neg hj]
  rw [mj_sl, this, mj_sl]
theorem mj_sl_push (M : mj_H) (c : mj_C) : mj_sl (M ++ [c]) = mj_sl M + c.2.length := by simp [mj_sl]
theorem mj_aw_eq {tag : Nat} {M M' : mj_H} {a : Nat} {i : Int32} {v : Value} (h : mj_aw tag M a i v = some M') : ∃ q k, mj_E ≤ a ∧ M[a]? = some q ∧ q.1 = tag ∧ ¬ i < 0 ∧ i.toNatClampNeg = k ∧ k < q.2.length ∧ M' = M.set a (q.1, q.2.set k v) := by
  unfold mj_aw at h
  split at h
  · cases h
  · next hl =>
    split at h
    · next q hq =>
      split at h
      · next ht =>
        cases hx : mj_ix i q.2.length with
        | none => rw [hx] at h; cases h
        | some k =>
          rw [hx] at h
          obtain ⟨e1, e2, e3⟩ := mj_ix_eq hx
          cases h
          exact ⟨q, k, by omega, hq, ht, e1, e2, e3, rfl⟩
      · cases h
    · cases h
/-- cells and their slots only grow -/
theorem mj_hw_mono {r : mj_R} {st : List Value} {M : mj_H} {q : List Value × mj_H} (h : mj_hw r st M = some q) : M.length ≤ q.2.length ∧ mj_sl M ≤ mj_sl q.2 := by
  have key : ∀ {tag : Nat} {a : Nat} {i : Int32} {v : Value} {s1 : List Value}, (mj_aw tag M a i v).map (s1, ·) = some q → M.length ≤ q.2.length ∧ mj_sl M ≤ mj_sl q.2 := by
    intro tag a i v s1 h
    cases hx : mj_aw tag M a i v with
    | none => rw [hx] at h; cases h
    | some M' =>
      rw [hx] at h
      cases h
      obtain ⟨c, k, -, hc, -, -, -, -, rfl⟩ := mj_aw_eq hx
      refine ⟨by simp, ?_⟩
      rw [mj_sl_set hc (by simp)]
      exact Nat.le_refl _
  unfold mj_hw at h
  split at h
  · split at h
    · cases h
    · split at h
      · next c hc =>
        split at h
        · split at h
          · cases h
            refine ⟨by simp, ?_⟩
            show mj_sl M ≤ mj_sl (M.set _ _)
            rw [mj_sl_set hc (by simp)]
            exact Nat.le_refl _
          · cases h
        · cases h
      · cases h
  · exact key h
  · exact key h
  · exact key h
  · split at h
    · split at h
      · split at h
        · exact key h
        · cases h
      · cases h
    · cases h
  · split at h
    · cases h
      exact ⟨by simp, by show mj_sl M ≤ mj_sl (M ++ [_]); rw [mj_sl_push]; omega⟩
    · cases h
  · split at h
    · cases h
    · split at h
      · cases h
        exact ⟨by simp, by show mj_sl M ≤ mj_sl (M ++ [_]); rw [mj_sl_push]; omega⟩
      · cases h
  · split at h
    · cases h
    · split at h
      · cases h
        exact ⟨by simp, by show mj_sl M ≤ mj_sl (M ++ [_]); rw [mj_sl_push]; omega⟩
      · cases h
  · cases h
theorem mj_sh_dv (ad : Nat → Nat) (t : FieldType) : mj_sh ad (defaultValue t) = defaultValue t := by cases t <;> rfl
theorem mj_cb (t : FieldType) : componentBytes t ≤ 8 := by cases t <;> simp [componentBytes]
/-- an element of an array of ours has been written -/
theorem mj_arr_set {D : mj_D} {s0 : State} {M : mj_H} {H H1 : Heap} {a k : Nat} {q : mj_C} {v : Value} (hE : mj_env D s0) (hR : mj_Rp D s0 M H) (hl : mj_E ≤ a) (hq : M[a]? = some q) (ht : 1000 ≤ q.1) (hk : k < q.2.length)
    (e1 : H1[D.2.2.2 a]? = some ((arrV (D.2.2.1 q.1) q.2.length (fun j => mj_sh D.2.2.2 (q.2.getD j .null))).setSlot k (mj_sh D.2.2.2 v))) (e2 : H1.size = H.size) (e3 : ∀ z : Nat, z ≠ D.2.2.2 a → H1[z]? = H[z]?) : mj_Rp D s0 (M.set a (q.1, q.2.set k v)) H1 := by
  refine mj_Rp_set hE hR hl (List.getElem?_eq_some_iff.mp hq).1 e2 e3 ?_
  rcases hR.2.2.2.2 a q hq hl with ⟨r, h1, -⟩ | ⟨h1, h2, h3⟩
  · have := mj_cl_lt h1; omega
  · refine Or.inr ⟨h1, h2, ?_⟩
    rw [e1, arrV_store, mj_updV hk]
    simp
theorem mj_arr_at {D : mj_D} {s0 : State} {M : mj_H} {H : Heap} {a : Nat} {q : mj_C} (hR : mj_Rp D s0 M H) (hl : mj_E ≤ a) (hq : M[a]? = some q) (ht : 1000 ≤ q.1) : q.1 < 1010 ∧ H[D.2.2.2 a]? = some (arrV (D.2.2.1 q.1) q.2.length (fun j => mj_sh D.2.2.2 (q.2.getD j .null))) := by
  rcases hR.2.2.2.2 a q hq hl with ⟨r, h1, -⟩ | ⟨h1, h2, h3⟩
  · have := mj_cl_lt h1; omega
  · exact ⟨h2, h3⟩
section MJ3
variable {p : Program} {l : Launch} {e : Env} {R : Room} {s : State} {m : MethodId} {args : Array Value} {below : List Frame} {meth : Method} {c : Code} {H : Heap} {locs : List Loc} {cells slots : Nat} {Q : State → Prop} {cc : ByteArray}
set_option maxHeartbeats 4000000 in
theorem mj_putf_ok {D : mj_D} {s0 : State} {y : mj_Me} {M : mj_H} {i ra rb rp a : Nat} {la : Array Slot} {s1 : List Value} {q : mj_C} {v : Value} {ty : FieldType} {pc : Nat} (hx : p.tables.exec = Jvm.exec) (hb : c.code = cc) (hE : mj_env D s0) (hK : mj_K D s0 s) (hR : mj_Rp D s0 M H) (hts : ∀ w ∈ mj_tb, w.before args s = true) (hown : s.vm.findClass y.1.cls = some m.cls) (hmn : y.1.name = "<init>" → meth.name = "<init>")
    (hd : decode cc pc = .ok (.putfield i, 3)) (hw : mj_ckF y.1.cls (.putfield i, 3, ra, rb, rp) i = true) (hp : mj_ckP y (.putfield i, 3, ra, rb, rp) = true) (hl : mj_E ≤ a) (hq : M[a]? = some q) (hty : (mj_ty.getD ra [])[rb]? = some ty) (ht : q.1 = ra) (hk2 : rb < q.2.length) (hn : narrow ty v = v) (hf : fits ty v = true) (hlo : ∀ z ∈ locs, mj_A s0 z.base)
    (k : ∀ (H1 : Heap) (locs1 : List Loc), mj_Rp D s0 (M.set a (q.1, q.2.set rb v)) H1 → (∀ z ∈ locs1, mj_A s0 z.base) → W p l e R s m args below meth c H1 locs1 cells slots Q (F0 m (pc + 3) la (mj_shS D.2.2.2 s1))) : W p l e R s m args below meth c H locs cells slots Q (F0 m pc la (mj_sh D.2.2.2 v :: .ref (D.2.2.2 a) :: mj_shS D.2.2.2 s1)) := by
  obtain ⟨f, hfl, hlk⟩ := mj_ckF_eq hw
  subst ht
  unfold mj_ckP at hp
  rw [hfl] at hp
  simp only [Bool.and_eq_true, decide_eq_true_eq, Bool.or_eq_true, Bool.not_eq_true'] at hp
  obtain ⟨h9, hfin⟩ := hp
  obtain ⟨r, hr, hk, rfl, hc⟩ := mj_fl_some hfl h9
  dsimp only at hr hk hlk hc hfin
  obtain ⟨-, hlen, cell, c1, c2, c3, c4⟩ := mj_obj hR hq hr
  obtain ⟨hS, hfc, kC, hkC, hkind⟩ := u_Kn_moved hK.1 (hE.1 _ r hr)
  obtain ⟨cf, kf, fi, fd, hi, hsl⟩ := hS rb hk
  obtain ⟨ty', hty', hpd⟩ := mj_fty hr hk
  cases hty.symm.trans hty'
  have hin := (mj_class hr).1
  have hst := (u_facts hfc hkC (u_lays hts hin hk) hi).1
  obtain ⟨e1, e2, -⟩ := mj_cl_map hr
  have hap : ∀ x y, x < r.2.2 → y < r.2.2 → x ≠ y → (D.2.1 q.1) x ≠ (D.2.1 q.1) y := by
    intro x y hx hy hne
    obtain ⟨_, _, _, fa, hia, ea⟩ := hS x hx
    obtain ⟨_, _, _, fb, hib, eb⟩ := hS y hy
    rw [← ea, ← eb]
    refine u_apart (u_lays hts hin hx) (u_lays hts hin hy) hia hib ?_
    obtain ⟨tx, -, hpx⟩ := mj_fty hr hx
    obtain ⟨tY, -, hpy⟩ := mj_fty hr hy
    rw [(State.fieldFound?_type hia hpx).1, (State.fieldFound?_type hib hpy).1]
    have := mj_nms q.1 (mj_cl_lt hr) x (by rw [e1]; exact hx) y (by rw [e1]; exact hy) hne
    rw [e2] at this
    exact this
  obtain ⟨hn', hf'⟩ := mj_nf D.2.2.2 hn hf
  have fin : ∀ (H1 : Heap), H1[D.2.2.2 a]? = some (cell.setSlot fd.slot (mj_sh D.2.2.2 v)) → H1.size = H.size → (∀ z, z ≠ D.2.2.2 a → H1[z]? = H[z]?) → W p l e R s m args below meth c H1 (locs ++ [⟨D.2.2.2 a, fd.slot⟩]) cells slots Q (F0 m (pc + 3) la (mj_shS D.2.2.2 s1)) := by
    intro H1 g1 g2 g3
    refine k H1 _ (mj_Rp_set hE hR hl (List.getElem?_eq_some_iff.mp hq).1 g2 g3 (Or.inl ⟨r, hr, by simpa using hlen, ?_⟩)) (t_lc hlo (by show s0.heap.size ≤ _; rw [hE.2.2.1 a hl]; omega))
    rw [hsl] at g1
    exact t_OB.to ⟨_, g1, c2, c3, t_set c4 hap hk (mj_sh D.2.2.2 v)⟩ (fun j _ => congrFun (mj_updV hk2) j)
  have hlt : fd.slot < cell.slots.size := by rw [hsl]; exact k2_hasslot (c4 rb hk)
  have hlay := hts _ (hin _ (u_in_lay hk))
  unfold u_lay at hlay
  cases hF : (r.2.1 rb).2.2.2 with
  | false =>
    rw [if_neg (by rw [hF]; decide)] at hlay
    have h6 := u_store hfc hkC hkind hlay hi hpd hn' hf'
    rcases hlk with hlk | ⟨-, hlk⟩
    · exact W.putK hx hb (f := fd) ⟨hown, hts _ hlk, ⟨_, _, _, hi⟩, hst⟩ (by rw [c2]; exact h6) c1 c3 hlt rfl rfl hd fin
    · exact va_WputK hx hb (f := fd) hown (va_Nw.use rfl (hK.2.2.1 _ _ _ _ _ _ hlk)) hi hst (by rw [c2]; exact h6) c1 c3 hlt rfl rfl hd fin
  | true =>
    rw [if_pos hF] at hlay
    rw [hF] at hfin
    obtain ⟨hnm, hcl, hev⟩ := hfin.resolve_left (by decide)
    have hlk : Cond.fieldLink y.1.cls i (r.2.1 rb).1 (r.2.1 rb).2.1 (r.2.1 rb).2.2.1 ∈ mj_tb := by
      have hw2 := hw
      unfold mj_ckF at hw2
      rw [hfl] at hw2
      dsimp only at hw2
      rw [if_pos hev] at hw2
      exact mj_w_in hw2
    have hcf : m.cls = cf := by
      obtain ⟨_, _, c', _, _, _, -, -, hf', -, -, -, hown2, -⟩ := Cond.laysFinal_spec hlay
      have e1 : c' = cf := by have := hi.symm.trans hf'; simp at this; exact this.1.symm
      rw [hcl] at hown2
      rw [← e1]; exact Option.some.inj (hown.symm.trans hown2)
    have h6 := u_fits hfc hkC hkind (Or.inr hlay) hi hpd hn' hf'
    exact W.putFinK hx hb hown (hts _ hlk) hi hst hcf (hmn hnm) (by rw [c2]; exact h6) c1 c3 hlt rfl rfl hd fin
end MJ3
