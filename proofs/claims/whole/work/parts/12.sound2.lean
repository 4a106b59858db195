/-! The small machine is right, 2: what the cells are on the heap; reading. -/
def mj_tb : List Cond := lw_tbl.filter goodWord
theorem mj_ch_in {c : Nat} {w : Cond} (h : w ∈ mj_ch c) : w ∈ lw_tbl := by
  unfold mj_ch at h
  simp only [lw_tbl, tables_1, List.mem_append]
  split at h <;> first | (simp only [h, true_or, or_true]; done) | cases h
theorem mj_wN_in {p : Nat} {w : Cond} (h : mj_wN p w = true) : w ∈ lw_tbl := mj_ch_in (List.mem_of_getElem? (of_decide_eq_true h))
theorem mj_w_in {p : Nat} {w : Cond} (h : mj_w p w = true) : w ∈ mj_tb := by
  simp only [mj_w, Bool.and_eq_true] at h
  exact List.mem_filter.mpr ⟨mj_wN_in h.1, h.2⟩
theorem mj_tb_good : GoodIn mj_tb mj_tb := fun w h => ⟨h, good_of_word (List.mem_filter.mp h).2⟩
/-- classes, slots of fields, array classes, addresses -/
abbrev mj_D : Type := (Nat → ClassId) × (Nat → Nat → Nat) × (Nat → ClassId) × (Nat → Nat)
def mj_A (s0 : State) : Nat → Prop := fun q => s0.heap.size ≤ q
def mj_own (D : mj_D) (q : Nat) (c : mj_C) (H : Heap) : Prop :=
  (∃ r : vw_C, mj_cl[c.1]? = some r ∧ c.2.length = r.2.2 ∧ t_OB q (D.1 c.1) r.2.2 (D.2.1 c.1) H (fun k => mj_sh D.2.2.2 (c.2.getD k .null))) ∨
  (1000 ≤ c.1 ∧ c.1 < 1010 ∧ H[q]? = some (arrV (D.2.2.1 c.1) c.2.length (fun j => mj_sh D.2.2.2 (c.2.getD j .null))))
def mj_ext (D : mj_D) (s0 : State) (q : Nat) (c : mj_C) : Prop :=
  (1000 ≤ c.1 ∧ c.1 < 1010 ∧ va_T (mj_aty c.1) q c.2.length (fun j => mj_sh D.2.2.2 (c.2.getD j .null)) (mj_A s0) s0 s0.heap) ∨
  (c.1 = 900 ∧ c.2.length = 2 ∧ va_O "java/lang/String" q (mj_A s0) s0 s0.heap ∧ va_OF "java/lang/String" "value" "[B" (mj_sh D.2.2.2 (c.2.getD 0 .null)) q (mj_A s0) s0 s0.heap ∧ va_OF "java/lang/String" "coder" "B" (mj_sh D.2.2.2 (c.2.getD 1 .null)) q (mj_A s0) s0 s0.heap)
def mj_env (D : mj_D) (s0 : State) : Prop :=
  (∀ (ci : Nat) (r : vw_C), mj_cl[ci]? = some r → u_Kn s0 r.1 r.2.1 r.2.2 (D.1 ci) (D.2.1 ci)) ∧
  (∀ t : Nat, 1000 ≤ t → t < 1010 → ArrOfT s0 (D.2.2.1 t) (mj_aty t) ∧ va_RA s0 (D.2.2.1 t) (mj_aty t)) ∧
  (∀ i : Nat, mj_E ≤ i → D.2.2.2 i = s0.heap.size + (i - mj_E)) ∧ (∀ i : Nat, i < mj_E → D.2.2.2 i < s0.heap.size) ∧
  (∀ (j : Nat) (q : String × String × String × Value), mj_st[j]? = some q → va_Z q.1 q.2.1 q.2.2.1 (mj_sh D.2.2.2 q.2.2.2) (mj_A s0) s0 s0.heap) ∧
  (∀ (t : Nat) (C : String), 1004 ≤ t → t < 1010 → mj_aty t = .object C → va_AO C s0)
def mj_K (D : mj_D) (s0 U : State) : Prop := s0.vm.Alike U.vm ∧ (∀ (own : String) (i : Nat) (tx : String) (k : Nat), mj_tx[k]? = some tx → Cond.stringRef own i tx ∈ lw_tbl → vk_R own i tx (D.2.2.2 (3 + 2 * k)) U) ∧
  (∀ (a : String) (i : Nat) (b n d h : String), Cond.fieldLinkNest a i b n d h ∈ lw_tbl → va_Nw (.fieldLinkNest a i b n d h) U) ∧ (∀ (a : String) (i : Nat) (x : MethodName) (h : String), Cond.methodLinkNest a i x h ∈ lw_tbl → va_Nw (.methodLinkNest a i x h) U)
def mj_Rp (D : mj_D) (s0 : State) (M : mj_H) (H : Heap) : Prop := H.size = s0.heap.size + (M.length - mj_E) ∧ mj_E ≤ M.length ∧ (∀ q : Nat, q < s0.heap.size → H[q]? = s0.heap[q]?) ∧
  (∀ (i : Nat) (c : mj_C), M[i]? = some c → i < mj_E → mj_ext D s0 (D.2.2.2 i) c) ∧ ∀ (i : Nat) (c : mj_C), M[i]? = some c → mj_E ≤ i → mj_own D (D.2.2.2 i) c H
theorem mj_cl_lt {i : Nat} {r : vw_C} (h : mj_cl[i]? = some r) : i < 12 := (List.getElem?_eq_some_iff.mp h).1
/-- what each class lays stands in the tables -/
def mj_clc : Bool := (mj_cl.zip mj_clp).all (fun q => mj_w q.2.1 (.instantiable q.1.1 q.1.2.2) && (mj_w q.2.2.1 (.initialized q.1.1) && (List.range q.1.2.2).all (fun k => mj_w (q.2.2.2.getD k 0) (u_lay q.1.1 q.1.2.1 k))))
set_option maxRecDepth 100000 in
set_option maxHeartbeats 4000000 in
theorem mj_clc_ok : mj_clc = true := by decide +kernel
theorem mj_class {i : Nat} {r : vw_C} (h : mj_cl[i]? = some r) : (∀ w ∈ u_ws r.1 r.2.1 r.2.2, w ∈ mj_tb) ∧ Cond.instantiable r.1 r.2.2 ∈ mj_tb ∧ Cond.initialized r.1 ∈ mj_tb := by
  have hi := mj_cl_lt h
  have hl : i < mj_clp.length := hi
  have hz : (mj_cl.zip mj_clp)[i]? = some (r, mj_clp[i]) := by
    rw [List.getElem?_zip_eq_some]
    exact ⟨h, List.getElem?_eq_getElem hl⟩
  have hc := List.all_eq_true.mp mj_clc_ok _ (List.mem_of_getElem? hz)
  simp only [Bool.and_eq_true] at hc
  refine ⟨fun w hw => ?_, mj_w_in hc.1, mj_w_in hc.2.1⟩
  obtain ⟨k, hk, rfl⟩ := List.mem_map.mp hw
  exact mj_w_in (List.all_eq_true.mp hc.2.2 k hk)
/-- types and names of fields -/
theorem mj_tys : ∀ i, i < 12 → ∀ k, k < ((mj_cl.map (fun q => q.2.2)).getD i 0) → parseFieldDescriptor (((mj_cl.map (fun q => q.2.1)).getD i mj_T0) k).2.2.1 = (mj_ty.getD i [])[k]? := by decide +kernel
theorem mj_nms : ∀ i, i < 12 → ∀ a, a < ((mj_cl.map (fun q => q.2.2)).getD i 0) → ∀ b, b < ((mj_cl.map (fun q => q.2.2)).getD i 0) → a ≠ b → (((mj_cl.map (fun q => q.2.1)).getD i mj_T0) a).2.1 ≠ (((mj_cl.map (fun q => q.2.1)).getD i mj_T0) b).2.1 := by decide +kernel
theorem mj_tlen : ∀ i, i < 12 → (mj_ty.getD i []).length = ((mj_cl.map (fun q => q.2.2)).getD i 0) := by decide +kernel
theorem mj_cl_map {i : Nat} {r : vw_C} (h : mj_cl[i]? = some r) : (mj_cl.map (fun q => q.2.2)).getD i 0 = r.2.2 ∧ (mj_cl.map (fun q => q.2.1)).getD i mj_T0 = r.2.1 ∧ (mj_cl.map (fun q => q.1)).getD i "" = r.1 := by
  refine ⟨?_, ?_, ?_⟩ <;> simp [List.getD, h]
theorem mj_fty {i k : Nat} {r : vw_C} (h : mj_cl[i]? = some r) (hk : k < r.2.2) : ∃ ty, (mj_ty.getD i [])[k]? = some ty ∧ parseFieldDescriptor (r.2.1 k).2.2.1 = some ty := by
  have hi := mj_cl_lt h
  obtain ⟨e1, e2, -⟩ := mj_cl_map h
  have h1 := mj_tys i hi k (by rw [e1]; exact hk)
  have h2 := mj_tlen i hi
  rw [e1] at h2
  rw [e2] at h1
  have h3 : k < (mj_ty.getD i []).length := by omega
  refine ⟨_, List.getElem?_eq_getElem h3, ?_⟩
  rw [h1]; exact List.getElem?_eq_getElem h3
theorem mj_fl_some {r : mj_R} {f : String × String × String × Bool} (h : mj_fl r = some f) (h9 : r.2.2.1 ≠ 900) : ∃ q : vw_C, mj_cl[r.2.2.1]? = some q ∧ r.2.2.2.1 < q.2.2 ∧ f = q.2.1 r.2.2.2.1 ∧ f.1 = q.1 := by
  unfold mj_fl at h
  rw [if_neg h9] at h
  split at h
  · next q hq =>
    split at h
    · next hz => cases h; exact ⟨q, hq, hz.1, rfl, hz.2⟩
    · cases h
  · cases h
theorem mj_st_eq {r : List Value} {o : Option Value} {st' : List Value} (h : o.map (· :: r) = some st') : ∃ v, o = some v ∧ st' = v :: r := by
  cases o with
  | none => cases h
  | some v => cases h; exact ⟨v, rfl, rfl⟩
theorem mj_getD {l : List Value} {k : Nat} {v : Value} (h : l[k]? = some v) : l.getD k .null = v := by simp [List.getD, h]
/-- an array, given or ours, as it is on the heap -/
theorem mj_arr {D : mj_D} {s0 s : State} {M : mj_H} {H : Heap} {a : Nat} {q : mj_C} (hE : mj_env D s0) (hK : s0.vm.Alike s.vm) (hR : mj_Rp D s0 M H) (ha : M[a]? = some q) (ht : 1000 ≤ q.1) :
    q.1 < 1010 ∧ ∃ cell : Cell, H[D.2.2.2 a]? = some cell ∧ s.isArrayOf cell (mj_aty q.1) ∧ cell.vm ≠ .unknown ∧ cell.slots.size.toInt32 = Int32.ofNat q.2.length ∧ q.2.length ≤ cell.slots.size ∧ ∀ j : Nat, j < q.2.length → cell.slots[j]? = some (mj_sh D.2.2.2 (q.2.getD j .null)) := by
  by_cases hl : a < mj_E
  · rcases hR.2.2.2.1 a q ha hl with ⟨-, h2, hT⟩ | ⟨h, -⟩
    · obtain ⟨cell, e1, e2, e3, e4, e5, e6, e7⟩ := va_T.moved hK hT
      exact ⟨h2, cell, by rw [hR.2.2.1 _ (hE.2.2.2.1 a hl)]; exact e1, e2, e3, e5, e4, e6⟩
    · omega
  · rcases hR.2.2.2.2 a q ha (by omega) with ⟨r, h1, -⟩ | ⟨-, h2, hc⟩
    · have := mj_cl_lt h1; omega
    · refine ⟨h2, _, hc, arrOfT_moved hK (hE.2.1 q.1 ht h2).1 _ _, (fun h => by cases h), (by rw [arrV_size]), (by rw [arrV_size]; exact Nat.le_refl _), fun j hj => arrV_read _ _ hj⟩
theorem mj_ix_eq {i : Int32} {n k : Nat} (h : mj_ix i n = some k) : ¬ i < 0 ∧ i.toNatClampNeg = k ∧ k < n := by
  unfold mj_ix at h
  split at h
  · cases h
  · next hz => cases h; exact ⟨fun z => hz (Or.inl z), rfl, Nat.not_le.mp (fun z => hz (Or.inr z))⟩
theorem mj_ar_eq {tags : List Nat} {M : mj_H} {a : Nat} {i : Int32} {v : Value} (h : mj_ar tags M a i = some v) : ∃ q k, M[a]? = some q ∧ q.1 ∈ tags ∧ ¬ i < 0 ∧ i.toNatClampNeg = k ∧ k < q.2.length ∧ q.2[k]? = some v := by
  unfold mj_ar at h
  split at h
  · next q hq =>
    split at h
    · next ht =>
      cases hx : mj_ix i q.2.length with
      | none => rw [hx] at h; cases h
      | some k =>
        rw [hx] at h
        obtain ⟨e1, e2, e3⟩ := mj_ix_eq hx
        exact ⟨q, k, hq, ht, e1, e2, e3, h⟩
    · cases h
  · cases h
section MJ2
variable {p : Program} {l : Launch} {e : Env} {R : Room} {s : State} {m : MethodId} {args : Array Value} {below : List Frame} {meth : Method} {c : Code} {H : Heap} {locs : List Loc} {cells slots : Nat} {Q : State → Prop} {cc : ByteArray}
theorem mj_ldcwS (hexec : p.tables.exec = Jvm.exec) (hb : c.code = cc) {own tx : String} {index q pc : Nat} {ls : Array Slot} {rest : List Value} (hown : s.vm.findClass own = some m.cls) (hZ : vk_R own index tx q s) (hdg : decode cc pc = .ok (.ldc_w index, 3))
    (k : W p l e R s m args below meth c H locs cells slots Q (F0 m (pc + 3) ls (.ref q :: rest))) : W p l e R s m args below meth c H locs cells slots Q (F0 m pc ls rest) := by
  intro T hT X
  obtain ⟨t, a1, b1⟩ := k T hT X
  refine ⟨t, ?_, b1⟩
  obtain ⟨k, cf, i, a', hk, hcf, hcp, -, hr, hev'⟩ := Cond.stringRef_spec hown hZ.1
  cases hZ.2.symm.trans hev'
  obtain ⟨k', hk', he⟩ := X.warmed.alike.2.2 _ _ hk
  have hr' : k'.resolved[index]? = some (some (.string q)) := by
    rcases X.warmed.entry hk hk' index with h | ⟨h, -⟩
    · rw [h]; exact hr
    · rw [hr] at h; cases h
  jvm_step X.here [hexec, hb, hdg, ldc_w.wp_string (e := e) (s := T) (f := F0 m pc ls rest) X.here.top hk' (by rw [he]; exact hcf) hcp hr']
  exact a1
theorem mj_ckF_eq {own : String} {r : mj_R} {i : Nat} (h : mj_ckF own r i = true) : ∃ f, mj_fl r = some f ∧ (Cond.fieldLink own i f.1 f.2.1 f.2.2.1 ∈ mj_tb ∨ (r.2.2.1 ≠ 900 ∧ Cond.fieldLinkNest own i f.1 f.2.1 f.2.2.1 mj_host ∈ lw_tbl)) := by
  unfold mj_ckF at h
  split at h
  · next f hf =>
    refine ⟨f, hf, ?_⟩
    split at h
    · exact Or.inl (mj_w_in h)
    · simp only [Bool.and_eq_true, decide_eq_true_eq] at h
      exact Or.inr ⟨h.1, mj_wN_in h.2⟩
  · cases h
/-- an object of ours as it is on the heap, by its class -/
theorem mj_obj {D : mj_D} {s0 : State} {M : mj_H} {H : Heap} {a : Nat} {q : mj_C} {r : vw_C} (hR : mj_Rp D s0 M H) (ha : M[a]? = some q) (hr : mj_cl[q.1]? = some r) :
    mj_E ≤ a ∧ q.2.length = r.2.2 ∧ t_OB (D.2.2.2 a) (D.1 q.1) r.2.2 (D.2.1 q.1) H (fun k => mj_sh D.2.2.2 (q.2.getD k .null)) := by
  have h12 := mj_cl_lt hr
  have hl : mj_E ≤ a := by
    by_cases hl : a < mj_E
    · rcases hR.2.2.2.1 a q ha hl with ⟨h1, -⟩ | ⟨h1, -⟩ <;> omega
    · omega
  rcases hR.2.2.2.2 a q ha hl with ⟨r', h1, h2, h3⟩ | ⟨h1, -⟩
  · cases hr.symm.trans h1
    exact ⟨hl, h2, h3⟩
  · omega
set_option maxHeartbeats 4000000 in
theorem mj_getf_ok {D : mj_D} {s0 : State} {y : mj_Me} {M : mj_H} {i ra rb rp a : Nat} {la : Array Slot} {s1 : List Value} {q : mj_C} {v : Value} {pc : Nat} (hx : p.tables.exec = Jvm.exec) (hb : c.code = cc) (hE : mj_env D s0) (hK : mj_K D s0 s) (hR : mj_Rp D s0 M H) (hts : ∀ w ∈ mj_tb, w.before args s = true) (hown : s.vm.findClass y.1.cls = some m.cls)
    (hd : decode cc pc = .ok (.getfield i, 3)) (hw : mj_ckF y.1.cls (.getfield i, 3, ra, rb, rp) i = true) (hq : M[a]? = some q) (ht : q.1 = ra) (hv : q.2[rb]? = some v)
    (k : W p l e R s m args below meth c H locs cells slots Q (F0 m (pc + 3) la (mj_sh D.2.2.2 v :: mj_shS D.2.2.2 s1))) : W p l e R s m args below meth c H locs cells slots Q (F0 m pc la (.ref (D.2.2.2 a) :: mj_shS D.2.2.2 s1)) := by
  obtain ⟨f, hf, hlk⟩ := mj_ckF_eq hw
  subst ht
  by_cases h9 : q.1 = 900
  · have hl : a < mj_E := by
      by_cases hl : a < mj_E
      · exact hl
      · rcases hR.2.2.2.2 a q hq (by omega) with ⟨r, h1, -⟩ | ⟨h1, h2, -⟩
        · have := mj_cl_lt h1; omega
        · omega
    rcases hR.2.2.2.1 a q hq hl with ⟨h1, -⟩ | ⟨-, h2, h3, h4, h5⟩
    · omega
    · have hkept : ∀ z : Nat, z < s0.heap.size → ¬ mj_A s0 z → H[z]? = s0.heap[z]? := fun z hz _ => hR.2.2.1 z hz
      have hb2 : rb < 2 := by rw [← h2]; exact (List.getElem?_eq_some_iff.mp hv).1
      have key : ∀ (n d : String), va_OF "java/lang/String" n d (mj_sh D.2.2.2 v) (D.2.2.2 a) (mj_A s0) s0 s0.heap → Cond.fieldLink y.1.cls i "java/lang/String" n d ∈ mj_tb → W p l e R s m args below meth c H locs cells slots Q (F0 m pc la (.ref (D.2.2.2 a) :: mj_shS D.2.2.2 s1)) := by
        intro n d hO hlk
        obtain ⟨cf, kk, fi, ff, cell, g1, g2, g3, g4, g5, -⟩ := va_OF.kept (va_OF.moved hK.1 hO) hkept
        exact W.getf hx hb hown (hts _ hlk) g1 g2 g3 g4 (v := mj_sh D.2.2.2 v) g5 rfl rfl hd k
      have hlk2 : Cond.fieldLink y.1.cls i f.1 f.2.1 f.2.2.1 ∈ mj_tb := hlk.resolve_right (fun z => z.1 h9)
      rcases (show rb = 0 ∨ rb = 1 by omega) with rfl | rfl
      · have hf2 : ("java/lang/String", "value", "[B", true) = f := by simpa [mj_fl, h9] using hf
        subst hf2
        exact key "value" "[B" (by rw [mj_getD hv] at h4; exact h4) hlk2
      · have hf2 : ("java/lang/String", "coder", "B", true) = f := by simpa [mj_fl, h9] using hf
        subst hf2
        exact key "coder" "B" (by rw [mj_getD hv] at h5; exact h5) hlk2
  · obtain ⟨r, hr, hk, rfl, hc⟩ := mj_fl_some hf h9
    dsimp only at hr hk hlk hc
    obtain ⟨-, hlen, cell, c1, c2, c3, c4⟩ := mj_obj hR hq hr
    obtain ⟨hS, hfc, kC, hkC, hkind⟩ := u_Kn_moved hK.1 (hE.1 _ r hr)
    obtain ⟨cf, kf, fi, fd, hi, hsl⟩ := hS rb hk
    have hst := (u_facts hfc hkC (u_lays hts (mj_class hr).1 hk) hi).1
    have hv2 : cell.slots[fd.slot]? = some (mj_sh D.2.2.2 v) := by
      rw [hsl, c4 rb hk]
      show some (mj_sh D.2.2.2 (q.2.getD rb .null)) = _
      rw [mj_getD hv]
    rcases hlk with hlk | ⟨-, hlk⟩
    · exact W.getf hx hb hown (hts _ hlk) hi hst c1 (by rw [c3]; exact fun z => by cases z) hv2 rfl rfl hd k
    · exact va_Wgetf hx hb hown (va_Nw.use rfl (hK.2.2.1 _ _ _ _ _ _ hlk)) hi hst c1 (by rw [c3]; exact fun z => by cases z) hv2 rfl rfl hd k
set_option maxHeartbeats 4000000 in
theorem mj_hr_ok {D : mj_D} {s0 : State} {y : mj_Me} {M : mj_H} {r : mj_R} {la : Array Slot} {st st' : List Value} {pc : Nat} (hx : p.tables.exec = Jvm.exec) (hb : c.code = cc) (hE : mj_env D s0) (hK : mj_K D s0 s) (hR : mj_Rp D s0 M H) (hts : ∀ w ∈ mj_tb, w.before args s = true) (hown : s.vm.findClass y.1.cls = some m.cls)
    (hd : decode cc pc = .ok (r.1, r.2.1)) (hn : mj_ln r.1 = 0 ∨ r.2.1 = mj_ln r.1) (hw : mj_ckW y r = true) (h : mj_hr r st M = some st')
    (k : W p l e R s m args below meth c H locs cells slots Q (F0 m (pc + r.2.1) la (mj_shS D.2.2.2 st'))) : W p l e R s m args below meth c H locs cells slots Q (F0 m pc la (mj_shS D.2.2.2 st)) := by
  obtain ⟨ri, rl, ra, rb, rp⟩ := r
  unfold mj_hr at h
  dsimp only at h hd hn k
  split at h <;> (try (simp [mj_ln] at hn; subst hn))
  · next i a s1 =>
    split at h
    · next q hq =>
      split at h
      · next ht =>
        obtain ⟨v, hv, rfl⟩ := mj_st_eq h
        exact mj_getf_ok hx hb hE hK hR hts hown hd hw hq ht hv k
      · cases h
    · cases h
  · next a s1 =>
    split at h
    · next q hq =>
      split at h
      · next ht =>
        cases h
        obtain ⟨-, cell, c1, c2, c3, c4, c5, c6⟩ := mj_arr hE hK.1 hR hq ht
        exact W.alen hx hb c1 c2 c4 rfl rfl hd k
      · cases h
    · cases h
  · next i a s1 =>
    obtain ⟨v, hv, rfl⟩ := mj_st_eq h
    obtain ⟨q, j, hq, ht, e1, e2, e3, e4⟩ := mj_ar_eq hv
    have ht1 : q.1 = 1000 := by simpa using ht
    obtain ⟨-, cell, c1, c2, c3, c4, c5, c6⟩ := mj_arr hE hK.1 hR hq (by omega)
    rw [ht1] at c2
    exact W.iald hx hb c1 c2 c3 (fun z => by rcases z with z | z; exact e1 z; omega) (v := mj_sh D.2.2.2 v) (by rw [e2, c6 j e3, mj_getD e4]) rfl rfl hd k
  · next i a s1 =>
    obtain ⟨v, hv, rfl⟩ := mj_st_eq h
    obtain ⟨q, j, hq, ht, e1, e2, e3, e4⟩ := mj_ar_eq hv
    have ht1 : q.1 = 1001 ∨ q.1 = 1002 := by simpa using ht
    obtain ⟨-, cell, c1, c2, c3, c4, c5, c6⟩ := mj_arr hE hK.1 hR hq (by omega)
    rcases ht1 with ht1 | ht1 <;> rw [ht1] at c2
    · exact W.bald hx hb c1 c2 c3 (fun z => by rcases z with z | z; exact e1 z; omega) (v := mj_sh D.2.2.2 v) (by rw [e2, c6 j e3, mj_getD e4]) rfl rfl hd k
    · exact W.zald hx hb c1 c2 c3 (fun z => by rcases z with z | z; exact e1 z; omega) (v := mj_sh D.2.2.2 v) (by rw [e2, c6 j e3, mj_getD e4]) rfl rfl hd k
  · next i a s1 =>
    obtain ⟨v, hv, rfl⟩ := mj_st_eq h
    obtain ⟨q, j, hq, ht, e1, e2, e3, e4⟩ := mj_ar_eq hv
    have ht1 : q.1 = 1003 := by simpa using ht
    obtain ⟨-, cell, c1, c2, c3, c4, c5, c6⟩ := mj_arr hE hK.1 hR hq (by omega)
    rw [ht1] at c2
    exact W.lald hx hb c1 c2 c3 (fun z => by rcases z with z | z; exact e1 z; omega) (v := mj_sh D.2.2.2 v) (by rw [e2, c6 j e3, mj_getD e4]) rfl rfl hd k
  · next i a s1 =>
    obtain ⟨v, hv, rfl⟩ := mj_st_eq h
    obtain ⟨q, j, hq, ht, e1, e2, e3, e4⟩ := mj_ar_eq hv
    have ht1 : q.1 = 1004 ∨ q.1 = 1005 ∨ q.1 = 1006 ∨ q.1 = 1007 ∨ q.1 = 1008 ∨ q.1 = 1009 := by simpa using ht
    obtain ⟨-, cell, c1, c2, c3, c4, c5, c6⟩ := mj_arr hE hK.1 hR hq (by omega)
    have hrf : (mj_aty q.1).isReference = true := by rcases ht1 with ht1 | ht1 | ht1 | ht1 | ht1 | ht1 <;> rw [ht1] <;> rfl
    exact W.aald hx hb c1 c2 hrf c3 (fun z => by rcases z with z | z; exact e1 z; omega) (v := mj_sh D.2.2.2 v) (by rw [e2, c6 j e3, mj_getD e4]) rfl rfl hd k
  · next i =>
    cases hq : mj_st[ra]? with
    | none => rw [hq] at h; cases h
    | some q =>
      rw [hq] at h
      cases h
      simp only [mj_ckW, hq] at hw
      have hkept : ∀ z : Nat, z < s0.heap.size → ¬ mj_A s0 z → H[z]? = s0.heap[z]? := fun z hz _ => hR.2.2.1 z hz
      obtain ⟨cf, kf, fi, f, a, cell, g1, g2, g3, g4, g5, g6, g7, -⟩ := va_Z.kept (va_Z.moved hK.1 (hE.2.2.2.2.1 ra q hq)) hkept
      exact W.gets hx hb hown (hts _ (mj_w_in hw)) g1 g2 g3 g4 g5 (fun z => by rw [z] at g6; cases g6) g7 rfl hd k
  · next i =>
    obtain ⟨v, hv, rfl⟩ := mj_st_eq h
    simp only [mj_ckW, hv] at hw
    cases v with
    | int x => exact lv_ldc hx hb hown (hts _ (mj_w_in hw)) hd k
    | ref q =>
      simp only [Bool.and_eq_true, decide_eq_true_eq] at hw
      obtain ⟨e1, e2, e3⟩ := hw
      have htx : mj_tx[(q - 3) / 2]? = some (mj_tx.getD ((q - 3) / 2) "") := by
        have : (q - 3) / 2 < mj_tx.length := e2
        simp [List.getD, List.getElem?_eq_getElem this]
      have hz := hK.2.1 _ _ _ _ htx (mj_wN_in e3)
      rw [← e1] at hz
      exact va_ldcS hx hb hown hz hd k
    | _ => cases hw
  · next i =>
    obtain ⟨v, hv, rfl⟩ := mj_st_eq h
    simp only [mj_ckW, hv] at hw
    cases v with
    | int x => exact lv_ldcw hx hb hown (hts _ (mj_w_in hw)) hd k
    | ref q =>
      simp only [Bool.and_eq_true, decide_eq_true_eq] at hw
      obtain ⟨e1, e2, e3⟩ := hw
      have htx : mj_tx[(q - 3) / 2]? = some (mj_tx.getD ((q - 3) / 2) "") := by
        have : (q - 3) / 2 < mj_tx.length := e2
        simp [List.getD, List.getElem?_eq_getElem this]
      have hz := hK.2.1 _ _ _ _ htx (mj_wN_in e3)
      rw [← e1] at hz
      exact mj_ldcwS hx hb hown hz hd k
    | _ => cases hw
  · next i =>
    obtain ⟨v, hv, rfl⟩ := mj_st_eq h
    simp only [mj_ckW, hv] at hw
    cases v with
    | long x => exact lv_ldc2 hx hb hown (hts _ (mj_w_in hw)) hd k
    | _ => cases hw
  · cases h
end MJ2
