/-! The small machine is right, 1: stack, locals, jumps. -/
def mj_sh (ad : Nat → Nat) : Value → Value
  | .ref a => .ref (ad a)
  | .int v => .int v
  | .long v => .long v
  | .float v => .float v
  | .double v => .double v
  | .null => .null
  | .retAddr v => .retAddr v
theorem mj_sh_cat (ad : Nat → Nat) (v : Value) : (mj_sh ad v).category = v.category := by cases v <;> rfl
abbrev mj_shL (ad : Nat → Nat) (ls : mj_L) : mj_L := ls.map (fun q => (q.1, mj_sh ad q.2))
abbrev mj_shS (ad : Nat → Nat) (st : List Value) : List Value := st.map (mj_sh ad)
theorem mj_lk_mem : ∀ {ls : mj_L} {i : Nat} {v : Value}, mj_lk ls i = some v → (i, v) ∈ ls := by
  intro ls
  induction ls with
  | nil => intro i v h; simp [mj_lk] at h
  | cons q ls ih =>
    intro i v h
    unfold mj_lk at h
    split at h
    · next e => cases h; subst e; exact List.mem_cons_self
    · exact List.mem_cons_of_mem _ (ih h)
theorem mj_lk_ok {ad : Nat → Nat} {la : Array Slot} {nL : Nat} {ls : mj_L} {i : Nat} {v : Value} (hl : lv_has la nL (mj_shL ad ls)) (h : mj_lk ls i = some v) : la[i]? = some (.val (mj_sh ad v)) :=
  hl.2.2 (i, mj_sh ad v) (List.mem_map.mpr ⟨(i, v), mj_lk_mem h, rfl⟩)
theorem mj_s1_sh (ad : Nat → Nat) (ls : mj_L) (i : Nat) (v : Value) : (i, mj_sh ad v) :: (mj_shL ad ls).filter (fun q => !(q.1 == i) && !(q.1 + 1 == i && q.2.category == 2)) = mj_shL ad (mj_s1 ls i v) := by
  simp [mj_s1, mj_shL, List.filter_map, Function.comp_def, mj_sh_cat]
theorem mj_s2_sh (ad : Nat → Nat) (ls : mj_L) (i : Nat) (v : Value) : (i, mj_sh ad v) :: (mj_shL ad ls).filter (fun q => !(q.1 == i) && (!(q.1 == i + 1) && !(q.1 + 1 == i && q.2.category == 2))) = mj_shL ad (mj_s2 ls i v) := by
  simp [mj_s2, mj_shL, List.filter_map, Function.comp_def, mj_sh_cat]
theorem mj_ldi_eq {v : Option Value} {st st' : List Value} (h : mj_ldi v st = some st') : ∃ x, v = some (.int x) ∧ st' = .int x :: st := by
  unfold mj_ldi at h
  split at h
  · cases h; exact ⟨_, rfl, rfl⟩
  · cases h
theorem mj_ldl_eq {v : Option Value} {st st' : List Value} (h : mj_ldl v st = some st') : ∃ x, v = some (.long x) ∧ st' = .long x :: st := by
  unfold mj_ldl at h
  split at h
  · cases h; exact ⟨_, rfl, rfl⟩
  · cases h
theorem mj_lda_eq {v : Option Value} {st st' : List Value} (h : mj_lda v st = some st') : (∃ x, v = some (.ref x) ∧ st' = .ref x :: st) ∨ (v = some .null ∧ st' = .null :: st) := by
  unfold mj_lda at h
  split at h
  · cases h; exact Or.inl ⟨_, rfl, rfl⟩
  · cases h; exact Or.inr ⟨rfl, rfl⟩
  · cases h
theorem mj_ii_eq {f : Int32 → Int32 → Int32} {st st' : List Value} (h : mj_ii f st = some st') : ∃ x y r, st = .int y :: .int x :: r ∧ st' = .int (f x y) :: r := by
  unfold mj_ii at h
  split at h
  · cases h; exact ⟨_, _, _, rfl, rfl⟩
  · cases h
theorem mj_ll_eq {f : Int64 → Int64 → Int64} {st st' : List Value} (h : mj_ll f st = some st') : ∃ x y r, st = .long y :: .long x :: r ∧ st' = .long (f x y) :: r := by
  unfold mj_ll at h
  split at h
  · cases h; exact ⟨_, _, _, rfl, rfl⟩
  · cases h
theorem mj_li_eq {f : Int64 → Int32 → Int64} {st st' : List Value} (h : mj_li f st = some st') : ∃ x y r, st = .int y :: .long x :: r ∧ st' = .long (f x y) :: r := by
  unfold mj_li at h
  split at h
  · cases h; exact ⟨_, _, _, rfl, rfl⟩
  · cases h
theorem mj_i1_eq {f : Int32 → Value} {st st' : List Value} (h : mj_i1 f st = some st') : ∃ x r, st = .int x :: r ∧ st' = f x :: r := by
  unfold mj_i1 at h
  split at h
  · cases h; exact ⟨_, _, rfl, rfl⟩
  · cases h
theorem mj_tg_eq {pc t : Nat} {off : Int} (h : mj_tg pc off = some t) : (pc : Int) + off = (t : Int) := by
  unfold mj_tg at h
  split at h
  · cases h; omega
  · cases h
section MJ1
variable {p : Program} {l : Launch} {e : Env} {R : Room} {s : State} {m : MethodId} {args : Array Value} {below : List Frame} {meth : Method} {c : Code} {H : Heap} {locs : List Loc} {cells slots : Nat} {Q : State → Prop} {cc : ByteArray}
set_option maxHeartbeats 4000000 in
theorem mj_pu_ok {nL : Nat} {ad : Nat → Nat} {la : Array Slot} {ls : mj_L} {st st' : List Value} {pc len : Nat} {i : Jvm.ClassFile.Instr} (hx : p.tables.exec = Jvm.exec) (hb : c.code = cc) (hl : lv_has la nL (mj_shL ad ls)) (hd : decode cc pc = .ok (i, len)) (hn : mj_ln i = 0 ∨ len = mj_ln i) (h : mj_pu i ls st = some st')
    (k : W p l e R s m args below meth c H locs cells slots Q (F0 m (pc + len) la (mj_shS ad st'))) : W p l e R s m args below meth c H locs cells slots Q (F0 m pc la (mj_shS ad st)) := by
  unfold mj_pu at h
  split at h <;> (try (simp [mj_ln] at hn; subst hn))
  · cases h; exact lv_null hx hb hd k
  · cases h; exact lv_iconst hx hb hd rfl k
  · cases h; exact lv_bipush hx hb hd rfl k
  · cases h; exact lv_sipush hx hb hd rfl k
  · cases h; exact lv_lconst hx hb hd rfl k
  · obtain ⟨x, h1, rfl⟩ := mj_ldi_eq h; exact lv_iload hx hb hd (mj_lk_ok hl h1) k
  · obtain ⟨x, h1, rfl⟩ := mj_ldi_eq h; exact lv_iload_n hx hb hd rfl (mj_lk_ok hl h1) k
  · obtain ⟨x, h1, rfl⟩ := mj_ldl_eq h; exact lv_lload hx hb hd (mj_lk_ok hl h1) k
  · obtain ⟨x, h1, rfl⟩ := mj_ldl_eq h; exact lv_lload_n hx hb hd rfl (mj_lk_ok hl h1) k
  · rcases mj_lda_eq h with ⟨x, h1, rfl⟩ | ⟨h1, rfl⟩
    · exact lv_aload hx hb hd (mj_lk_ok hl h1) k
    · exact lv_aloadN hx hb hd (mj_lk_ok hl h1) k
  · rcases mj_lda_eq h with ⟨x, h1, rfl⟩ | ⟨h1, rfl⟩
    · exact lv_aload_n hx hb hd rfl (mj_lk_ok hl h1) k
    · exact lv_aload_nN hx hb hd rfl (mj_lk_ok hl h1) k
  · obtain ⟨x, y, r, rfl, rfl⟩ := mj_ii_eq h; exact lv_iadd hx hb hd k
  · obtain ⟨x, y, r, rfl, rfl⟩ := mj_ii_eq h; exact lv_isub hx hb hd k
  · obtain ⟨x, y, r, rfl, rfl⟩ := mj_ii_eq h; exact lv_imul hx hb hd k
  · obtain ⟨x, y, r, rfl, rfl⟩ := mj_ii_eq h; exact lv_iand hx hb hd k
  · obtain ⟨x, y, r, rfl, rfl⟩ := mj_ii_eq h; exact lv_ior hx hb hd k
  · obtain ⟨x, y, r, rfl, rfl⟩ := mj_ii_eq h; exact lv_ixor hx hb hd k
  · obtain ⟨x, y, r, rfl, rfl⟩ := mj_ii_eq h; exact lv_ishl hx hb hd k
  · obtain ⟨x, y, r, rfl, rfl⟩ := mj_ii_eq h; exact lv_ishr hx hb hd k
  · obtain ⟨x, y, r, rfl, rfl⟩ := mj_ii_eq h; exact lv_iushr hx hb hd rfl k
  · split at h
    · split at h
      · cases h
      · next hz => cases h; exact lv_irem hx hb hd hz k
    · cases h
  · obtain ⟨x, y, r, rfl, rfl⟩ := mj_ll_eq h; exact lv_ladd hx hb hd k
  · obtain ⟨x, y, r, rfl, rfl⟩ := mj_ll_eq h; exact lv_lsub hx hb hd k
  · obtain ⟨x, y, r, rfl, rfl⟩ := mj_ll_eq h; exact lv_lmul hx hb hd k
  · obtain ⟨x, y, r, rfl, rfl⟩ := mj_ll_eq h; exact lv_land hx hb hd k
  · obtain ⟨x, y, r, rfl, rfl⟩ := mj_ll_eq h; exact lv_lor hx hb hd k
  · obtain ⟨x, y, r, rfl, rfl⟩ := mj_li_eq h; exact lv_lshl hx hb hd rfl k
  · obtain ⟨x, y, r, rfl, rfl⟩ := mj_li_eq h; exact lv_lshr hx hb hd rfl k
  · obtain ⟨x, y, r, rfl, rfl⟩ := mj_li_eq h; exact lv_lushr hx hb hd rfl k
  · split at h
    · split at h
      · cases h
      · next hz => cases h; exact lv_lrem hx hb hd hz k
    · cases h
  · split at h
    · cases h; exact W.lcmp hx hb hd k
    · cases h
  · obtain ⟨x, r, rfl, rfl⟩ := mj_i1_eq h; exact lv_i2l hx hb hd rfl k
  · split at h
    · cases h; exact lv_l2i hx hb hd rfl k
    · cases h
  · obtain ⟨x, r, rfl, rfl⟩ := mj_i1_eq h; exact lv_i2b hx hb hd rfl k
  · obtain ⟨x, r, rfl, rfl⟩ := mj_i1_eq h; exact lv_i2c hx hb hd rfl k
  · split at h
    · split at h
      · next hz => cases h; exact lv_dup hx hb hd ((mj_sh_cat ad _).trans hz) k
      · cases h
    · cases h
  · split at h
    · split at h
      · next hz => cases h; exact lv_dup2_2 hx hb hd ((mj_sh_cat ad _).trans hz) k
      · next v r hz =>
        split at h
        · split at h
          · next hw => cases h; exact lv_dup2_11 hx hb hd ((mj_sh_cat ad _).trans ((lv_cat v).resolve_right hz)) ((mj_sh_cat ad _).trans hw) k
          · cases h
        · cases h
    · cases h
  · split at h
    · split at h
      · next hz => cases h; exact lv_pop hx hb hd ((mj_sh_cat ad _).trans hz) k
      · cases h
    · cases h
  · cases h
set_option maxHeartbeats 4000000 in
theorem mj_lo_ok {nL : Nat} {ad : Nat → Nat} {la : Array Slot} {ls : mj_L} {st : List Value} {q : mj_L × List Value} {pc len : Nat} {i : Jvm.ClassFile.Instr} (hx : p.tables.exec = Jvm.exec) (hb : c.code = cc) (hl : lv_has la nL (mj_shL ad ls)) (hd : decode cc pc = .ok (i, len)) (hn : mj_ln i = 0 ∨ len = mj_ln i) (h : mj_lo nL i ls st = some q)
    (k_ : ∀ la' : Array Slot, lv_has la' nL (mj_shL ad q.1) → W p l e R s m args below meth c H locs cells slots Q (F0 m (pc + len) la' (mj_shS ad q.2))) : W p l e R s m args below meth c H locs cells slots Q (F0 m pc la (mj_shS ad st)) := by
  unfold mj_lo at h
  split at h <;> (try (simp [mj_ln] at hn; subst hn))
  · next k x r =>
    split at h
    · next hi => cases h; exact lv_istore hx hb hd hl hi (mj_s1_sh ad ls k (.int x)) k_
    · cases h
  · next k x r =>
    split at h
    · next hi => cases h; exact lv_istore_n hx hb hd rfl hl hi (mj_s1_sh ad ls (k : Nat) (.int x)) k_
    · cases h
  · next k x r =>
    split at h
    · next hi => cases h; exact lv_lstore hx hb hd hl hi (mj_s2_sh ad ls k (.long x)) k_
    · cases h
  · next k x r =>
    split at h
    · next hi => cases h; exact lv_lstore_n hx hb hd rfl hl hi (mj_s2_sh ad ls (k : Nat) (.long x)) k_
    · cases h
  · next k x r =>
    split at h
    · next hi => cases h; exact lv_astore hx hb hd hl hi (mj_s1_sh ad ls k (.ref x)) k_
    · cases h
  · next k r =>
    split at h
    · next hi => cases h; exact lv_astoreN hx hb hd hl hi (mj_s1_sh ad ls k .null) k_
    · cases h
  · next k x r =>
    split at h
    · next hi => cases h; exact lv_astore_n hx hb hd rfl hl hi (mj_s1_sh ad ls (k : Nat) (.ref x)) k_
    · cases h
  · next k r =>
    split at h
    · next hi => cases h; exact lv_astore_nN hx hb hd rfl hl hi (mj_s1_sh ad ls (k : Nat) .null) k_
    · cases h
  · next k n =>
    split at h
    · next x hk =>
      split at h
      · next hi =>
        cases h
        obtain ⟨j, hj⟩ := List.getElem?_of_mem (List.mem_map.mpr ⟨_, mj_lk_mem hk, rfl⟩ : (k, mj_sh ad (.int x)) ∈ mj_shL ad ls)
        exact lv_iinc hx hb hd hl hj rfl hi (mj_s1_sh ad ls k (.int (x + Int32.ofInt n))) k_
      · cases h
    · cases h
  · cases h
set_option maxHeartbeats 4000000 in
theorem mj_br_ok {ad : Nat → Nat} {la : Array Slot} {st : List Value} {q : Nat × List Value} {pc len : Nat} {i : Jvm.ClassFile.Instr} (hx : p.tables.exec = Jvm.exec) (hb : c.code = cc) (hd : decode cc pc = .ok (i, len)) (hn : mj_ln i = 0 ∨ len = mj_ln i) (h : mj_br i pc st = some q)
    (k : W p l e R s m args below meth c H locs cells slots Q (F0 m q.1 la (mj_shS ad q.2))) : W p l e R s m args below meth c H locs cells slots Q (F0 m pc la (mj_shS ad st)) := by
  have mp : ∀ {o : Option Nat} {r : List Value}, o.map (·, r) = some q → ∃ t, o = some t ∧ q = (t, r) := by
    intro o r h
    cases o with
    | none => cases h
    | some t => cases h; exact ⟨t, rfl, rfl⟩
  have mf : ∀ {o : Option Nat} {f : Nat → Nat × List Value}, o.map f = some q → ∃ t, o = some t ∧ q = f t := by
    intro o f h
    cases o with
    | none => cases h
    | some t => cases h; exact ⟨t, rfl, rfl⟩
  unfold mj_br at h
  split at h <;> (try (simp [mj_ln] at hn; subst hn))
  · next cd off x r =>
    obtain ⟨t, ht, rfl⟩ := mf h
    have ht := mj_tg_eq ht
    cases cd
    · exact lv_if_eq hx hb hd ht (fun z => by rw [show mj_c1 .eq x = true from decide_eq_true z] at k; exact k) (fun z => by rw [show mj_c1 .eq x = false from decide_eq_false z] at k; exact k)
    · exact lv_if_ne hx hb hd ht (fun z => by rw [show mj_c1 .ne x = true by simp [mj_c1, z]] at k; exact k) (fun z => by rw [show mj_c1 .ne x = false by simp [mj_c1, z]] at k; exact k)
    · exact lv_if_lt hx hb hd ht (fun z => by rw [show mj_c1 .lt x = true from decide_eq_true z] at k; exact k) (fun z => by rw [show mj_c1 .lt x = false from decide_eq_false z] at k; exact k)
    · exact lv_if_ge hx hb hd ht (fun z => by rw [show mj_c1 .ge x = true from decide_eq_true z] at k; exact k) (fun z => by rw [show mj_c1 .ge x = false from decide_eq_false z] at k; exact k)
    · exact lv_if_gt hx hb hd ht (fun z => by rw [show mj_c1 .gt x = true from decide_eq_true z] at k; exact k) (fun z => by rw [show mj_c1 .gt x = false from decide_eq_false z] at k; exact k)
    · exact lv_if_le hx hb hd ht (fun z => by rw [show mj_c1 .le x = true from decide_eq_true z] at k; exact k) (fun z => by rw [show mj_c1 .le x = false from decide_eq_false z] at k; exact k)
  · next cd off y x r =>
    obtain ⟨t, ht, rfl⟩ := mf h
    have ht := mj_tg_eq ht
    cases cd
    · exact lv_icmp_eq hx hb hd ht (fun z => by rw [show mj_c2 .eq x y = true from decide_eq_true z] at k; exact k) (fun z => by rw [show mj_c2 .eq x y = false from decide_eq_false z] at k; exact k)
    · exact lv_icmp_ne hx hb hd ht (fun z => by rw [show mj_c2 .ne x y = true by simp [mj_c2, z]] at k; exact k) (fun z => by rw [show mj_c2 .ne x y = false by simp [mj_c2, z]] at k; exact k)
    · exact lv_icmp_lt hx hb hd ht (fun z => by rw [show mj_c2 .lt x y = true from decide_eq_true z] at k; exact k) (fun z => by rw [show mj_c2 .lt x y = false from decide_eq_false z] at k; exact k)
    · exact lv_icmp_ge hx hb hd ht (fun z => by rw [show mj_c2 .ge x y = true from decide_eq_true z] at k; exact k) (fun z => by rw [show mj_c2 .ge x y = false from decide_eq_false z] at k; exact k)
    · exact lv_icmp_gt hx hb hd ht (fun z => by rw [show mj_c2 .gt x y = true from decide_eq_true z] at k; exact k) (fun z => by rw [show mj_c2 .gt x y = false from decide_eq_false z] at k; exact k)
    · exact lv_icmp_le hx hb hd ht (fun z => by rw [show mj_c2 .le x y = true from decide_eq_true z] at k; exact k) (fun z => by rw [show mj_c2 .le x y = false from decide_eq_false z] at k; exact k)
  · obtain ⟨t, ht, rfl⟩ := mp h
    exact lv_goto hx hb hd (mj_tg_eq ht) k
  · obtain ⟨t, ht, rfl⟩ := mp h
    exact lv_ifnullN hx hb hd (mj_tg_eq ht) k
  · cases h
    exact lv_ifnull hx hb hd k
  · obtain ⟨t, ht, rfl⟩ := mp h
    exact lv_ifnonnull hx hb hd (mj_tg_eq ht) k
  · cases h
    exact lv_ifnonnullN hx hb hd k
  · split at h
    · next hz =>
      obtain ⟨t, ht, rfl⟩ := mp h
      exact lv_tableOut hx hb hd hz (mj_tg_eq ht) k
    · next hz =>
      split at h
      · next off ho =>
        obtain ⟨t, ht, rfl⟩ := mp h
        exact lv_tableIn hx hb hd (fun z => hz (Or.inl z)) (fun z => hz (Or.inr z)) ho (mj_tg_eq ht) k
      · cases h
  · split at h
    · next hz =>
      obtain ⟨t, ht, rfl⟩ := mp h
      exact lv_lookup hx hb hd hz rfl (mj_tg_eq ht) k
    · cases h
  · cases h
end MJ1
