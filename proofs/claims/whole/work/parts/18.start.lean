/-! The law's start: the cells that are given, and what the machine knows of them. -/
def mj_N : List Cond := flatC (Jvm.Cond.and given_1 narrow_1)
def mj_tm : List Term := [.string "PasskeyHouse$Key" 171, .string "PasskeyHouse$Key" 261, .string "PasskeyHouse$Items" 113, .string "PasskeyHouse$Key" 230, .string "PasskeyHouse$Key" 221, .string "PasskeyHouse$Items" 115, .string "PasskeyHouse$Key" 317, .string "PasskeyHouse$Key" 326, .string "PasskeyHouse$Key" 343, .string "PasskeyHouse$Key" 373, .string "PasskeyHouse$Key" 375]
abbrev mj_t (i : Nat) : Term := mj_tm.getD i (.int 0)
def mj_L0 : List Int32 := [0, 4, 4, 1, 8, 13]
def mj_L1 : List Int32 := [0, 4, 4, 1, 8, 20]
def mj_SX : mj_H := (mj_str.zipIdx).flatMap (fun q => [(900, [.ref (4 + 2 * q.2), .int 0]), (1001, q.1.map Value.int)])
/-- the given cells: the script, two tables, the texts -/
def mj_X (xs : List Int32) : mj_H := (1000, xs.map Value.int) :: (1000, mj_L0.map Value.int) :: (1000, mj_L1.map Value.int) :: mj_SX
theorem mj_X_len (xs : List Int32) : (mj_X xs).length = mj_E := rfl
theorem mj_X_at (xs : List Int32) {k : Nat} (hk : k < 11) : (mj_X xs)[3 + 2 * k]? = some (900, [.ref (4 + 2 * k), .int 0]) ∧ (mj_X xs)[4 + 2 * k]? = some (1001, (mj_str.getD k []).map Value.int) := by
  rcases (show k = 0 ∨ k = 1 ∨ k = 2 ∨ k = 3 ∨ k = 4 ∨ k = 5 ∨ k = 6 ∨ k = 7 ∨ k = 8 ∨ k = 9 ∨ k = 10 by omega) with rfl | rfl | rfl | rfl | rfl | rfl | rfl | rfl | rfl | rfl | rfl <;> exact ⟨rfl, rfl⟩
theorem mj_n1 : ∀ i, i < 11 → Cond.exactly (mj_t i) "java/lang/String" ∈ mj_N := by decide +kernel
theorem mj_n2 : ∀ i, i < 11 → Cond.eq (.field (mj_t i) "java/lang/String" "coder" "B") (.int 0) ∈ mj_N := by decide +kernel
theorem mj_n3 : ∀ i, i < 11 → Cond.arrayOf (.field (mj_t i) "java/lang/String" "value" "[B") .byte ∈ mj_N := by decide +kernel
theorem mj_n4 : ∀ i, i < 11 → Cond.eq (.length (.field (mj_t i) "java/lang/String" "value" "[B")) (.int (Int32.ofNat (mj_str.getD i []).length)) ∈ mj_N := by decide +kernel
theorem mj_n5 : ∀ i, i < 11 → ∀ j, j < (mj_str.getD i []).length → Cond.eq (.elem (.field (mj_t i) "java/lang/String" "value" "[B") (.int (Int32.ofNat j))) (.int ((mj_str.getD i []).getD j 0)) ∈ mj_N := by decide +kernel
theorem mj_n6 : ∀ i, i < 11 → (mj_str.getD i []).length < 2 ^ 31 := by decide +kernel
theorem mj_T_ext {ty : FieldType} {t N : Nat} {f g : Nat → Value} {A : Nat → Prop} {U : State} {H : Heap} (h : va_T ty t N f A U H) (hfg : ∀ j, j < N → f j = g j) : va_T ty t N g A U H := by
  obtain ⟨cell, h1, h2, h3, h4, h5, h6, h7⟩ := h
  exact ⟨cell, h1, h2, h3, h4, h5, fun j hj => by rw [← hfg j hj]; exact h6 j hj, h7⟩
theorem mj_nA {s : State} : ∀ a : Nat, a < s.heap.size → ¬ mj_A s a := fun a h z => absurd h (Nat.not_lt.mpr z)
theorem mj_s1_at {args : Array Value} {s : State} (hs : ∀ w ∈ mj_N, w.before args s = true) {i : Nat} (hi : i < 11) : ∃ q : Nat × Nat, (mj_t i).eval args s none [] s = some (.ref q.1) ∧ va_O "java/lang/String" q.1 (mj_A s) s s.heap ∧ va_OF "java/lang/String" "coder" "B" (.int 0) q.1 (mj_A s) s s.heap ∧ va_OF "java/lang/String" "value" "[B" (.ref q.2) q.1 (mj_A s) s s.heap ∧ va_T .byte q.2 (mj_str.getD i []).length (fun j => .int ((mj_str.getD i []).getD j 0)) (mj_A s) s s.heap := by
  obtain ⟨a, c, cA, kA, q1, q2, q3, q4, q5, q6, -⟩ := Cond.exactly_spec (args := args) (first := s) (o := none) (s := s) (idx := []) (t := mj_t i) (cls := "java/lang/String") (hs _ (mj_n1 i hi))
  obtain ⟨t, ht, hT⟩ := va_Tof (f := fun j => .int ((mj_str.getD i []).getD j 0)) (A := mj_A s) (mj_n6 i hi) (hs _ (mj_n3 i hi)) (va_eqt (hs _ (mj_n4 i hi))) (fun j hj => va_eqt (hs _ (mj_n5 i hi j hj))) mj_nA
  exact ⟨(a, t), q1, ⟨cA, q3, q5, by rw [q6]; exact q2, mj_nA a (Array.getElem?_eq_some_iff.mp q3).1⟩, vk_OFof q1 (va_eqt (hs _ (mj_n2 i hi))) mj_nA, vk_OFof q1 ht mj_nA, hT⟩
theorem mj_k1 : ∀ j, j < 6 → Cond.eq (.elem (.static "PasskeyHouse$Store" "LEAST_LENGTH" "[I") (.int (Int32.ofNat j))) (.int (mj_L0.getD j 0)) ∈ mj_N := by decide +kernel
theorem mj_k2 : ∀ j, j < 6 → Cond.eq (.elem (.static "PasskeyHouse$Store" "MOST_LENGTH" "[I") (.int (Int32.ofNat j))) (.int (mj_L1.getD j 0)) ∈ mj_N := by decide +kernel
theorem mj_a1_at {args : Array Value} {s : State} (hs : ∀ w ∈ mj_N, w.before args s = true) : ∃ t : Nat, (Term.static "PasskeyHouse$Store" "LEAST_LENGTH" "[I").eval args s none [] s = some (.ref t) ∧ va_T .int t 6 (fun j => .int (mj_L0.getD j 0)) (mj_A s) s s.heap :=
  va_Tof (f := fun j => .int (mj_L0.getD j 0)) (A := mj_A s) (by decide) (hs _ (by decide +kernel)) (va_eqt (hs _ (by decide +kernel))) (fun j hj => va_eqt (hs _ (mj_k1 j hj))) mj_nA
theorem mj_a2_at {args : Array Value} {s : State} (hs : ∀ w ∈ mj_N, w.before args s = true) : ∃ t : Nat, (Term.static "PasskeyHouse$Store" "MOST_LENGTH" "[I").eval args s none [] s = some (.ref t) ∧ va_T .int t 6 (fun j => .int (mj_L1.getD j 0)) (mj_A s) s s.heap :=
  va_Tof (f := fun j => .int (mj_L1.getD j 0)) (A := mj_A s) (by decide) (hs _ (by decide +kernel)) (va_eqt (hs _ (by decide +kernel))) (fun j hj => va_eqt (hs _ (mj_k2 j hj))) mj_nA
/-- the words that name texts, all of them, and which text each names -/
def mj_isS : Cond → Bool
  | .stringRef _ _ _ => true
  | _ => false
def mj_sr : List (String × Nat × Nat) := [("PasskeyHouse$Key", 171, 0), ("PasskeyHouse$Key", 261, 1), ("PasskeyHouse$Items", 113, 2), ("PasskeyHouse$Key", 230, 3), ("PasskeyHouse$Key", 221, 4), ("PasskeyHouse$Items", 115, 5), ("PasskeyHouse$Key", 317, 6), ("PasskeyHouse$Key", 326, 7), ("PasskeyHouse$Key", 343, 8), ("PasskeyHouse$Key", 369, 2), ("PasskeyHouse$Key", 371, 5), ("PasskeyHouse$Key", 373, 9), ("PasskeyHouse$Key", 375, 10), ("PasskeyHouse", 362, 0), ("PasskeyHouse", 368, 1), ("PasskeyHouse", 370, 2), ("PasskeyHouse", 372, 5), ("PasskeyHouse", 272, 3), ("PasskeyHouse", 374, 8)]
set_option maxRecDepth 100000 in
set_option maxHeartbeats 4000000 in
theorem mj_sr_ok : lw_tbl.all (fun w => match w with
    | .stringRef o i tx => mj_sr.any (fun q => decide (q.1 = o) && (decide (q.2.1 = i) && decide (mj_tx[q.2.2]? = some tx)))
    | _ => true) = true := by decide +kernel
theorem mj_sr_eq : ∀ q ∈ mj_sr, q.2.2 < 11 ∧ (mj_t q.2.2 = .string q.1 q.2.1 ∨ Cond.eq (mj_t q.2.2) (.string q.1 q.2.1) ∈ mj_N) := by decide +kernel
theorem mj_tx_inj : ∀ i, i < 11 → ∀ j, j < 11 → mj_tx[i]? = mj_tx[j]? → i = j := by decide +kernel
theorem mj_str_R {args : Array Value} {s : State} (hs : ∀ w ∈ mj_N, w.before args s = true) (hts : ∀ w ∈ lw_tbl, w.before args s = true) {f : Nat → Nat × Nat} (hf : ∀ i, i < 11 → (mj_t i).eval args s none [] s = some (.ref (f i).1)) {own : String} {i : Nat} {tx : String} {k : Nat} (hk : mj_tx[k]? = some tx) (hm : Cond.stringRef own i tx ∈ lw_tbl) : vk_R own i tx (f k).1 s := by
  have h1 := List.all_eq_true.mp mj_sr_ok _ hm
  dsimp only at h1
  obtain ⟨q, hq, h2⟩ := List.any_eq_true.mp h1
  simp only [Bool.and_eq_true, decide_eq_true_eq] at h2
  obtain ⟨e1, e2, e3⟩ := h2
  obtain ⟨h11, he⟩ := mj_sr_eq q hq
  have hk11 : k < 11 := (List.getElem?_eq_some_iff.mp hk).1
  have hkq : q.2.2 = k := mj_tx_inj _ h11 _ hk11 (e3.trans hk.symm)
  rw [hkq] at he h11
  have hev := hf k hk11
  refine vk_R.of (hts _ hm) ?_
  rw [← e1, ← e2]
  rcases he with he | he
  · rw [← he]; exact hev
  · exact va_eqR (hs _ he) hev
set_option maxHeartbeats 8000000 in
set_option maxRecDepth 100000 in
/-- from the law's start: a picture of the heap, for the small machine -/
theorem mj_begin {args : Array Value} {s : State} {b L : Nat} {xs : Nat → Int32} {ys : List Int32} (hs : ∀ w ∈ mj_N, w.before args s = true) (hts : ∀ w ∈ lw_tbl, w.before args s = true) (hX : va_X b L xs s s.heap) (hL : L < 2 ^ 31) (hy : ys.length = L) (hxy : ∀ j, j < L → xs j = ys.getD j 0) :
    ∃ D : mj_D, mj_env D s ∧ mj_K D s s ∧ mj_Rp D s (mj_X ys) s.heap ∧ D.2.2.2 0 = b := by
  have htb : ∀ w ∈ mj_tb, w.before args s = true := fun w hw => hts w (List.mem_filter.mp hw).1
  -- classes
  have hcls : ∀ ci : Nat, ∃ x : ClassId × (Nat → Nat), ∀ r : vw_C, mj_cl[ci]? = some r → u_Kn s r.1 r.2.1 r.2.2 x.1 x.2 := by
    intro ci
    cases hr : mj_cl[ci]? with
    | none => exact ⟨(0, fun _ => 0), fun r h => by cases h⟩
    | some r =>
      obtain ⟨hin, hins, -⟩ := mj_class hr
      obtain ⟨cC, iS, h⟩ := u_known (C := r.1) (T := r.2.1) (N := r.2.2) htb hin (htb _ hins)
      exact ⟨(cC, iS), fun r' h' => by cases h'; exact h⟩
  obtain ⟨dCI, hdCI⟩ := Classical.axiomOfChoice hcls
  -- arrays
  have harr : ∀ t : Nat, ∃ cA : ClassId, 1000 ≤ t → t < 1010 → ArrOfT s cA (mj_aty t) ∧ va_RA s cA (mj_aty t) := by
    have prim : ∀ ty : FieldType, Cond.arrayClass ty ∈ mj_tb → ∃ cA : ClassId, ArrOfT s cA ty ∧ s.vm.findClass ("[" ++ ty.toString) = some cA := by
      intro ty hw
      obtain ⟨cA, k, comp, h1, h2, h3⟩ := Cond.arrayClass_spec (htb _ hw)
      exact ⟨cA, fun n z => ⟨fun k h => (by cases h), k, h2, comp, h3⟩, h1⟩
    have obj : ∀ C : String, Cond.arrayOver (.object C) ∈ lw_tbl → ∃ cA : ClassId, ArrOfT s cA (.object C) ∧ va_RA s cA (.object C) := by
      intro C hw
      obtain ⟨comp, cA, k, h1, -, h2, h3, h4⟩ := Cond.arrayOver_spec (hts _ hw)
      exact ⟨cA, fun n z => ⟨fun k h => (by cases h), k, h2, comp, h3⟩, k, comp, h2, h3, h1, h4⟩
    intro t
    by_cases h1 : 1000 ≤ t
    · by_cases h2 : t < 1010
      · rcases (show t = 1000 ∨ t = 1001 ∨ t = 1002 ∨ t = 1003 ∨ t = 1004 ∨ t = 1005 ∨ t = 1006 ∨ t = 1007 ∨ t = 1008 ∨ t = 1009 by omega) with rfl | rfl | rfl | rfl | rfl | rfl | rfl | rfl | rfl | rfl
        · obtain ⟨cA, a1, a2⟩ := prim .int (mj_w_in (p := 4140) (by decide +kernel)); exact ⟨cA, fun _ _ => ⟨a1, a2⟩⟩
        · obtain ⟨cA, a1, a2⟩ := prim .byte (mj_w_in (p := 20521) (by decide +kernel)); exact ⟨cA, fun _ _ => ⟨a1, a2⟩⟩
        · obtain ⟨cA, a1, a2⟩ := prim .boolean (mj_w_in (p := 32781) (by decide +kernel)); exact ⟨cA, fun _ _ => ⟨a1, a2⟩⟩
        · obtain ⟨cA, a1, a2⟩ := prim .long (mj_w_in (p := 32782) (by decide +kernel)); exact ⟨cA, fun _ _ => ⟨a1, a2⟩⟩
        · obtain ⟨cA, a⟩ := obj "PasskeyHouse$Key" (mj_wN_in (p := 4210) (by decide +kernel)); exact ⟨cA, fun _ _ => a⟩
        · obtain ⟨cA, a⟩ := obj "PasskeyHouse$Hand" (mj_wN_in (p := 4212) (by decide +kernel)); exact ⟨cA, fun _ _ => a⟩
        · obtain ⟨cA, a⟩ := obj "PasskeyHouse$Party" (mj_wN_in (p := 4242) (by decide +kernel)); exact ⟨cA, fun _ _ => a⟩
        · obtain ⟨cA, a⟩ := obj "PasskeyHouse$Credential" (mj_wN_in (p := 8204) (by decide +kernel)); exact ⟨cA, fun _ _ => a⟩
        · obtain ⟨cA, a⟩ := obj "PasskeyHouse$Offer" (mj_wN_in (p := 24619) (by decide +kernel)); exact ⟨cA, fun _ _ => a⟩
        · obtain ⟨cA, a⟩ := obj "PasskeyHouse$Account" (mj_wN_in (p := 24647) (by decide +kernel)); exact ⟨cA, fun _ _ => a⟩
      · exact ⟨0, fun _ h => absurd h h2⟩
    · exact ⟨0, fun h => absurd h h1⟩
  obtain ⟨dA, hdA⟩ := Classical.axiomOfChoice harr
  -- texts and tables
  have hst : ∀ i : Nat, ∃ q : Nat × Nat, i < 11 → (mj_t i).eval args s none [] s = some (.ref q.1) ∧ va_O "java/lang/String" q.1 (mj_A s) s s.heap ∧ va_OF "java/lang/String" "coder" "B" (.int 0) q.1 (mj_A s) s s.heap ∧ va_OF "java/lang/String" "value" "[B" (.ref q.2) q.1 (mj_A s) s s.heap ∧ va_T .byte q.2 (mj_str.getD i []).length (fun j => .int ((mj_str.getD i []).getD j 0)) (mj_A s) s s.heap := by
    intro i
    by_cases hi : i < 11
    · obtain ⟨q, hq⟩ := mj_s1_at hs hi
      exact ⟨q, fun _ => hq⟩
    · exact ⟨(0, 0), fun h => absurd h hi⟩
  obtain ⟨f, hf⟩ := Classical.axiomOfChoice hst
  obtain ⟨t1, ht1, hT1⟩ := mj_a1_at hs
  obtain ⟨t2, ht2, hT2⟩ := mj_a2_at hs
  obtain ⟨scr, x1, x2, x3, x4, x5⟩ := hX
  have hbl : b < s.heap.size := (Array.getElem?_eq_some_iff.mp x1).1
  have hTlt : ∀ {ty : FieldType} {t N : Nat} {g : Nat → Value}, va_T ty t N g (mj_A s) s s.heap → t < s.heap.size := by
    intro ty t N g h
    obtain ⟨cell, h1, -⟩ := h
    exact (Array.getElem?_eq_some_iff.mp h1).1
  obtain ⟨ad, had⟩ : ∃ ad : Nat → Nat, ad = fun i => if i = 0 then b else if i = 1 then t1 else if i = 2 then t2 else if i < 25 then (if i % 2 = 1 then (f ((i - 3) / 2)).1 else (f ((i - 4) / 2)).2) else s.heap.size + (i - 25) := ⟨_, rfl⟩
  have ad0 : ad 0 = b := by rw [had]; rfl
  have ad1 : ad 1 = t1 := by rw [had]; rfl
  have ad2 : ad 2 = t2 := by rw [had]; rfl
  have adS : ∀ k, k < 11 → ad (3 + 2 * k) = (f k).1 := by
    intro k hk
    rw [had]
    dsimp only
    rw [if_neg (by omega), if_neg (by omega), if_neg (by omega), if_pos (by omega), if_pos (by omega), show (3 + 2 * k - 3) / 2 = k by omega]
  have adV : ∀ k, k < 11 → ad (4 + 2 * k) = (f k).2 := by
    intro k hk
    rw [had]
    dsimp only
    rw [if_neg (by omega), if_neg (by omega), if_neg (by omega), if_pos (by omega), if_neg (by omega), show (4 + 2 * k - 4) / 2 = k by omega]
  have adB : ∀ i, mj_E ≤ i → ad i = s.heap.size + (i - mj_E) := by
    intro i hi
    have hi : 25 ≤ i := hi
    rw [had]
    dsimp only
    rw [if_neg (by omega), if_neg (by omega), if_neg (by omega), if_neg (by omega)]
    rfl
  have split25 : ∀ i, i < mj_E → i = 0 ∨ i = 1 ∨ i = 2 ∨ (∃ k, k < 11 ∧ i = 3 + 2 * k) ∨ ∃ k, k < 11 ∧ i = 4 + 2 * k := by
    intro i hi
    have hi : i < 25 := hi
    by_cases h3 : i < 3
    · omega
    · rcases Nat.mod_two_eq_zero_or_one i with hm | hm
      · exact Or.inr (Or.inr (Or.inr (Or.inr ⟨(i - 4) / 2, by omega, by omega⟩)))
      · exact Or.inr (Or.inr (Or.inr (Or.inl ⟨(i - 3) / 2, by omega, by omega⟩)))
  refine ⟨(fun i => (dCI i).1, fun i => (dCI i).2, dA, ad), ⟨fun ci r hr => hdCI ci r hr, fun t h1 h2 => hdA t h1 h2, adB, ?_, ?_, ?_⟩, ⟨Vm.Alike.refl _, ?_, ?_, ?_⟩, ⟨?_, Nat.le_refl _, fun _ _ => rfl, ?_, ?_⟩, ad0⟩
  · intro i hi
    show ad i < _
    rcases split25 i hi with rfl | rfl | rfl | ⟨k, hk, rfl⟩ | ⟨k, hk, rfl⟩
    · rw [ad0]; exact hbl
    · rw [ad1]; exact hTlt hT1
    · rw [ad2]; exact hTlt hT2
    · rw [adS k hk]
      obtain ⟨cell, h1, -⟩ := (hf k hk).2.1
      exact (Array.getElem?_eq_some_iff.mp h1).1
    · rw [adV k hk]
      exact hTlt (hf k hk).2.2.2.2
  · intro j q hj
    have hj3 : j < 3 := (List.getElem?_eq_some_iff.mp hj).1
    rcases (show j = 0 ∨ j = 1 ∨ j = 2 by omega) with rfl | rfl | rfl
    · cases hj
      show va_Z _ _ _ (.ref (ad 1)) _ _ _
      rw [ad1]
      exact va_Zof (hts _ (mj_wN_in (p := 12325) (by decide +kernel))) (hts _ (mj_wN_in (p := 4105) (by decide +kernel))) ht1 mj_nA
    · cases hj
      show va_Z _ _ _ (.ref (ad 2)) _ _ _
      rw [ad2]
      exact va_Zof (hts _ (mj_wN_in (p := 12327) (by decide +kernel))) (hts _ (mj_wN_in (p := 4105) (by decide +kernel))) ht2 mj_nA
    · cases hj
      exact va_Zof (hts _ (mj_wN_in (p := 12515) (by decide +kernel))) (hts _ (mj_wN_in (p := 4109) (by decide +kernel))) (va_eqi (hs _ (by decide +kernel))) mj_nA
  · intro t C h1 h2 hC
    rcases (show t = 1004 ∨ t = 1005 ∨ t = 1006 ∨ t = 1007 ∨ t = 1008 ∨ t = 1009 by omega) with rfl | rfl | rfl | rfl | rfl | rfl
    · cases hC; exact va_AO.of (hts _ (mj_wN_in (p := 4210) (by decide +kernel)))
    · cases hC; exact va_AO.of (hts _ (mj_wN_in (p := 4212) (by decide +kernel)))
    · cases hC; exact va_AO.of (hts _ (mj_wN_in (p := 4242) (by decide +kernel)))
    · cases hC; exact va_AO.of (hts _ (mj_wN_in (p := 8204) (by decide +kernel)))
    · cases hC; exact va_AO.of (hts _ (mj_wN_in (p := 24619) (by decide +kernel)))
    · cases hC; exact va_AO.of (hts _ (mj_wN_in (p := 24647) (by decide +kernel)))
  · intro own i tx k hk hm
    have hk11 : k < 11 := (List.getElem?_eq_some_iff.mp hk).1
    show vk_R own i tx (ad (3 + 2 * k)) s
    rw [adS k hk11]
    exact mj_str_R hs hts (fun i hi => (hf i hi).1) hk hm
  · intro a i b n d h hm
    exact va_Nw.of rfl (hts _ hm)
  · intro a i x h hm
    exact va_Nw.of rfl (hts _ hm)
  · show s.heap.size = s.heap.size + ((mj_X ys).length - mj_E)
    rw [mj_X_len]; omega
  · intro i c hc hi
    show mj_ext _ s (ad i) c
    have toT : ∀ (zs : List Int32) (ty : FieldType) (t : Nat), va_T ty t zs.length (fun j => .int (zs.getD j 0)) (mj_A s) s s.heap → va_T ty t (zs.map Value.int).length (fun j => mj_sh ad ((zs.map Value.int).getD j .null)) (mj_A s) s s.heap := by
      intro zs ty t h
      rw [List.length_map]
      refine mj_T_ext h fun j hj => ?_
      simp [List.getD, List.getElem?_map, List.getElem?_eq_getElem hj, mj_sh]
    rcases split25 i hi with rfl | rfl | rfl | ⟨k, hk, rfl⟩ | ⟨k, hk, rfl⟩
    · cases hc
      rw [ad0]
      refine Or.inl ⟨Nat.le_refl _, by show 1000 < 1010; omega, toT ys .int b ⟨scr, x1, x2, x3, by omega, by rw [x4, hy], fun j hj => by rw [x5 j (by omega), hxy j (by omega)], mj_nA b hbl⟩⟩
    · cases hc
      rw [ad1]
      exact Or.inl ⟨Nat.le_refl _, by show 1000 < 1010; omega, toT mj_L0 .int t1 hT1⟩
    · cases hc
      rw [ad2]
      exact Or.inl ⟨Nat.le_refl _, by show 1000 < 1010; omega, toT mj_L1 .int t2 hT2⟩
    · rw [(mj_X_at ys hk).1] at hc
      cases hc
      rw [adS k hk]
      obtain ⟨-, g1, g2, g3, -⟩ := hf k hk
      refine Or.inr ⟨rfl, rfl, g1, ?_, g2⟩
      show va_OF _ _ _ (.ref (ad (4 + 2 * k))) _ _ _ _
      rw [adV k hk]
      exact g3
    · rw [(mj_X_at ys hk).2] at hc
      cases hc
      rw [adV k hk]
      exact Or.inl ⟨by show 1000 ≤ 1001; omega, by show 1001 < 1010; omega, toT _ .byte _ (hf k hk).2.2.2.2⟩
  · intro i c hc hi
    have := (List.getElem?_eq_some_iff.mp hc).1
    rw [mj_X_len] at this
    omega
