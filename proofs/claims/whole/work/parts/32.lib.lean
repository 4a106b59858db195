/-! Small helps for running methods. -/
theorem mq_ix {k n : Nat} (hk : k < n) (hn : n < 2 ^ 31) : mj_ix (nI k) n = some k := by
  unfold mj_ix
  rw [if_neg (nI_in hk hn), nI_clamp (by omega)]
/-- an int is below 0, or a small number -/
theorem mq_int (x : Int32) : x < 0 ∨ ∃ k : Nat, k < 2 ^ 31 ∧ x = nI k := by
  by_cases h : x < 0
  · exact Or.inl h
  · exact Or.inr (nI_of h)
/-- nothing but the listed cells has changed -/
def mq_fr (S : List Nat) (M M' : mj_H) : Prop := M'.length = M.length ∧ ∀ c : Nat, c ∉ S → M'[c]? = M[c]?
theorem mq_fr.rf {S : List Nat} {M : mj_H} : mq_fr S M M := ⟨rfl, fun _ _ => rfl⟩
theorem mq_fr.tr {S : List Nat} {M M' M'' : mj_H} (h1 : mq_fr S M M') (h2 : mq_fr S M' M'') : mq_fr S M M'' := ⟨h2.1.trans h1.1, fun c hc => (h2.2 c hc).trans (h1.2 c hc)⟩
theorem mq_fr.mono {S S' : List Nat} {M M' : mj_H} (h : mq_fr S M M') (hs : ∀ c, c ∈ S → c ∈ S') : mq_fr S' M M' := ⟨h.1, fun c hc => h.2 c (fun z => hc (hs c z))⟩
theorem mq_fr.set {S : List Nat} {M M' : mj_H} {a : Nat} {q : mj_C} (h : mq_fr S M M') (ha : a ∈ S) : mq_fr S M (M'.set a q) := by
  refine ⟨by rw [List.length_set]; exact h.1, fun c hc => ?_⟩
  rw [List.getElem?_set_ne (show a ≠ c from fun z => hc (z ▸ ha))]
  exact h.2 c hc
theorem mq_lt {M : mj_H} {a : Nat} {q : mj_C} (h : M[a]? = some q) : a < M.length := (List.getElem?_eq_some_iff.mp h).1
/-- fewer locals do as well: each entry of the one is the first with its key in the other -/
def mq_sub (l' l : mj_L) : Prop := ∀ q ∈ l', mj_lk l q.1 = some q.2
theorem mq_sub_lk {l' l : mj_L} (h : mq_sub l' l) {i : Nat} {v : Value} (hv : mj_lk l' i = some v) : mj_lk l i = some v := h (i, v) (mj_lk_mem hv)
theorem mq_lk_filter {p : Nat × Value → Bool} : ∀ {l : mj_L} {i : Nat} {v : Value}, mj_lk l i = some v → p (i, v) = true → mj_lk (l.filter p) i = some v := by
  intro l
  induction l with
  | nil => intro i v h; simp [mj_lk] at h
  | cons q l ih =>
    intro i v h hp
    unfold mj_lk at h
    by_cases hq : q.1 = i
    · rw [if_pos hq] at h
      have e : q.2 = v := Option.some.inj h
      have : q = (i, v) := by rw [← hq, ← e]
      subst this
      rw [List.filter_cons_of_pos hp]
      simp [mj_lk]
    · rw [if_neg hq] at h
      by_cases hpq : p q = true
      · rw [List.filter_cons_of_pos hpq]
        unfold mj_lk
        rw [if_neg hq]
        exact ih h hp
      · rw [List.filter_cons_of_neg hpq]
        exact ih h hp
theorem mq_sub_put {l' l : mj_L} (h : mq_sub l' l) (k : Nat) (x : Value) {p : Nat × Value → Bool} (hp : ∀ v, p (k, v) = false) : mq_sub ((k, x) :: l'.filter p) ((k, x) :: l.filter p) := by
  intro q hq
  rcases List.mem_cons.mp hq with rfl | hq
  · simp [mj_lk]
  · obtain ⟨h1, h2⟩ := List.mem_filter.mp hq
    have hk : ¬ k = q.1 := by
      intro e
      have := hp q.2
      rw [e] at this
      rw [this] at h2
      cases h2
    unfold mj_lk
    rw [if_neg hk]
    exact mq_lk_filter (h q h1) h2
theorem mq_sub_s1 {l' l : mj_L} (h : mq_sub l' l) (k : Nat) (x : Value) : mq_sub (mj_s1 l' k x) (mj_s1 l k x) := mq_sub_put h k x (fun v => by simp)
theorem mq_sub_s2 {l' l : mj_L} (h : mq_sub l' l) (k : Nat) (x : Value) : mq_sub (mj_s2 l' k x) (mj_s2 l k x) := mq_sub_put h k x (fun v => by simp)
theorem mq_pu_sub {l' l : mj_L} (h : mq_sub l' l) {i : Jvm.ClassFile.Instr} {st st' : List Value} (hp : mj_pu i l' st = some st') : mj_pu i l st = some st' := by
  have hi : ∀ k, mj_ldi (mj_lk l' k) st = some st' → mj_ldi (mj_lk l k) st = some st' := by
    intro k hk
    obtain ⟨x, h1, rfl⟩ := mj_ldi_eq hk
    rw [mq_sub_lk h h1]; rfl
  have hl : ∀ k, mj_ldl (mj_lk l' k) st = some st' → mj_ldl (mj_lk l k) st = some st' := by
    intro k hk
    obtain ⟨x, h1, rfl⟩ := mj_ldl_eq hk
    rw [mq_sub_lk h h1]; rfl
  have ha : ∀ k, mj_lda (mj_lk l' k) st = some st' → mj_lda (mj_lk l k) st = some st' := by
    intro k hk
    rcases mj_lda_eq hk with ⟨x, h1, rfl⟩ | ⟨h1, rfl⟩ <;> rw [mq_sub_lk h h1] <;> rfl
  cases i <;> first | exact hp | exact hi _ hp | exact hl _ hp | exact ha _ hp
theorem mq_lo_sub {l' l : mj_L} (h : mq_sub l' l) {nL : Nat} {i : Jvm.ClassFile.Instr} {st : List Value} {q : mj_L × List Value} (hp : mj_lo nL i l' st = some q) : ∃ l1, mj_lo nL i l st = some (l1, q.2) ∧ mq_sub q.1 l1 := by
  unfold mj_lo at hp
  split at hp
  · next k x r =>
    split at hp
    · next hk => cases hp; exact ⟨mj_s1 l k (.int x), by simp [mj_lo, hk], mq_sub_s1 h _ _⟩
    · cases hp
  · next k x r =>
    split at hp
    · next hk => cases hp; exact ⟨mj_s1 l k (.int x), by simp [mj_lo, hk], mq_sub_s1 h _ _⟩
    · cases hp
  · next k x r =>
    split at hp
    · next hk => cases hp; exact ⟨mj_s2 l k (.long x), by simp [mj_lo, hk], mq_sub_s2 h _ _⟩
    · cases hp
  · next k x r =>
    split at hp
    · next hk => cases hp; exact ⟨mj_s2 l k (.long x), by simp [mj_lo, hk], mq_sub_s2 h _ _⟩
    · cases hp
  · next k x r =>
    split at hp
    · next hk => cases hp; exact ⟨mj_s1 l k (.ref x), by simp [mj_lo, hk], mq_sub_s1 h _ _⟩
    · cases hp
  · next k r =>
    split at hp
    · next hk => cases hp; exact ⟨mj_s1 l k .null, by simp [mj_lo, hk], mq_sub_s1 h _ _⟩
    · cases hp
  · next k x r =>
    split at hp
    · next hk => cases hp; exact ⟨mj_s1 l k (.ref x), by simp [mj_lo, hk], mq_sub_s1 h _ _⟩
    · cases hp
  · next k r =>
    split at hp
    · next hk => cases hp; exact ⟨mj_s1 l k .null, by simp [mj_lo, hk], mq_sub_s1 h _ _⟩
    · cases hp
  · next k n =>
    split at hp
    · next x hx =>
      split at hp
      · next hk => cases hp; exact ⟨mj_s1 l k (.int (x + Int32.ofInt n)), by simp [mj_lo, hk, mq_sub_lk h hx], mq_sub_s1 h _ _⟩
      · cases hp
    · cases hp
  · cases hp
theorem mq_go_sub {d : Nat} {call : mj_F} {y : mj_Me} : ∀ (n pc : Nat) (l' l : mj_L) (st : List Value) (M : mj_H) (r : Option Value × mj_H), mq_sub l' l → mj_go d call y n pc l' st M = some r → mj_go d call y n pc l st M = some r := by
  intro n
  induction n with
  | zero => intro pc l' l st M r _ h; simp [mj_go] at h
  | succ n ih =>
    intro pc l' l st M r hs h
    unfold mj_go at h ⊢
    split at h
    · next rr hrr =>
      (try rw [hrr])
      (try dsimp only)
      split at h
      · next hk =>
        (try rw [hk]); (try dsimp only)
        split at h
        · next q hq => rw [mq_pu_sub hs hq]; exact ih _ _ _ _ _ _ hs h
        · cases h
      · next hk =>
        (try rw [hk]); (try dsimp only)
        split at h
        · next q hq =>
          obtain ⟨l1, e1, e2⟩ := mq_lo_sub hs hq
          rw [e1]
          exact ih _ _ _ _ _ _ e2 h
        · cases h
      · next hk =>
        (try rw [hk]); (try dsimp only)
        split at h
        · next q hq => (try rw [hq]); exact ih _ _ _ _ _ _ hs h
        · cases h
      · next hk =>
        (try rw [hk]); (try dsimp only)
        split at h
        · next q hq => (try rw [hq]); exact ih _ _ _ _ _ _ hs h
        · cases h
      · next hk =>
        (try rw [hk]); (try dsimp only)
        split at h
        · next q hq => (try rw [hq]); exact ih _ _ _ _ _ _ hs h
        · cases h
      · next hk =>
        (try rw [hk]); (try dsimp only)
        split at h
        · cases h
        · next hd0 =>
          (try rw [if_neg hd0])
          split at h
          · next h6 =>
            (try rw [if_pos h6])
            split at h
            · split at h
              · next hrm => (try rw [if_pos hrm]); exact ih _ _ _ _ _ _ hs h
              · cases h
            · cases h
          · next h6 =>
            (try rw [if_neg h6])
            split at h
            · next h7 =>
              (try rw [if_pos h7])
              split at h
              · next q hq =>
                (try rw [hq])
                (try dsimp only)
                split at h
                · next hrm => (try rw [if_pos hrm]); exact ih _ _ _ _ _ _ hs h
                · cases h
              · cases h
            · next h7 =>
              (try rw [if_neg h7])
              split at h
              · next z hz =>
                (try rw [hz])
                (try dsimp only)
                split at h
                · next q hq =>
                  (try rw [hq])
                  (try dsimp only)
                  split at h
                  · next t ht =>
                    (try rw [ht])
                    exact ih _ _ _ _ _ _ hs h
                  · cases h
                · cases h
              · cases h
      · next hk =>
        (try rw [hk]); (try dsimp only)
        exact h
      · cases h
    · cases h
theorem mq_wk {d : Nat} {y : mj_Me} {pc : Nat} {l' l : mj_L} {st : List Value} {M : mj_H} {r : Option Value × mj_H} (hs : mq_sub l' l) (h : mj_Rn d y pc l' st M = some r) : mj_Rn d y pc l st M = some r := by
  obtain ⟨n, hn⟩ := mj_Rn_iff.mp h
  exact mj_Rn_iff.mpr ⟨n, mq_go_sub n pc l' l st M r hs hn⟩
