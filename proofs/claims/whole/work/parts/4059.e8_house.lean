/- e8.house -/
section
set_option maxRecDepth 512
/-! Pure: the house stays sound. -/
/-- the house after n calls -/
def HI (n : Nat) (H : Ho) : Prop := (TI (13 * n) H.2.1) ∧ (∀ k ∈ H.2.2.1, KI H.2.1.1.length (6 * n + 2) k) ∧ (∀ p ∈ H.2.2.2.2, okP p ∧ jdI H.2.1 p)
theorem HI.t {n : Nat} {H : Ho} (hh_ : HI n H) : TI (13 * n) H.2.1 := hh_.1
theorem HI.k {n : Nat} {H : Ho} (hh_ : HI n H) : ∀ k ∈ H.2.2.1, KI H.2.1.1.length (6 * n + 2) k := hh_.2.1
theorem HI.p {n : Nat} {H : Ho} (hh_ : HI n H) : ∀ p ∈ H.2.2.2.2, okP p ∧ jdI H.2.1 p := hh_.2.2
theorem HI_mk_ {n : Nat} {H : Ho} (f_0_ : TI (13 * n) H.2.1) (f_1_ : ∀ k ∈ H.2.2.1, KI H.2.1.1.length (6 * n + 2) k) (f_2_ : ∀ p ∈ H.2.2.2.2, okP p ∧ jdI H.2.1 p) : HI n H := And.intro f_0_ (And.intro f_1_ f_2_)
/-- bytes are bytes -/
def BY (H : Ho) : Prop := (∀ v ∈ H.1, v &&& 255 = v) ∧ (∀ h ∈ H.2.2.2.1, h.1.length ≤ 12 ∧ ∀ v ∈ h.1, v &&& 255 = v) ∧ (∀ k ∈ H.2.2.1, ∀ v ∈ k.1.1.1.1.1, v &&& 255 = v) ∧ (H.1.length ≤ 400) ∧ (∀ p ∈ H.2.2.2.2, p.2.2.2.1.length ≤ 8)
theorem BY.t {H : Ho} (hh_ : BY H) : ∀ v ∈ H.1, v &&& 255 = v := hh_.1
theorem BY.p {H : Ho} (hh_ : BY H) : ∀ h ∈ H.2.2.2.1, h.1.length ≤ 12 ∧ ∀ v ∈ h.1, v &&& 255 = v := hh_.2.1
theorem BY.f {H : Ho} (hh_ : BY H) : ∀ k ∈ H.2.2.1, ∀ v ∈ k.1.1.1.1.1, v &&& 255 = v := hh_.2.2.1
theorem BY.l {H : Ho} (hh_ : BY H) : H.1.length ≤ 400 := hh_.2.2.2.1
theorem BY.a {H : Ho} (hh_ : BY H) : ∀ p ∈ H.2.2.2.2, p.2.2.2.1.length ≤ 8 := hh_.2.2.2.2
theorem BY_mk_ {H : Ho} (f_0_ : ∀ v ∈ H.1, v &&& 255 = v) (f_1_ : ∀ h ∈ H.2.2.2.1, h.1.length ≤ 12 ∧ ∀ v ∈ h.1, v &&& 255 = v) (f_2_ : ∀ k ∈ H.2.2.1, ∀ v ∈ k.1.1.1.1.1, v &&& 255 = v) (f_3_ : H.1.length ≤ 400) (f_4_ : ∀ p ∈ H.2.2.2.2, p.2.2.2.1.length ≤ 8) : BY H := And.intro f_0_ (And.intro f_1_ (And.intro f_2_ (And.intro f_3_ f_4_)))
theorem hz.by {M : mj_H} {H : Ho} {κs πs : List Nat} {row : List Int32} (z : hz M H κs πs row) : BY H := by
  refine (BY_mk_ z.tp.2.2.2.2.1 ?_ ?_ z.tp.len ?_)
  · intro h hh
    obtain ⟨i, hi, e⟩ := List.getElem_of_mem hh
    have := z.hd i h (by rw [List.getElem?_eq_getElem hi, e])
    exact ⟨this.pi.len, this.pi.2.2.2.2.1⟩
  · intro k hk
    obtain ⟨i, hi, e⟩ := List.getElem_of_mem hk
    have hkl := z.kl
    obtain ⟨r, hr⟩ := (z.ky i k κs[i] (by rw [List.getElem?_eq_getElem hi, e]) (List.getElem?_eq_getElem (by omega))).st
    exact hr.ce.2.2.2.2.1
  · intro p hp
    obtain ⟨i, hi, e⟩ := List.getElem_of_mem hp
    have hpl := z.pl
    exact (z.py i p πs[i] (by rw [List.getElem?_eq_getElem hi, e]) (List.getElem?_eq_getElem (by omega))).l8
section
variable {n : Nat} {H H' : Ho}
theorem jdI.pre {T T' : Tm} {p : Pa} (h : jdI T p) (hp : T.1 <+: T'.1) : jdI T' p := (jdI_mk_ h.d (fun a ha => sort_pre hp (by decide) (h.u a ha)))
theorem HI.go (h : HI n H) (t : TS 13 H.2.1 H'.2.1) (hk : ∀ k ∈ H'.2.2.1, k ∈ H.2.2.1 ∨ KI H'.2.1.1.length (6 * n + 8) k) (hp : ∀ p ∈ H'.2.2.2.2, p ∈ H.2.2.2.2 ∨ (okP p ∧ jdI H'.2.1 p)) : HI (n + 1) H' := by
  refine (HI_mk_ ((t.i _ h.t).mono (by omega)) ?_ ?_)
  · intro k m
    rcases hk k m with q | q
    · exact (h.k k q).mono t.le (by omega)
    · exact q.mono (Nat.le_refl _) (by omega)
  · intro p m
    rcases hp p m with q | q
    · exact ⟨(h.p p q).1, (h.p p q).2.pre t.p⟩
    · exact q
theorem HI.idle (h : HI n H) (hT : H'.2.1 = H.2.1) (hk : H'.2.2.1 = H.2.2.1) (hp : H'.2.2.2.2 = H.2.2.2.2) : HI (n + 1) H' := h.go (by rw [hT]; exact TS.rf) (fun k m => Or.inl (by rw [hk] at m; exact m)) (fun p m => Or.inl (by rw [hp] at m; exact m))
theorem HI.same (h : HI n H) : HI (n + 1) H := h.idle rfl rfl rfl
theorem HI.kt (h : HI n H) {j a b : Nat} {q : Ky × Tm} (t : KT a b (6 * n + 2) H.2.1 q.1 q.2) (ha : a ≤ 13) (hb : b ≤ 6) : HI (n + 1) (H.kt j q) := by
  refine h.go (H' := H.kt j q) (t.t.mono ha) ?_ (fun p m => Or.inl m)
  intro k m
  rcases List.mem_or_eq_of_mem_set m with m | rfl
  · exact Or.inl m
  · exact Or.inr (t.k.mono (Nat.le_refl _) (by omega))
theorem HI.hk (h : HI n H) {i j a b : Nat} {x : Hd} {q : Ky × Tm} (t : KT a b (6 * n + 2) H.2.1 q.1 q.2) (ha : a ≤ 13) (hb : b ≤ 6) : HI (n + 1) (H.hk i x j q) := by
  refine h.go (H' := H.hk i x j q) (t.t.mono ha) ?_ (fun p m => Or.inl m)
  intro k m
  rcases List.mem_or_eq_of_mem_set m with m | rfl
  · exact Or.inl m
  · exact Or.inr (t.k.mono (Nat.le_refl _) (by omega))
theorem HI.pt (h : HI n H) {j : Nat} {p : Pa} (hp : okP p ∧ jdI H.2.1 p) : HI (n + 1) (H.pt j p) := by
  refine h.go (H' := H.pt j p) TS.rf (fun k m => Or.inl m) ?_
  intro p m
  rcases List.mem_or_eq_of_mem_set m with m | rfl
  · exact Or.inl m
  · exact Or.inr hp
theorem HI.tape (h : HI n H) (t : List Int32) : HI n ((t, (H.2.1, (H.2.2.1, (H.2.2.2.1, H.2.2.2.2)))) : Ho) := (HI_mk_ h.t h.k h.p)
-- the calls
theorem hi_feed (h : HI n H) (w : Int64) (m : Int32) : HI (n + 1) (ho_feed H w m).2 := by
  unfold ho_feed
  split
  · exact h.idle rfl rfl rfl
  · exact h.same
theorem hi_poke (h : HI n H) (i v : Int32) : HI (n + 1) (ho_poke H i v).2 := by
  unfold ho_poke
  split
  · exact h.same
  · split
    · exact h.idle rfl rfl rfl
    · exact h.same
theorem hi_key (h : HI n H) (hn : n ≤ 64) : HI (n + 1) (ho_key H).2 := by
  unfold ho_key
  split
  · exact h.same
  · have q := born_kt h.t (by omega)
    refine h.go (q.t.mono (by omega)) ?_ (fun p m => Or.inl m)
    intro k m
    rcases List.mem_append.mp m with m | m
    · exact Or.inl m
    · simp only [List.mem_singleton] at m
      subst m
      exact Or.inr (q.k.mono (Nat.le_refl _) (by omega))
theorem hi_power (h : HI n H) (hn : n ≤ 64) (i : Int32) (b : Bool) : HI (n + 1) (ho_power H i b).2 := by
  unfold ho_power
  split
  · exact h.same
  · split
    · exact h.same
    · next k hk => exact h.kt (switch_kt h.t (by omega) (h.k k (List.mem_of_getElem? hk)) (by omega) b) (by omega) (by omega)
theorem hi_press (h : HI n H) (i : Int32) : HI (n + 1) (ho_press H i).2 := by
  unfold ho_press
  split
  · exact h.same
  · split
    · exact h.same
    · next k hk => exact h.kt (a := 0) (b := 0) (KT.rf (h.k k (List.mem_of_getElem? hk)).addp) (by omega) (by omega)
theorem hi_cut (h : HI n H) (i a : Int32) : HI (n + 1) (ho_cut H i a).2 := by
  unfold ho_cut
  split
  · exact h.same
  · split
    · exact h.same
    · next k hk =>
      split
      · exact h.kt (a := 0) (b := 0) (KT.rf ((h.k k (List.mem_of_getElem? hk)).cut a)) (by omega) (by omega)
      · exact h.same
theorem hi_command (h : HI n H) (B : BY H) (hn : n ≤ 64) (i m : Int32) : HI (n + 1) (ho_command H i m).2 := by
  unfold ho_command
  split
  · split
    · exact h.same
    · next k hk => exact h.kt (recv_kt (fun v hv => B.t v (List.mem_of_mem_take hv)) h.t (by omega) (h.k k (List.mem_of_getElem? hk)) (by omega)) (by omega) (by omega)
  · exact h.same
theorem hi_take (h : HI n H) (i : Int32) : HI (n + 1) (ho_take H i).2 := by
  unfold ho_take
  split
  · exact h.same
  · split
    · exact h.same
    · split
      · exact h.same
      · exact h.idle rfl rfl rfl
theorem hi_answer (h : HI n H) (i p : Int32) : HI (n + 1) (ho_answer H i p).2 := by
  unfold ho_answer
  split
  · exact h.same
  · split
    · exact h.same
    · exact h.same
theorem hi_flash (h : HI n H) (i p : Int32) : HI (n + 1) (ho_flash H i p).2 := by
  unfold ho_flash
  split
  · exact h.same
  · split
    · exact h.same
    · exact h.same
theorem hi_told (h : HI n H) (i p : Int32) : HI (n + 1) (ho_told H i p).2 := by
  unfold ho_told
  split
  · exact h.same
  · split
    · exact h.same
    · exact h.same
theorem hi_credential (h : HI n H) (i p w : Int32) : HI (n + 1) (ho_credential H i p w).2 := by
  unfold ho_credential
  split
  · exact h.same
  · split
    · exact h.same
    · split
      · exact h.same
      · split
        · exact h.same
        · exact h.same
theorem hi_own (h : HI n H) (hn : n ≤ 64) (i : Int32) : HI (n + 1) (ho_own H i).2 := by
  unfold ho_own
  split
  · exact h.same
  · split
    · exact h.same
    · exact h.go ((own_ts h.t (by omega)).mono (by omega)) (fun k m => Or.inl m) (fun p m => Or.inl m)
theorem hi_agree (h : HI n H) (i t : Int32) : HI (n + 1) (ho_agree H i t).2 := by
  unfold ho_agree
  split
  · exact h.same
  · split
    · exact h.same
    · split
      · exact h.same
      · exact h.go ((TS.add (rO.any (Or.inl rfl))).mono (by omega)) (fun k m => Or.inl m) (fun p m => Or.inl m)
theorem hi_seal (h : HI n H) (B : BY H) (i w m : Int32) : HI (n + 1) (ho_seal H i w m).2 := by
  unfold ho_seal
  split
  · next j c hj hc =>
    split
    · exact h.same
    · next x hx =>
      split
      · exact h.same
      · next hw =>
        simp only [not_or, not_and, Bool.not_eq_false] at hw
        refine h.go ((TS.add ?_).mono (by omega)) (fun k m => Or.inl m) (fun p m => Or.inl m)
        have hl := B.l
        have hb : ∀ v ∈ H.1.take c, v &&& 255 = v := fun v hv => B.t v (List.mem_of_mem_take hv)
        have hlc : (H.1.take c).length ≤ 400 := by rw [List.length_take]; omega
        generalize H.1.take c = b at *
        unfold sl_row
        by_cases w1 : w = 1
        · subst w1
          rw [if_pos rfl]
          exact rO.enc (hw.2 (by decide)) hlc hb
        · rw [if_neg w1]
          by_cases w2 : w = 2
          · subst w2
            rw [if_pos rfl]
            exact rO.mac (hw.2 (by decide))
          · rw [if_neg w2]
            split
            · exact rO.any (Or.inr (Or.inr (Or.inr rfl)))
            · split
              · exact rO.any (Or.inr (Or.inl rfl))
              · exact rO.any (Or.inr (Or.inr (Or.inl rfl)))
  · exact h.same
theorem hi_open (h : HI n H) (i t : Int32) : HI (n + 1) (ho_open H i t).2 := by
  unfold ho_open
  split
  · exact h.same
  · split
    · exact h.same
    · split
      · exact h.idle rfl rfl rfl
      · exact h.same
theorem hi_token (h : HI n H) (i t : Int32) : HI (n + 1) (ho_token H i t).2 := by
  unfold ho_token
  split
  · exact h.same
  · split
    · exact h.same
    · exact h.idle rfl rfl rfl
theorem hi_pin (h : HI n H) (i t : Int32) : HI (n + 1) (ho_pin H i t).2 := by
  unfold ho_pin
  split
  · exact h.same
  · split
    · exact h.same
    · split
      · exact h.idle rfl rfl rfl
      · exact h.same
theorem hi_page (h : HI n H) (i t : Int32) : HI (n + 1) (ho_page H i t).2 := by
  unfold ho_page
  split
  · exact h.same
  · split
    · exact h.same
    · split
      · exact h.idle rfl rfl rfl
      · exact h.same
theorem KT.tr {a b c d G : Nat} {T T' T'' : Tm} {k' k'' : Ky} (h : KT a b G T k' T') (g : KT c d (G + b) T' k'' T'') : KT (a + c) (b + d) G T k'' T'' := (KT_mk_ (h.t.tr g.t) (g.k.mono (Nat.le_refl _) (by omega)))
theorem hi_setPin (h : HI n H) (B : BY H) (hn : n ≤ 64) (i l : Int32) : HI (n + 1) (ho_setPin H i l).2 := by
  unfold ho_setPin
  split
  · split
    · next x k hx hk =>
      have K := h.k k (List.mem_of_getElem? hk)
      split
      · exact h.hk (ag_kt h.t (by omega) K) (by omega) (by omega)
      · have q := agT_kt (h := x) h.t (by omega) K
        have q2 := sp_kt (own := own_n H.2.1) (q.t.i _ h.t) (by omega) q.k (by omega) (agh_ne (h := x) h.t (by omega) K) (B.p x (List.mem_of_getElem? hx))
        exact h.hk (q.tr q2) (by omega) (by omega)
    · exact h.same
  · exact h.same
theorem hi_changePin (h : HI n H) (B : BY H) (hn : n ≤ 64) (i l m : Int32) : HI (n + 1) (ho_changePin H i l m).2 := by
  unfold ho_changePin
  split
  · split
    · next x k hx hk =>
      have K := h.k k (List.mem_of_getElem? hk)
      split
      · exact h.same
      · next hm =>
        simp only [Decidable.not_not] at hm
        have h12 : m.toNatClampNeg ≤ 12 := by
          have := hm.1
          unfold inR at this
          simp only [Bool.and_eq_true, decide_eq_true_eq] at this
          have := this.2
          rw [Int32.le_iff_toInt_le] at this
          have e : (12 : Int32).toInt = 12 := by decide
          rw [e] at this
          unfold Int32.toNatClampNeg
          omega
        split
        · exact h.hk (ag_kt h.t (by omega) K) (by omega) (by omega)
        · have q := agT_kt (h := x) h.t (by omega) K
          have q2 := cp_kt (own := own_n H.2.1) (b := H.1.take m.toNatClampNeg) (q.t.i _ h.t) (by omega) q.k (by omega) (agh_ne (h := x) h.t (by omega) K) ⟨by rw [List.length_take]; omega, fun v hv => B.t v (List.mem_of_mem_take hv)⟩
          exact h.hk (q.tr q2) (by omega) (by omega)
    · exact h.same
  · exact h.same
theorem hi_unlock (h : HI n H) (hn : n ≤ 64) (i l : Int32) : HI (n + 1) (ho_unlock H i l).2 := by
  unfold ho_unlock
  split
  · split
    · next x k hx hk =>
      have K := h.k k (List.mem_of_getElem? hk)
      split
      · exact h.hk (ag_kt h.t (by omega) K) (by omega) (by omega)
      · have q := agT_kt (h := x) h.t (by omega) K
        have q2 := ul_kt (own := own_n H.2.1) (q.t.i _ h.t) (by omega) q.k (by omega) (agh_ne (h := x) h.t (by omega) K)
        exact h.hk (q.tr q2) (by omega) (by omega)
    · exact h.same
  · exact h.same
theorem inR_le {v : Int32} {a b : Nat} (h : inR v (nI a) (nI b) = true) (hb : b < 2 ^ 30) : v.toNatClampNeg ≤ b := by
  unfold inR at h
  simp only [Bool.and_eq_true, decide_eq_true_eq] at h
  have := h.2
  rw [Int32.le_iff_toInt_le] at this
  have e : (nI b).toInt = b := nI_toInt (by omega)
  rw [e] at this
  unfold Int32.toNatClampNeg
  omega
theorem acOf_len (B : BY H) (party : Int32) (u : List Int32) : (acOf (pOf H party) u).length ≤ 8 := by
  unfold acOf
  split
  · exact Nat.zero_le _
  · next p hp =>
    have hm : p ∈ H.2.2.2.2 := by
      unfold pOf at hp
      obtain ⟨j, -, hj⟩ := Option.bind_eq_some_iff.mp hp
      exact List.mem_of_getElem? hj
    exact Nat.le_trans (List.length_filter_le _ _) (B.a p hm)
theorem hi_create (h : HI n H) (B : BY H) (hn : n ≤ 64) (i l c party : Int32) (w : Int64) (m nn how : Int32) : HI (n + 1) (ho_create H i l c party w m nn how).2 := by
  have f := h.t.few
  unfold ho_create
  split
  · next a b ha hb =>
    split
    · next x k hx hk =>
      have K := h.k k (List.mem_of_getElem? hk)
      split
      · exact h.same
      · next hfit =>
        simp only [Decidable.not_not] at hfit
        have hf2 := hfit.2
        unfold fitA at hf2
        simp only [Bool.and_eq_true] at hf2
        have m8 := inR_le (a := 1) (b := 8) hf2.2.1 (by decide)
        have n24 := inR_le (a := 1) (b := 24) hf2.2.2.1 (by decide)
        split
        · exact h.same
        · dsimp only
          have t := cl_ts x H.2.1 1 (chOf c (pOf H party)) how
          obtain ⟨mk, hmk, hm0⟩ := clm_nat x H.2.1 1 (chOf c (pOf H party)) how (by omega)
          have hby := (mkMsg_by (hash := cl_h x H.2.1 1 (chOf c (pOf H party))) (mark := cl_m x H.2.1 1 (chOf c (pOf H party)) how) (name := H.1.take nn.toNatClampNeg) (u := bt_low w m.toNatClampNeg) (l := (if how &&& 4 ≠ 0 then [] else acOf (pOf H party) (bt_low w m.toNatClampNeg))) (how := how) (fun v hv => B.t v (List.mem_of_mem_take hv)) (bt_low_by _ _) (by rw [List.length_take]; omega) (by rw [bt_low_len]; omega) (by
            split
            · exact Nat.zero_le _
            · exact acOf_len B party _) hmk hm0).1
          have q := recv_kt hby (t.i _ h.t) (by omega) (K.mono t.le (Nat.le_refl _)) (by omega)
          have q' : KT 7 3 (6 * n + 2) H.2.1 _ _ := (KT_mk_ (t.tr q.t) q.k)
          exact (h.kt (j := b) (q := (ky_recv _ k _).2) q' (by omega) (by omega)).tape _
    · exact h.same
  · exact h.same
theorem hi_get (h : HI n H) (B : BY H) (hn : n ≤ 64) (i l c party : Int32) (w : Int64) (m nn how : Int32) : HI (n + 1) (ho_get H i l c party w m nn how).2 := by
  have f := h.t.few
  unfold ho_get
  split
  · next a b ha hb =>
    split
    · next x k hx hk =>
      have K := h.k k (List.mem_of_getElem? hk)
      split
      · exact h.same
      · next hfit =>
        simp only [Decidable.not_not] at hfit
        have hf2 := hfit.2
        unfold fitA at hf2
        simp only [Bool.and_eq_true] at hf2
        have n24 := inR_le (a := 1) (b := 24) hf2.2.2.1 (by decide)
        split
        · exact h.same
        · dsimp only
          refine HI.tape (H := H.kt b _) ?_ _
          split
          · have q := recv_kt (ms := [8]) (by decide) h.t (by omega) K (by omega)
            exact h.kt (j := b) q (by omega) (by omega)
          · have t := cl_ts x H.2.1 2 (chOf c (pOf H party)) how
            obtain ⟨mk, hmk, hm0⟩ := clm_nat x H.2.1 2 (chOf c (pOf H party)) how (by omega)
            have hby := (sgMsg_by (hash := cl_h x H.2.1 2 (chOf c (pOf H party))) (mark := cl_m x H.2.1 2 (chOf c (pOf H party)) how) (name := H.1.take nn.toNatClampNeg) (l := (if how &&& 8 ≠ 0 then [] else acOf (pOf H party) (bt_low w m.toNatClampNeg))) (how := how) (fun v hv => B.t v (List.mem_of_mem_take hv)) (by rw [List.length_take]; omega) (by
              split
              · exact Nat.zero_le _
              · exact acOf_len B party _) hmk hm0).1
            have q := recv_kt hby (t.i _ h.t) (by omega) (K.mono t.le (Nat.le_refl _)) (by omega)
            have q' : KT 7 3 (6 * n + 2) H.2.1 _ _ := (KT_mk_ (t.tr q.t) q.k)
            exact h.kt (j := b) (q := (ky_recv _ k _).2) q' (by omega) (by omega)
    · exact h.same
  · exact h.same
theorem hi_party (h : HI n H) (a b : Int32) : HI (n + 1) (ho_party H a b).2 := by
  unfold ho_party
  split
  · refine h.go TS.rf (fun k m => Or.inl m) ?_
    intro p m
    rcases List.mem_append.mp m with m | m
    · exact Or.inl m
    · simp only [List.mem_singleton] at m
      subst m
      exact Or.inr ⟨⟨fun a ha => (by cases ha), fun o ho => (by cases ho)⟩, (jdI_mk_ (fun i j a b hi => (by cases hi)) (fun a ha => (by cases ha)))⟩
  · exact h.same
theorem hi_offer (h : HI n H) (i : Int32) (w : Int64) (m : Int32) (get pin : Bool) : HI (n + 1) (ho_offer H i w m get pin).2 := by
  unfold ho_offer
  split
  · exact h.same
  · split
    · exact h.same
    · next j _ p hp =>
      split
      · next hm =>
        have m8 := inR_le (a := 1) (b := 8) hm.1 (by decide)
        have P := h.p p (List.mem_of_getElem? hp)
        have t : TS 1 H.2.1 (tm_fresh H.2.1) := TS.fresh
        refine h.go (t.mono (by omega)) (fun k m => Or.inl m) ?_
        intro q mq
        rcases List.mem_or_eq_of_mem_set mq with mq | rfl
        · exact Or.inl mq
        · refine Or.inr ⟨⟨P.1.1, ?_⟩, (jdI_mk_ P.2.d ((P.2.pre t.p).u))⟩
          intro o ho
          rcases List.mem_append.mp ho with ho | ho
          · exact P.1.2 o ho
          · simp only [List.mem_singleton] at ho
            subst ho
            exact ⟨by show (bt_low w m.toNatClampNeg).length ≤ 8; rw [bt_low_len]; omega, bt_low_by _ _⟩
      · exact h.same
theorem hi_withdraw (h : HI n H) (i : Int32) : HI (n + 1) (ho_withdraw H i).2 := by
  unfold ho_withdraw
  split
  · exact h.same
  · split
    · exact h.same
    · next p hp =>
      have P := h.p p (List.mem_of_getElem? hp)
      exact h.pt ⟨⟨P.1.1, fun o ho => (by cases ho)⟩, (jdI_mk_ P.2.d P.2.u)⟩
theorem hi_account (h : HI n H) (i q w : Int32) : HI (n + 1) (ho_account H i q w).2 := by
  unfold ho_account
  split
  · exact h.same
  · split
    · exact h.same
    · split
      · exact h.same
      · split
        · exact h.same
        · exact h.same
def pG (T : Tm) (p : Pa) : Prop := okP p ∧ jdI T p
theorem pG.acc {T : Tm} {p : Pa} (h : pG T p) {o : Of} (ho : okO o) {id pub count : Int32} (hp : bt_at (tm_row T.1 pub) 0 = 2) (hid : ∀ a ∈ p.2.2.2.1, a.1 ≠ id) : pG T ((p.1, (p.2.1, (p.2.2.1, (p.2.2.2.1 ++ [((id, (pub, (count, (0, o.2.1)))) : Ac)], (p.2.2.2.2.1, p.2.2.2.2.2))))) : Pa) := by
  refine ⟨⟨?_, h.1.2⟩, (jdI_mk_ ?_ ?_)⟩
  · intro a ha
    rcases List.mem_append.mp ha with ha | ha
    · exact h.1.1 a ha
    · simp only [List.mem_singleton] at ha
      subst ha
      exact ho
  · have at_ : ∀ (i : Nat) (a : Ac), (p.2.2.2.1 ++ [((id, (pub, (count, (0, o.2.1)))) : Ac)])[i]? = some a → (i = p.2.2.2.1.length ∧ a.1 = id) ∨ p.2.2.2.1[i]? = some a := by
      intro i a ha
      rcases Nat.lt_or_ge i p.2.2.2.1.length with w | w
      · rw [List.getElem?_append_left w] at ha
        exact Or.inr ha
      · rw [List.getElem?_append_right w] at ha
        have hi := get_lt ha
        rw [List.length_singleton] at hi
        have : i = p.2.2.2.1.length := by omega
        subst this
        rw [Nat.sub_self] at ha
        cases ha
        exact Or.inl ⟨rfl, rfl⟩
    intro i j a b ha hb e
    rcases at_ i a ha with ⟨i1, i2⟩ | ha
    · rcases at_ j b hb with ⟨j1, j2⟩ | hb
      · omega
      · exact absurd (e.symm.trans i2) (hid b (List.mem_of_getElem? hb))
    · rcases at_ j b hb with ⟨j1, j2⟩ | hb
      · exact absurd (e.trans j2) (hid a (List.mem_of_getElem? ha))
      · exact h.2.d i j a b ha hb e
  · intro a ha
    rcases List.mem_append.mp ha with ha | ha
    · exact h.2.u a ha
    · simp only [List.mem_singleton] at ha
      subst ha
      exact hp
theorem pG.set {T : Tm} {p : Pa} (h : pG T p) {j : Nat} {a : Ac} (hj : p.2.2.2.1[j]? = some a) (count logins : Int32) : pG T ((p.1, (p.2.1, (p.2.2.1, (p.2.2.2.1.set j ((a.1, (a.2.1, (count, (logins, a.2.2.2.2)))) : Ac), (p.2.2.2.2.1, p.2.2.2.2.2))))) : Pa) := by
  have hm := List.mem_of_getElem? hj
  have hlt := get_lt hj
  refine ⟨⟨?_, h.1.2⟩, (jdI_mk_ ?_ ?_)⟩
  · intro x hx
    rcases List.mem_or_eq_of_mem_set hx with hx | rfl
    · exact h.1.1 x hx
    · exact h.1.1 a hm
  · have at_ : ∀ (i : Nat) (x : Ac), (p.2.2.2.1.set j ((a.1, (a.2.1, (count, (logins, a.2.2.2.2)))) : Ac))[i]? = some x → ∃ y, p.2.2.2.1[i]? = some y ∧ y.1 = x.1 := by
      intro i x hx
      rw [List.getElem?_set] at hx
      by_cases hq : j = i
      · rw [if_pos hq, if_pos hlt] at hx
        cases hx
        subst hq
        exact ⟨a, hj, rfl⟩
      · rw [if_neg hq] at hx
        exact ⟨x, hx, rfl⟩
    intro i k x y hx hy e
    obtain ⟨x', hx', ex⟩ := at_ i x hx
    obtain ⟨y', hy', ey⟩ := at_ k y hy
    exact h.2.d i k x' y' hx' hy' (by rw [ex, ey, e])
  · intro x hx
    rcases List.mem_or_eq_of_mem_set hx with hx | rfl
    · exact h.2.u x hx
    · exact h.2.u a hm
theorem jdm_pG {T : Tm} {p : Pa} (h : pG T p) {o : Of} (ho : okO o) (t : List Int32) : pG T (jd_make T p o t).2 := by
  unfold jd_make
  split
  · exact h
  · split
    · exact h
    · split
      · exact h
      · next hs =>
        split
        · exact h
        · next hany =>
          split
          · exact h
          · refine h.acc ho ?_ ?_
            · simp only [not_or] at hs
              have := hs.1
              unfold tm_sec at this
              split at this
              · next e => exact e
              · exact absurd rfl this
            · intro a ha e
              apply hany
              rw [List.any_eq_true]
              exact ⟨a, ha, by simpa [S_cb_mmade4_0, S_bx_mcan1_0, S_b8_mkey_1, S_b8_mkey_0, S_b1_mterm_0, S_b1_copy_0, S_b0_mod_7, S_b0_mod_6, S_b0_mod_5, S_b0_mod_3, S_b0_mod_2, S_b0_mod_1, S_b0_mod_0, S_cb_mmade4_1h, S_bx_mcan1_1h, S_b0_mod_4h] using e⟩
theorem jdg_pG {T : Tm} {p : Pa} (h : pG T p) (o : Of) (t : List Int32) : pG T (jd_get T p o t).2 := by
  unfold jd_get
  split
  · exact h
  · split
    · exact h
    · split
      · exact h
      · split
        · exact h
        · next a ha =>
          split
          · exact h
          · split
            · exact h
            · split
              · exact h
              · exact h.set ha _ _
theorem jd_pG {T : Tm} {p : Pa} (h : pG T p) (t : List Int32) (size : Nat) : pG T (jd T p t size).2 := by
  unfold jd
  by_cases hok : jd_ok t size
  · rw [if_neg (fun w => w hok)]
    cases hj : jd_of p t with
    | none => exact h
    | some i =>
      dsimp only
      cases ho : p.2.2.1[i]? with
      | none => exact h
      | some o =>
        dsimp only
        have hO := h.1.2 o (List.mem_of_getElem? ho)
        have h' : pG T ((p.1, (p.2.1, (p.2.2.1.eraseIdx i, (p.2.2.2.1, (p.2.2.2.2.1, p.2.2.2.2.2))))) : Pa) := ⟨⟨h.1.1, fun q hq => h.1.2 q (List.mem_of_mem_eraseIdx hq)⟩, (jdI_mk_ h.2.d h.2.u)⟩
        unfold jd_met
        by_cases h1 : (t.drop 6).take (cbB t 5) ≠ p.1
        · rw [if_pos h1]; exact h'
        · rw [if_neg h1]
          cases o.2.2.1 with
          | true => rw [if_pos rfl]; exact jdg_pG h' _ _
          | false => rw [if_neg (by decide)]; exact jdm_pG h' hO _
  · rw [if_pos hok]; exact h
theorem cnt_pG {T : Tm} {q : Int32 × Pa} (h : pG T q.2) : pG T (jd_cnt q) := by
  unfold jd_cnt
  split
  · exact ⟨⟨h.1.1, h.1.2⟩, (jdI_mk_ h.2.d h.2.u)⟩
  · exact ⟨⟨h.1.1, h.1.2⟩, (jdI_mk_ h.2.d h.2.u)⟩
theorem hi_judge (h : HI n H) (i m : Int32) : HI (n + 1) (ho_judge H i m).2 := by
  unfold ho_judge
  split
  · split
    · exact h.same
    · next p hp =>
      exact h.pt (cnt_pG (jd_pG (h.p p (List.mem_of_getElem? hp)) H.1 _))
  · exact h.same
end
end
