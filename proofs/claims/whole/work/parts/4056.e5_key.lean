/- e5.key -/
section
set_option maxRecDepth 512
/-! Pure: a key stays sound. -/
/-- a key; n terms are there; at most G moves were -/
def KI (n G : Nat) (k : Ky) : Prop := (FS n G k.1.1.1.1) ∧ (k.1.2.1.1 ≤ 9) ∧ (k.2.1.1.2 ≤ 3) ∧ (k.2.1.2.2 ≤ 8) ∧ (k.1.1.1.1.2.1 = true → nI k.1.2.2.2 ≠ 0)
theorem KI.s {n G : Nat} {k : Ky} (hh_ : KI n G k) : FS n G k.1.1.1.1 := hh_.1
theorem KI.w {n G : Nat} {k : Ky} (hh_ : KI n G k) : k.1.2.1.1 ≤ 9 := hh_.2.1
theorem KI.x {n G : Nat} {k : Ky} (hh_ : KI n G k) : k.2.1.1.2 ≤ 3 := hh_.2.2.1
theorem KI.l {n G : Nat} {k : Ky} (hh_ : KI n G k) : k.2.1.2.2 ≤ 8 := hh_.2.2.2.1
theorem KI.a {n G : Nat} {k : Ky} (hh_ : KI n G k) : k.1.1.1.1.2.1 = true → nI k.1.2.2.2 ≠ 0 := hh_.2.2.2.2
theorem KI_mk_ {n G : Nat} {k : Ky} (f_0_ : FS n G k.1.1.1.1) (f_1_ : k.1.2.1.1 ≤ 9) (f_2_ : k.2.1.1.2 ≤ 3) (f_3_ : k.2.1.2.2 ≤ 8) (f_4_ : k.1.1.1.1.2.1 = true → nI k.1.2.2.2 ≠ 0) : KI n G k := And.intro f_0_ (And.intro f_1_ (And.intro f_2_ (And.intro f_3_ f_4_)))
/-- a step of a key: terms grow by at most a, moves by at most b -/
def KT (a b G : Nat) (T : Tm) (k' : Ky) (T' : Tm) : Prop := (TS a T T') ∧ (KI T'.1.length (G + b) k')
theorem KT.t {a b G : Nat} {T : Tm} {k' : Ky} {T' : Tm} (hh_ : KT a b G T k' T') : TS a T T' := hh_.1
theorem KT.k {a b G : Nat} {T : Tm} {k' : Ky} {T' : Tm} (hh_ : KT a b G T k' T') : KI T'.1.length (G + b) k' := hh_.2
theorem KT_mk_ {a b G : Nat} {T : Tm} {k' : Ky} {T' : Tm} (f_0_ : TS a T T') (f_1_ : KI T'.1.length (G + b) k') : KT a b G T k' T' := And.intro f_0_ f_1_
section
variable {n m G N : Nat} {k k' : Ky} {T T' : Tm} {ms : List Int32}
theorem KI.mono {G' : Nat} (h : KI n G k) (hm : n ≤ m) (hG : G ≤ G') : KI m G' k := (KI_mk_ (h.s.mono hm hG) h.w h.x h.l h.a)
theorem KI.of (h : KI n G k) (hs : k'.1.1.1.1 = k.1.1.1.1) (hw : k'.1.2.1.1 ≤ 9) (hx : k'.2.1.1.2 ≤ 3) (hl : k'.2.1.2.2 ≤ 8) (ha : k'.1.2.2.2 = k.1.2.2.2) : KI n G k' := (KI_mk_ (by rw [hs]; exact h.s) hw hx hl (by rw [hs, ha]; exact h.a))
theorem KT.mono {a b a' b' : Nat} (h : KT a b G T k' T') (ha : a ≤ a') (hb : b ≤ b') : KT a' b' G T k' T' := (KT_mk_ (h.t.mono ha) (h.k.mono (Nat.le_refl _) (by omega)))
theorem KT.rf {a b : Nat} (h : KI T.1.length G k) : KT a b G T k T := (KT_mk_ TS.rf (h.mono (Nat.le_refl _) (by omega)))
theorem TS.le {a : Nat} (h : TS a T T') : T.1.length ≤ T'.1.length := h.p.length_le
theorem took_w (k : Ky) : (ky_took k).1.2.1.1 ≤ k.1.2.1.1 ∧ (ky_took k).2.1.1.2 = k.2.1.1.2 ∧ (ky_took k).2.1.2.2 = k.2.1.2.2 ∧ (ky_took k).1.2.2.2 = k.1.2.2.2 := by
  unfold ky_took
  split
  · exact ⟨Nat.le_refl _, rfl, rfl, rfl⟩
  · exact ⟨Nat.sub_le _ _, rfl, rfl, rfl⟩
theorem KI.took (h : KI n G k) : KI n G (ky_took k) := by
  obtain ⟨t1, t2, t3, t4⟩ := took_w k
  have hw := h.w
  exact h.of (tookd k).1 (by omega) (by rw [t2]; exact h.x) (by rw [t3]; exact h.l) t4
theorem KI.pnt (h : KI n G k) (o o2 : Option Nat) (hash : Int32) : KI n G (pnTest k T ms o o2 hash).2 := by
  unfold pnTest
  split
  · split
    · exact h
    · exact h.took
  · split
    · exact h
    · split
      · exact h
      · exact h
theorem KI.wr (h : KI n G k) (hon : k.1.1.1.1.2.1 = true) {r : List Int32} (hr : rK r) (hg : Gd n (fs_lrn k.1.1.1.1.2.2.2.2.2.2.2 r)) (hn : n < 2 ^ 30) (hG : G + 1 < 65536) : KI n (G + 1) (ky_w k r) := (KI_mk_ (h.s.wr hon hr hg hn hG) h.w h.x h.l (fun _ => h.a hon))
theorem nI_n0 {a : Nat} (h : 1 ≤ a) (h2 : a < 2 ^ 30) : nI a ≠ 0 := by
  intro w
  rw [show (0 : Int32) = nI 0 from rfl, nI_inj (by omega) (by omega)] at w
  omega
theorem TI.sn (h : TI N T) (hN : N < 2 ^ 29) : nI (T.2.2 + 1) ≠ 0 := nI_n0 (by omega) (by have := h.se; omega)
theorem TI.nn (h : TI N T) (hN : N < 2 ^ 29) (r : List Int32) : nI (tm_no T r) ≠ 0 := by
  have := tm_no_b T r
  have := h.few
  exact nI_n0 (by omega) (by omega)
theorem sw_kt (I : TI N T) (hN : N < 900) (h : KI T.1.length G k) (hon : k.1.1.1.1.2.1 = true) (hG : G + 1 < 65536) (c : Option Cr) (id party hash flags : Int32) (many : Nat) : KT 1 1 G T (sw k T c id party hash flags many).1 (sw k T c id party hash flags many).2 := by
  have hf := I.few
  have w := h.wr hon (r := rcCount (sw_id c) (sw_cnt k c)) (rK_n (kk := 4) (Or.inr (Or.inr rfl))) (h.s.m.count _ _) (by omega) hG
  unfold sw
  split
  · exact (KT_mk_ TS.rf w)
  · have t : TS 1 T (tm_mk T (sw_row k T c id party hash flags)) := TS.add (rO.any (Or.inr (Or.inl rfl)))
    exact (KT_mk_ t ((w.mono t.le (Nat.le_refl _)).of rfl w.w w.x w.l rfl))
theorem TS.tlT {c : Cr} (hc : c.2.2.1 ≠ 0) (flags count hash : Int32) : TS 2 T (tl_T c T flags count hash) := by
  unfold tl_T
  exact (TS.add (rO.pub hc)).tr (TS.add (rO.any (Or.inr (Or.inl rfl))))
theorem oBy_by (hb : ∀ v ∈ ms, v &&& 255 = v) (o : Option Nat) : ∀ v ∈ oBy ms o, v &&& 255 = v := by
  cases o with
  | none => intro v hv; cases hv
  | some p => exact fun v hv => hb v (List.mem_of_mem_drop (List.mem_of_mem_take hv))
theorem mend_kt (hb : ∀ v ∈ ms, v &&& 255 = v) (I : TI N T) (hN : N < 900) (h : KI T.1.length G k) (hon : k.1.1.1.1.2.1 = true) (hG : G + 1 < 65536) (hok : mkFault ms = 0) (hu : 1 ≤ (oBy ms (cbNm ms id_ (mem ms 3))).length ∧ (oBy ms (cbNm ms id_ (mem ms 3))).length ≤ 8) : KT 5 1 G T (mk_end ms k T).2.1 (mk_end ms k T).2.2 := by
  have hf := I.few
  have hu8 := oBy_by hb (cbNm ms id_ (mem ms 3))
  unfold mk_end
  unfold mk_party
  generalize oBy ms (cbNm ms id_ (mem ms 2)) = nm at *
  generalize oBy ms (cbNm ms id_ (mem ms 3)) = u at *
  generalize (if mem ms 8 = none then (65 : Int32) else 69) = fg at *
  generalize o4 ms (mem ms 1) = hs at *
  have t1 : TS 1 T (bw_T1 T) := TS.sec 1
  have t2 : TS 1 (bw_T1 T) (tm_mk (bw_T1 T) (7 :: nm)) := TS.add (rO.any (Or.inr (Or.inr (Or.inl rfl))))
  have I1 := t1.i N I
  have I2 := t2.i _ I1
  split
  · split
    · next hneed =>
      have t3 : TS 1 (tm_mk (bw_T1 T) (7 :: nm)) (bs_T T nm) := TS.fresh
      have I3 := t3.i _ I2
      have hfr : (tm_mk (bw_T1 T) (7 :: nm)).2.1 = T.2.1 := (tm_mk_fresh _ _).1
      have hno := I2.no (by omega)
      rw [hfr] at hno
      have l2 : T.1.length ≤ (tm_mk (bw_T1 T) (7 :: nm)).1.length := (t1.tr t2).le
      have l3 : (tm_mk (bw_T1 T) (7 :: nm)).1.length + 1 ≤ (bs_T T nm).1.length := by
        have := get_lt (no_at (tm_mk (bw_T1 T) (7 :: nm)) [1, nI T.2.1])
        rw [hno] at this
        have e : (bs_T T nm).1 = (tm_mk (tm_mk (bw_T1 T) (7 :: nm)) [1, nI T.2.1]).1 := by unfold bs_T tm_fresh; rw [hfr]
        rw [e]
        omega
      have f3 := I3.few
      have hpar : nI (tm_no (bw_T1 T) (7 :: nm)) ≠ 0 := I1.nn (by omega) _
      have hgd : Gd (bs_T T nm).1.length (fs_lrn k.1.1.1.1.2.2.2.2.2.2.2 (bs_cm k T nm u).row) := by
        rw [lrn_row _ (show (bs_cm k T nm u).2.2.2.1.length ≤ 8 from hu.2)]
        refine h.s.m.cred (c := (((bs_cm k T nm u).1, ((bs_cm k T nm u).2.1, ((bs_cm k T nm u).2.2.1, ((bs_cm k T nm u).2.2.2.1, 0)))) : Cr)) ⟨hu.2, hu8⟩ hu.1 (i := (tm_mk (bw_T1 T) (7 :: nm)).1.length + 1) (by show nI _ = nI _; rw [hno]) (by omega) l3 (by omega) hpar ?_
        intro hpl
        rw [need_eq] at hneed
        have ecr : crS k.1.1.1.1.2.2.2.2.2.2.2.2.2.2.2 = fs_room k.1.1.1.1.2.2.2.2.2.2.2.2.2.2.2 := rfl
        show fs_room k.1.1.1.1.2.2.2.2.2.2.2.2.2.2.2 + 28 + u.length ≤ 195
        have hpl : fs_pl k.1.1.1.1.2.2.2.2.2.2.2.2.2.2.2 (nI (tm_no (bw_T1 T) (7 :: nm))) u = k.1.1.1.1.2.2.2.2.2.2.2.2.2.2.2.length := hpl
        by_cases h0 : tm_ix T.1 (7 :: nm) = 0
        · have e0 : fs_pl k.1.1.1.1.2.2.2.2.2.2.2.2.2.2.2 (nI (tm_ix T.1 (7 :: nm))) u = k.1.1.1.1.2.2.2.2.2.2.2.2.2.2.2.length := by
            rw [h0]
            refine pl_none (fun c hc w => ?_)
            exact (h.s.m.c c hc).2.1 w.1
          rw [if_pos e0] at hneed
          omega
        · have e1 : tm_no (bw_T1 T) (7 :: nm) = tm_ix T.1 (7 :: nm) := by
            unfold tm_no
            exact if_neg h0
          rw [e1] at hpl
          rw [if_pos hpl] at hneed
          omega
      have hK : KI (bs_T T nm).1.length G (((((k.1.1.1.1, k.1.1.1.2), (k.1.1.2.1, bs_cm k T nm u)), ((k.1.2.1.1, k.1.2.1.2), (k.1.2.2.1, k.1.2.2.2))), (((k.2.1.1.1, k.2.1.1.2), (k.2.1.2.1, k.2.1.2.2)), ((k.2.2.1.1, k.2.2.1.2), k.2.2.2))) : Ky) := (h.mono (by omega) (Nat.le_refl _)).of rfl h.w h.x h.l rfl
      have hW : KI (bs_T T nm).1.length (G + 1) (bs_k k T nm u) := hK.wr hon (rK_row (c := bs_cm k T nm u) ⟨hu.2, hu8⟩ hu.1 (by show nI _ ≠ 0; exact I2.nn (by omega) _)) hgd (by omega) hG
      split
      · have t4 : TS 2 (bs_T T nm) (tl_T (bs_k k T nm u).1.1.2.2 (bs_T T nm) fg 0 hs) := TS.tlT (show (bs_k k T nm u).1.1.2.2.2.2.1 ≠ 0 from I.sn (by omega)) _ _ _
        exact (KT_mk_ (((t1.tr t2).tr t3).tr t4) ((hW.mono t4.le (Nat.le_refl _)).of rfl hW.w hW.x hW.l rfl))
      · exact (KT_mk_ (((t1.tr t2).tr t3).mono (by omega)) hW)
    · exact KT.rf h
  · have t3 : TS 1 (tm_mk (bw_T1 T) (7 :: nm)) (bw_T k T nm) := TS.add (rO.wrap (I1.nn (by omega) _))
    have t4 : TS 2 (bw_T k T nm) (tl_T (bw_k k T nm).1.1.2.2 (bw_T k T nm) fg k.1.1.1.1.2.2.2.2.2.2.2.2.2.2.1 hs) := TS.tlT (show (bw_k k T nm).1.1.2.2.2.2.1 ≠ 0 from I.sn (by omega)) _ _ _
    have t5 := ((t1.tr t2).tr t3).tr t4
    exact (KT_mk_ t5 ((h.mono t5.le (by omega)).of rfl h.w h.x h.l rfl))
theorem mk_user (hc : cbMsg ms) (hok : mkFault ms = 0) : 1 ≤ (oBy ms (cbNm ms id_ (mem ms 3))).length ∧ (oBy ms (cbNm ms id_ (mem ms 3))).length ≤ 8 := by
  obtain ⟨hs, nm, us, al, hG⟩ := mkG.of hc hok
  have h3 := hG.v3
  rw [hG.m3, oBy_len ((cbOk_hd.mp hG.i3.ok).2 (Or.inl hG.s3))]
  exact h3
theorem make_kt (hb : ∀ v ∈ ms, v &&& 255 = v) (hc : cbMsg ms) (I : TI N T) (hN : N < 900) (h : KI T.1.length G k) (hon : k.1.1.1.1.2.1 = true) (hG : G + 1 < 65536) : KT 5 1 G T (ky_make ms k T).2.1 (ky_make ms k T).2.2 := by
  unfold ky_make
  split
  · exact KT.rf h
  · next hf =>
    have hf : mkFault ms = 0 := by simpa [S_cb_mmade4_0, S_bx_mcan1_0, S_b8_mkey_1, S_b8_mkey_0, S_b1_mterm_0, S_b1_copy_0, S_b0_mod_7, S_b0_mod_6, S_b0_mod_5, S_b0_mod_3, S_b0_mod_2, S_b0_mod_1, S_b0_mod_0, S_cb_mmade4_1h, S_bx_mcan1_1h, S_b0_mod_4h] using hf
    split
    · exact KT.rf h.took
    · split
      · exact KT.rf h
      · split
        · exact KT.rf h
        · split
          · refine KT.rf ?_
            show KI T.1.length G (mk_pin ms k T).2
            unfold mk_pin
            split
            · exact h
            · exact h.pnt _ _ _
          · split
            · exact KT.rf h
            · exact mend_kt hb I hN h.took (by rw [(tookd k).1]; exact hon) hG hf (mk_user hc hf)
theorem next_kt (I : TI N T) (hN : N < 900) (h : KI T.1.length G k) (hon : k.1.1.1.1.2.1 = true) (hG : G + 1 < 65536) : KT 1 1 G T (ky_next k T).2.1 (ky_next k T).2.2 := by
  unfold ky_next
  split
  · exact KT.rf h
  · next j hj =>
    obtain ⟨c, -, -, hlt⟩ := fs_last_some hj
    have hl := h.l
    exact sw_kt I hN (h.of (k' := (((((k.1.1.1.1, k.1.1.1.2), (k.1.1.2.1, k.1.1.2.2)), ((k.1.2.1.1, k.1.2.1.2), (k.1.2.2.1, k.1.2.2.2))), (((k.2.1.1.1, k.2.1.1.2), (k.2.1.2.1, j)), ((k.2.2.1.1, k.2.2.1.2), k.2.2.2))) : Ky)) rfl h.w h.x (by show j ≤ 8; omega) rfl) hon hG _ _ _ _ _ _
theorem sign_kt (I : TI N T) (hN : N < 900) (h : KI T.1.length G k) (hon : k.1.1.1.1.2.1 = true) (hG : G + 1 < 65536) : KT 1 1 G T (ky_sign ms k T).2.1 (ky_sign ms k T).2.2 := by
  have htk : KI T.1.length G (sg_tk ms k) := by
    unfold sg_tk
    split
    · exact h.took
    · exact h
  have htn : (sg_tk ms k).1.1.1.1.2.1 = true := by rw [(tk_s ms k).1]; exact hon
  unfold ky_sign
  split
  · exact KT.rf h
  · split
    · exact KT.rf h
    · split
      · refine KT.rf ?_
        show KI T.1.length G (sg_pin ms k T).2
        unfold sg_pin
        split
        · exact h
        · exact h.pnt _ _ _
      · unfold sg_end
        split
        · unfold sg_all
          split
          · exact KT.rf h
          · next j hj =>
            obtain ⟨c, -, -, hlt⟩ := fs_last_some hj
            have h6 := h.s.m.six
            split
            · exact KT.rf h
            · exact sw_kt I hN (htk.of (k' := ((((((sg_tk ms k).1.1.1.1, (sg_tk ms k).1.1.1.2), ((sg_tk ms k).1.1.2.1, (sg_tk ms k).1.1.2.2)), (((sg_tk ms k).1.2.1.1, (sg_tk ms k).1.2.1.2), ((sg_tk ms k).1.2.2.1, (sg_tk ms k).1.2.2.2))), ((((sg_tk ms k).2.1.1.1, (sg_tk ms k).2.1.1.2), ((sg_tk ms k).2.1.2.1, j)), ((sg_party T ms, o4 ms (mem ms 2)), sg_fl ms))) : Ky)) rfl htk.w htk.x (by show j ≤ 8; omega) rfl) htn hG _ _ _ _ _ _
        · unfold sg_list
          split
          · exact KT.rf h
          · split
            · exact KT.rf h
            · exact sw_kt I hN htk htn hG _ _ _ _ _ _
theorem reset_kt (I : TI N T) (hN : N < 900) (h : KI T.1.length G k) (hon : k.1.1.1.1.2.1 = true) (hG : G + 1 < 65536) : KT 3 1 G T (ky_reset k T).2.1 (ky_reset k T).2.2 := by
  have hf := I.few
  have t1 : TS 1 T (tm_fresh T) := TS.fresh
  have I1 := t1.i N I
  have f1 := I1.few
  have hk := h.mono t1.le (Nat.le_refl G)
  have hm := hk.s.reset hon (nI (tm_no T [1, nI T.2.1])) (by omega) hG
  have ht := h.took
  obtain ⟨a1, a2, a3, a4⟩ := took_w k
  unfold ky_reset
  split
  · exact KT.rf h
  · split
    · exact KT.rf h
    · split
      · exact (KT_mk_ (t1.tr (TS.sec 2)) ((KI_mk_ hm ht.w (Nat.zero_le _) ht.l (fun _ => I1.sn (by omega)))))
      · exact (KT_mk_ (t1.mono (by omega)) ((KI_mk_ hm ht.w ht.x ht.l (fun _ => by show nI (ky_took k).1.2.2.2 ≠ 0; rw [a4]; exact h.a hon))))
theorem newp_kt {sh : Int32} (I : TI N T) (hN : N < 900) (h : KI T.1.length G k) (hon : k.1.1.1.1.2.1 = true) (hG : G + 1 < 65536) : KT 1 1 G T (ky_newPin ms k T sh).2.1 (ky_newPin ms k T sh).2.2 := by
  have hf := I.few
  unfold ky_newPin
  split
  · have t : TS 1 T (tm_mk T (pn_new ms T)) := TS.add (rO.any (Or.inr (Or.inr (Or.inl rfl))))
    have f1 := (t.i N I).few
    exact (KT_mk_ t ((h.mono t.le (Nat.le_refl _)).wr hon (rK_n (Or.inl rfl)) (h.s.m.mono t.le |>.pin _ _) (by omega) hG))
  · exact KT.rf h
theorem try_kt {sh : Int32} (I : TI N T) (hN : N < 900) (h : KI T.1.length G k) (hon : k.1.1.1.1.2.1 = true) (hG : G + 2 < 65536) (ht : pn_try k = 0) : KT 1 2 G T (ky_tryPin ms k T sh).2.1 (ky_tryPin ms k T sh).2.2 := by
  have hf := I.few
  have h0 : k.1.1.1.1.2.2.2.2.2.2.2.2.2.1 ≠ 0 ∧ k.2.1.1.2 < 3 := by
    unfold pn_try at ht
    split at ht
    · cases ht
    · split at ht
      · cases ht
      · split at ht
        · cases ht
        · next a b c => exact ⟨b, by omega⟩
  obtain ⟨t, ht8, et⟩ := h.s.m.t
  have t1 : 1 ≤ t := by
    rcases Nat.eq_zero_or_pos t with w | w
    · subst w; exact absurd et h0.1
    · exact w
  have e1 : k.1.1.1.1.2.2.2.2.2.2.2.2.2.1 - 1 = nI (t - 1) := by
    rw [et]
    obtain ⟨t', rfl⟩ : ∃ t', t = t' + 1 := ⟨t - 1, by omega⟩
    rw [Nat.add_sub_cancel]
    rcases (show t' = 0 ∨ t' = 1 ∨ t' = 2 ∨ t' = 3 ∨ t' = 4 ∨ t' = 5 ∨ t' = 6 ∨ t' = 7 by omega) with rfl | rfl | rfl | rfl | rfl | rfl | rfl | rfl <;> decide
  have w1 : KI T.1.length (G + 1) (pn_k1 k) := by
    unfold pn_k1
    rw [e1]
    exact h.wr hon (rK_n (Or.inr (Or.inl rfl))) (h.s.m.tries (by omega) _) (by omega) (by omega)
  unfold ky_tryPin
  split
  · exact (KT_mk_ TS.rf (w1.mono (Nat.le_refl _) (by omega)))
  · next hw =>
    have on1 : (pn_k1 k).1.1.1.1.2.1 = true := by
      rcases fs_wr_onk (rcn 3 (k.1.1.1.1.2.2.2.2.2.2.2.2.2.1 - 1) 0) k.1.1.1.1 with q | q
      · exact q.2.trans hon
      · exact absurd q.1 hw
    split
    · have w2 := w1.wr on1 (r := rcn 3 8 0) (rK_n (Or.inr (Or.inl rfl))) (w1.s.m.tries (t := 8) (by omega) _) (by omega) (by omega)
      exact (KT_mk_ TS.rf ((KI_mk_ w2.s w2.w (Nat.zero_le _) w2.l w2.a)))
    · have w2 := w1.mono (m := T.1.length) (G' := G + 2) (Nat.le_refl _) (by omega)
      exact (KT_mk_ (TS.sec 1) ((KI_mk_ w2.s w2.w (by show k.2.1.1.2 + 1 ≤ 3; omega) w2.l (fun _ => I.sn (by omega)))))
theorem dopin_kt (I : TI N T) (hN : N < 899) (h : KI T.1.length G k) (hon : k.1.1.1.1.2.1 = true) (hG : G + 3 < 65536) : KT 2 3 G T (ky_doPin ms k T).2.1 (ky_doPin ms k T).2.2 := by
  have hf := I.few
  unfold ky_doPin
  split
  · exact KT.rf h
  · split
    · exact KT.rf (h.of rfl h.w h.x h.l rfl)
    · split
      · have t : TS 1 T (tm_mk T [2, nI k.1.2.2.2]) := TS.add (rO.pub (h.a hon))
        exact (KT_mk_ (t.mono (by omega)) ((h.mono t.le (by omega)).of rfl h.w h.x h.l rfl))
      · unfold pn_late
        by_cases h1 : (if oVn ms (mem ms 2) = 3 then pn_set k else pn_try k) ≠ 0
        · rw [if_pos h1]; exact KT.rf h
        · rw [if_neg h1]
          by_cases h2 : oVn ms (mem ms 2) ≠ 5 ∧ kn_as T (pn_mac (nI (pn_sh k T ms)) ms (decide (oVn ms (mem ms 2) = 4))) (o4 ms (mem ms 4)) = false
          · rw [if_pos h2]; exact KT.rf h
          · rw [if_neg h2]
            by_cases h3 : oVn ms (mem ms 2) = 3
            · rw [if_pos h3]; exact (newp_kt I (by omega) h hon (by omega)).mono (by omega) (by omega)
            · rw [if_neg h3] at h1 ⊢
              have ht : pn_try k = 0 := by simpa [S_cb_mmade4_0, S_bx_mcan1_0, S_b8_mkey_1, S_b8_mkey_0, S_b1_mterm_0, S_b1_copy_0, S_b0_mod_7, S_b0_mod_6, S_b0_mod_5, S_b0_mod_3, S_b0_mod_2, S_b0_mod_1, S_b0_mod_0, S_cb_mmade4_1h, S_bx_mcan1_1h, S_b0_mod_4h] using h1
              have q := try_kt (ms := ms) (sh := nI (pn_sh k T ms)) I (by omega) h hon (by omega) ht
              generalize ky_tryPin ms k T (nI (pn_sh k T ms)) = Q at *
              have I2 := q.t.i N I
              unfold pn_then
              split
              · exact q.mono (by omega) (by omega)
              · next hq =>
                simp only [not_or, Bool.not_eq_false] at hq
                split
                · have q2 := newp_kt (ms := ms) (sh := nI (pn_sh k T ms)) (N := N + 1) I2 (by omega) q.k hq.2 (by omega)
                  exact (KT_mk_ (q.t.tr q2.t) q2.k)
                · have t : TS 1 Q.2.2 (tm_mk Q.2.2 [9, nI (pn_sh k T ms), nI Q.2.1.2.1.1.1]) := TS.add rO.sent
                  exact (KT_mk_ (q.t.tr t) ((q.k.mono t.le (by omega)).of rfl q.k.w q.k.x q.k.l rfl))
theorem r2_kt (hb : ∀ v ∈ ms, v &&& 255 = v) (I : TI N T) (hN : N < 899) (h : KI T.1.length G k) (hon : k.1.1.1.1.2.1 = true) (hG : G + 3 < 65536) : KT 5 3 G T (ky_r2 ms k T).2.1 (ky_r2 ms k T).2.2 := by
  have h1 : KI T.1.length G (ky_r1 ms k) := by
    refine h.of rfl h.w h.x ?_ rfl
    show (if cbB ms 0 = 8 ∧ ms.length = 1 then k.2.1.2.2 else 0) ≤ 8
    split
    · exact h.l
    · exact Nat.zero_le _
  unfold ky_r2
  split
  · exact KT.rf h1
  · next hfm =>
    have hfm : ky_form ms = 0 := by simpa [S_cb_mmade4_0, S_bx_mcan1_0, S_b8_mkey_1, S_b8_mkey_0, S_b1_mterm_0, S_b1_copy_0, S_b0_mod_7, S_b0_mod_6, S_b0_mod_5, S_b0_mod_3, S_b0_mod_2, S_b0_mod_1, S_b0_mod_0, S_cb_mmade4_1h, S_bx_mcan1_1h, S_b0_mod_4h] using hfm
    unfold ky_cmd
    split
    · next h0 =>
      refine (make_kt hb ?_ I (by omega) h1 hon (by omega)).mono (by omega) (by omega)
      unfold ky_form at hfm
      split at hfm
      · cases hfm
      · rw [h0, if_neg (by decide), if_pos (by decide)] at hfm
        split at hfm
        · next hc => exact hc
        · cases hfm
    · split
      · exact (sign_kt I (by omega) h1 hon (by omega)).mono (by omega) (by omega)
      · split
        · exact KT.rf (h1.of rfl h1.w h1.x h1.l rfl)
        · split
          · exact (dopin_kt I (by omega) h1 hon (by omega)).mono (by omega) (by omega)
          · split
            · exact (reset_kt I (by omega) h1 hon (by omega)).mono (by omega) (by omega)
            · exact (next_kt I (by omega) h1 hon (by omega)).mono (by omega) (by omega)
/-- a message is received -/
theorem recv_kt (hb : ∀ v ∈ ms, v &&& 255 = v) (I : TI N T) (hN : N < 899) (h : KI T.1.length G k) (hG : G + 3 < 65536) : KT 5 3 G T (ky_recv ms k T).2.1 (ky_recv ms k T).2.2 := by
  unfold ky_recv
  split
  · exact KT.rf (h.of rfl h.w h.x h.l rfl)
  · next hon =>
    have hon : k.1.1.1.1.2.1 = true := by simpa [S_cb_mmade4_0, S_bx_mcan1_0, S_b8_mkey_1, S_b8_mkey_0, S_b1_mterm_0, S_b1_copy_0, S_b0_mod_7, S_b0_mod_6, S_b0_mod_5, S_b0_mod_3, S_b0_mod_2, S_b0_mod_1, S_b0_mod_0, S_cb_mmade4_1h, S_bx_mcan1_1h, S_b0_mod_4h] using hon
    have q := r2_kt hb I hN h hon hG
    generalize ky_r2 ms k T = Q at *
    refine (KT_mk_ q.t ?_)
    have qk := q.k
    dsimp only
    unfold ky_end
    split
    · exact qk.of rfl qk.w qk.x qk.l rfl
    · split
      · exact qk.of rfl qk.w qk.x qk.l rfl
      · exact qk.of rfl qk.w qk.x qk.l rfl
theorem wake_kt (I : TI N T) (hN : N < 900) (h : FS T.1.length G k.1.1.1.1) (hw : k.1.2.1.1 ≤ 9) (hx : k.2.1.1.2 ≤ 3) (hl : k.2.1.2.2 ≤ 8) (hG : G + 1 < 65536) : KT 2 1 G T (ky_wake k T).1 (ky_wake k T).2 := by
  have hf := I.few
  have w := h.wake (by omega) hG
  unfold ky_wake ky_renew
  generalize fs_wake k.1.1.1.1 = W at *
  split
  · exact (KT_mk_ (TS.sec 2) ((KI_mk_ w hw (Nat.zero_le _) (Nat.zero_le _) (fun _ => I.sn (by omega)))))
  · next hoff => exact (KT_mk_ TS.rf ((KI_mk_ w hw hx hl (fun q => absurd q hoff))))
theorem switch_kt (I : TI N T) (hN : N < 900) (h : KI T.1.length G k) (hG : G + 1 < 65536) (b : Bool) : KT 2 1 G T (ky_switch k T b).1 (ky_switch k T b).2 := by
  unfold ky_switch
  split
  · refine KT.rf (KI_mk_ (h.s.same rfl rfl rfl rfl rfl (fun w => by cases w)) h.w h.x h.l (fun w => by cases w))
  · split
    · exact KT.rf h
    · exact wake_kt I hN h.s h.w h.x h.l hG
theorem KI.addp (h : KI n G k) : KI n G (ky_addp k).1 := by
  unfold ky_addp
  split
  · exact h
  · exact h.of rfl (by show k.1.2.1.1 + 1 ≤ 9; omega) h.x h.l rfl
theorem KI.cut (h : KI n G k) (a : Int32) : KI n G (((((((k.1.1.1.1.1, (k.1.1.1.1.2.1, (k.1.1.1.1.2.2.1, (a, (k.1.1.1.1.2.2.2.2.1, (k.1.1.1.1.2.2.2.2.2.1, (k.1.1.1.1.2.2.2.2.2.2.1, k.1.1.1.1.2.2.2.2.2.2.2))))))) : Fl), k.1.1.1.2), (k.1.1.2.1, k.1.1.2.2)), ((k.1.2.1.1, k.1.2.1.2), (k.1.2.2.1, k.1.2.2.2))), (((k.2.1.1.1, k.2.1.1.2), (k.2.1.2.1, k.2.1.2.2)), ((k.2.2.1.1, k.2.2.1.2), k.2.2.2))) : Ky) := (KI_mk_ (h.s.same rfl rfl rfl rfl rfl id) h.w h.x h.l h.a)
theorem born_kt (I : TI N T) (hN : N < 899) : KT 3 2 0 T (ky_wake (ky_born T) (tm_fresh T)).1 (ky_wake (ky_born T) (tm_fresh T)).2 := by
  have t1 : TS 1 T (tm_fresh T) := TS.fresh
  have I1 := t1.i N I
  have f1 := I1.few
  have q := wake_kt (k := ky_born T) (G := 1) (N := N + 1) I1 (by omega) (FS.new _ (by omega)) (show (0 : Nat) ≤ 9 by decide) (show (0 : Nat) ≤ 3 by decide) (show (0 : Nat) ≤ 8 by decide) (by decide)
  exact (KT_mk_ (t1.tr q.t) q.k)
/-- what the class asks of a key -/
theorem KI.g (h : KI n G k) (hG : G + 3 < 65536) : kg k := (kg_mk_ (h.s.w (by omega)) (by have := h.s.g; omega) h.w h.x h.l)
/-- what the model asks -/
theorem KI.i {g : Nat} (h : KI n G k) (hn : n < 2 ^ 30) (hG : G + g < 65536) : kI k g := (kI_mk_ h.w h.x (h.s.w (by omega)) (h.s.m.ne hn) (by have := h.s.g; omega) h.s.m.t)
end
end
