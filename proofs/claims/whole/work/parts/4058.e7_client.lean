/- e7.client -/
section
set_option maxRecDepth 512
/-! Pure: hands and keys, together. -/
section
variable {n m G N g : Nat} {h : Hd} {k k' : Ky} {T T' : Tm} {ms b : List Int32} {own : Int32}
theorem own_ts (I : TI N T) (hN : N < 900) : TS 2 T (own_T T) := (TS.sec 1).tr (TS.add (rO.pub (I.sn (by omega))))
theorem ag_kt (I : TI N T) (hN : N < 890) (K : KI T.1.length G k) : KT 3 0 G T (ag_k h k T).2.1 (ag_k h k T).2.2 := by
  have t1 := own_ts I (by omega)
  unfold ag_k
  rw [recv_ag]
  split
  · exact (KT_mk_ (t1.mono (by omega)) ((K.mono t1.le (Nat.le_refl _)).of rfl K.w K.x K.l rfl))
  · next hon =>
    have t2 : TS 1 (own_T T) (tm_mk (own_T T) [2, nI k.1.2.2.2]) := TS.add (rO.pub (K.a (by simpa [S_cb_mmade4_0, S_bx_mcan1_0, S_b8_mkey_1, S_b8_mkey_0, S_b1_mterm_0, S_b1_copy_0, S_b0_mod_7, S_b0_mod_6, S_b0_mod_5, S_b0_mod_3, S_b0_mod_2, S_b0_mod_1, S_b0_mod_0, S_cb_mmade4_1h, S_bx_mcan1_1h, S_b0_mod_4h] using hon)))
    exact (KT_mk_ (t1.tr t2) ((K.mono (t1.tr t2).le (Nat.le_refl _)).of rfl K.w K.x (Nat.zero_le _) rfl))
theorem agT_ts (I : TI N T) (hN : N < 890) (K : KI T.1.length G k) : TS 1 (ag_k h k T).2.2 (ag_T h k T) := TS.add (rO.any (Or.inl rfl))
theorem agT_kt (I : TI N T) (hN : N < 890) (K : KI T.1.length G k) : KT 4 0 G T (ag_k h k T).2.1 (ag_T h k T) := by
  have q := ag_kt (h := h) I hN K
  have t := agT_ts (h := h) I hN K
  exact (KT_mk_ (q.t.tr t) (q.k.mono t.le (Nat.le_refl _)))
theorem agh_ne (I : TI N T) (hN : N < 890) (K : KI T.1.length G k) : (ag_h h k T).2.2.2.1 ≠ 0 := by
  have q := ag_kt (h := h) I hN K
  exact (q.t.i _ I).nn (by omega) _
theorem ag_I (I : TI N T) (hN : N < 890) (K : KI T.1.length G k) (hG : G + (g + 3) < 65536) : agI k T g := by
  have t1 := own_ts I (by omega)
  have I1 := t1.i _ I
  have q := ag_kt (h := (([], ([], (0, (0, 0)))) : Hd)) I hN K
  have I2 := q.t.i _ I
  have f0 := I.few
  have f1 := I1.few
  have f2 := I2.few
  refine (agI_mk_ (⟨fun _ => K.i (by omega) hG, K.l⟩) I1.k8 I1.k9 (by omega) (by omega) ?_ I2.k8 I2.k9 ?_ (I.sn (by omega)) ?_)
  · rw [recv_fl]; exact K.s.len
  · have : (ky_recv agMsg k (own_T T)).2.2.1.length ≤ N + 3 := f2
    omega
  · intro h0
    rw [recv_ag] at h0 ⊢
    split at h0
    · cases h0
    · next hon =>
      rw [if_neg hon]
      dsimp only
      have e : w4a (ag_rep k (own_T T)) 4 = nI (tm_no (own_T T) [2, nI k.1.2.2.2]) := by
        show w4 (b4 _) = _
        rw [w4_b4]
      rw [e, no_row (by omega)]
      refine ⟨rfl, by simp [S_cb_mmade4_0, S_bx_mcan1_0, S_b8_mkey_1, S_b8_mkey_0, S_b1_mterm_0, S_b1_copy_0, S_b0_mod_7, S_b0_mod_6, S_b0_mod_5, S_b0_mod_3, S_b0_mod_2, S_b0_mod_1, S_b0_mod_0, S_cb_mmade4_1h, S_bx_mcan1_1h, S_b0_mod_4h, ag_rep, b4_len], ?_⟩
      unfold ag_rep
      exact app_by (by decide) (fun v hv => by
        rcases List.mem_cons.mp hv with rfl | hv
        · decide
        · rcases List.mem_cons.mp hv with rfl | hv
          · decide
          · rcases List.mem_cons.mp hv with rfl | hv
            · decide
            · exact b4_by _ _ hv)
/-- what stands when a hand and a key have agreed -/
theorem ag_on (h0 : (ag_k h k T).1 = 0) (I : TI N T) (hN : N < 890) (K : KI T.1.length G k) : k.1.1.1.1.2.1 = true ∧ (ag_h h k T).2.2.2.1 = nI (tm_no (tm_mk (own_T T) [2, nI k.1.2.2.2]) (tm_agr (nI (T.2.2 + 1)) (nI k.1.2.2.2))) ∧ ag_T h k T = tm_mk (tm_mk (own_T T) [2, nI k.1.2.2.2]) (tm_agr (nI (T.2.2 + 1)) (nI k.1.2.2.2)) := by
  obtain ⟨hon, e⟩ := ag_st h k T h0
  have t1 := own_ts I (by omega)
  have f1 := (t1.i _ I).few
  have er : w4a (ag_rep k (own_T T)) 4 = nI (tm_no (own_T T) [2, nI k.1.2.2.2]) := by
    show w4 (b4 _) = _
    rw [w4_b4]
  have es : tm_sec (ag_k h k T).2.2.1 (w4a (ag_k h k T).2.1.1.1.1.2 4) = nI k.1.2.2.2 := by
    rw [e]
    dsimp only
    rw [er]
    unfold tm_sec
    rw [no_row (by omega)]
    rfl
  refine ⟨hon, ?_, ?_⟩
  · unfold ag_h agr_h
    rw [es, e]
    rfl
  · unfold ag_T agr_T
    rw [es, e]
    rfl
/-- the hand's own public stands -/
theorem own_pre (h0 : (ag_k h k T).1 = 0) (I : TI N T) (hN : N < 890) (K : KI T.1.length G k) {a : Nat} (t : TS a (ag_T h k T) T') : nI (tm_no T' [2, (ag_h h k T).2.2.1]) = own_n T ∧ tm_mk T' [2, (ag_h h k T).2.2.1] = T' := by
  have q := agT_kt (h := h) I hN K
  obtain ⟨-, -, e⟩ := ag_on h0 I hN K
  have I2 := t.i _ (q.t.i _ I)
  have p : (own_T T).1 <+: T'.1 := by
    have : (own_T T).1 <+: (ag_T h k T).1 := by
      rw [e]
      exact (mk_pre _ _).trans (mk_pre _ _)
    exact this.trans t.p
  obtain ⟨e1, e2, -⟩ := no_pre (T := own_T1 T) (r := [2, nI (T.2.2 + 1)]) p I2.nd
  exact ⟨congrArg nI e1, e2⟩
theorem agr_comm (a b : Int32) : tm_agr a b = tm_agr b a := by
  unfold tm_agr
  simp only [List.cons.injEq, true_and, and_true]
  have hab := Int32.toInt_inj (x := a) (y := b)
  simp only [Int32.le_iff_toInt_le, Int32.lt_iff_toInt_lt]
  constructor
  · by_cases h1 : a.toInt ≤ b.toInt
    · by_cases h2 : b.toInt ≤ a.toInt
      · have : a = b := hab.mp (by omega)
        rw [this]
      · rw [if_pos h1, if_neg h2]
    · rw [if_neg h1, if_pos (by omega)]
  · by_cases h1 : a.toInt < b.toInt
    · rw [if_pos h1, if_neg (by omega)]
    · rw [if_neg h1]
      by_cases h2 : b.toInt < a.toInt
      · rw [if_pos h2]
      · have : a = b := hab.mp (by omega)
        rw [if_neg h2, this]
theorem b4_enc (hne : h.2.2.2.1 ≠ 0) (v : Int32) {f : Nat} : rO f (enc_row h (b4 v)) := rO.enc hne (by rw [b4_len]; decide) (b4_by v)
theorem eh_ts (hne : h.2.2.2.1 ≠ 0) : TS 2 T (eh_T h T) := (TS.add (rO.any (Or.inr (Or.inr (Or.inl rfl))))).tr (TS.add (b4_enc hne _))
theorem spT_ts (hne : h.2.2.2.1 ≠ 0) (hp : h.1.length ≤ 12 ∧ ∀ v ∈ h.1, v &&& 255 = v) : TS 2 T (tm_mk (tm_mk T (enc_row h h.1)) (mac_row h (b4 (nI (tm_no T (enc_row h h.1)))))) :=
  (TS.add (rO.enc hne (by omega) hp.2)).tr (TS.add (rO.mac hne))
theorem cpT_ts (hne : h.2.2.2.1 ≠ 0) (hp : b.length ≤ 12 ∧ ∀ v ∈ b, v &&& 255 = v) : TS 3 T (cp_T h T b) := (TS.add (rO.enc hne (by omega) hp.2)).tr (eh_ts hne)
theorem cpM_ts (hne : h.2.2.2.1 ≠ 0) (hp : b.length ≤ 12 ∧ ∀ v ∈ b, v &&& 255 = v) : TS 4 T (tm_mk (cp_T h T b) (mac_row h (b4 (cp_e h T b) ++ b4 (cp_o h T b)))) := (cpT_ts hne hp).tr (TS.add (rO.mac hne))
theorem sp_kt (I : TI N T) (hN : N < 890) (K : KI T.1.length G k) (hG : G + 3 < 65536) (hne : h.2.2.2.1 ≠ 0) (hp : h.1.length ≤ 12 ∧ ∀ v ∈ h.1, v &&& 255 = v) : KT 7 3 G T (sp_2 h k T own).2.1 (sp_2 h k T own).2.2 := by
  have t := spT_ts (T := T) hne hp
  have q := recv_kt (k := k) (G := G) (ms := pnMsg 165 3 own (mbr 4 (nI (tm_no (tm_mk T (enc_row h h.1)) (mac_row h (b4 (nI (tm_no T (enc_row h h.1))))))) ++ mbr 5 (nI (tm_no T (enc_row h h.1))))) (pnMsg_by (by decide) (by decide) (app_by (mbr_by (by decide)) (mbr_by (by decide)))) (t.i _ I) (by omega) (K.mono t.le (Nat.le_refl _)) hG
  exact (KT_mk_ (t.tr q.t) q.k)
theorem cp_kt (I : TI N T) (hN : N < 890) (K : KI T.1.length G k) (hG : G + 3 < 65536) (hne : h.2.2.2.1 ≠ 0) (hp : b.length ≤ 12 ∧ ∀ v ∈ b, v &&& 255 = v) : KT 9 3 G T (cp_2 h k T own b).2.1 (cp_2 h k T own b).2.2 := by
  have t := cpM_ts (T := T) hne hp
  have q := recv_kt (k := k) (G := G) (ms := pnMsg 166 4 own (mbr 4 (nI (tm_no (cp_T h T b) (mac_row h (b4 (cp_e h T b) ++ b4 (cp_o h T b))))) ++ (mbr 5 (cp_e h T b) ++ mbr 6 (cp_o h T b)))) (pnMsg_by (by decide) (by decide) (app_by (mbr_by (by decide)) (app_by (mbr_by (by decide)) (mbr_by (by decide))))) (t.i _ I) (by omega) (K.mono t.le (Nat.le_refl _)) hG
  exact (KT_mk_ (t.tr q.t) q.k)
theorem ul_kt (I : TI N T) (hN : N < 890) (K : KI T.1.length G k) (hG : G + 3 < 65536) (hne : h.2.2.2.1 ≠ 0) : KT 7 3 G T (ul_2 h k T own).2.1 (ul_2 h k T own).2.2 := by
  have t := eh_ts (T := T) hne
  have q := recv_kt (k := k) (G := G) (ms := pnMsg 164 5 own (mbr 6 (eh_n h T))) (pnMsg_by (by decide) (by decide) (mbr_by (by decide))) (t.i _ I) (by omega) (K.mono t.le (Nat.le_refl _)) hG
  exact (KT_mk_ (t.tr q.t) q.k)
theorem sp_I (h0 : (ag_k h k T).1 = 0) (I : TI N T) (hN : N < 880) (K : KI T.1.length G k) (hG : G + (g + 3) < 65536) (hp : h.1.length ≤ 12 ∧ ∀ v ∈ h.1, v &&& 255 = v) : spI (ag_h h k T) (ag_k h k T).2.1 (ag_T h k T) (own_n T) g := by
  have q := agT_kt (h := h) I (by omega) K
  have hne := agh_ne (h := h) I (by omega) K
  have I1 := q.t.i _ I
  have f1 := I1.few
  have t := spT_ts (h := ag_h h k T) (T := ag_T h k T) hne hp
  have I2 := t.i _ I1
  refine (spI_mk_ (⟨fun _ => q.k.i (by omega) hG, q.k.l⟩) (by omega) (own_pre h0 I (by omega) K t) I2.k8 I2.k9 ?_)
  unfold sp_2
  rw [recv_fl]
  exact q.k.s.len
theorem cp_I (h0 : (ag_k h k T).1 = 0) (I : TI N T) (hN : N < 880) (K : KI T.1.length G k) (hG : G + (g + 3) < 65536) (hp : b.length ≤ 12 ∧ ∀ v ∈ b, v &&& 255 = v) : cpI (ag_h h k T) (ag_k h k T).2.1 (ag_T h k T) (own_n T) b g := by
  have q := agT_kt (h := h) I (by omega) K
  have hne := agh_ne (h := h) I (by omega) K
  have I1 := q.t.i _ I
  have f1 := I1.few
  have t := cpM_ts (h := ag_h h k T) (T := ag_T h k T) hne hp
  have I2 := t.i _ I1
  refine (cpI_mk_ (⟨fun _ => q.k.i (by omega) hG, q.k.l⟩) (by omega) ?_ (own_pre h0 I (by omega) K t) I2.k8 I2.k9 ?_)
  · have t1 : TS 1 (ag_T h k T) (tm_mk (ag_T h k T) (enc_row (ag_h h k T) b)) := TS.add (rO.enc hne (by omega) hp.2)
    have t2 : TS 1 (tm_mk (ag_T h k T) (enc_row (ag_h h k T) b)) (tm_mk (tm_mk (ag_T h k T) (enc_row (ag_h h k T) b)) (7 :: (ag_h h k T).1)) := TS.add (rO.any (Or.inr (Or.inr (Or.inl rfl))))
    exact (t2.i _ (t1.i _ I1)).nn (by omega) _
  · unfold cp_2
    rw [recv_fl]
    exact q.k.s.len
theorem ul_I (h0 : (ag_k h k T).1 = 0) (I : TI N T) (hN : N < 880) (K : KI T.1.length G k) (hG : G + (g + 3) < 65536) : ulI (ag_h h k T) (ag_k h k T).2.1 (ag_T h k T) (own_n T) g := by
  have q := agT_kt (h := h) I (by omega) K
  have hne := agh_ne (h := h) I (by omega) K
  have I1 := q.t.i _ I
  have f1 := I1.few
  have t := eh_ts (h := ag_h h k T) (T := ag_T h k T) hne
  have I2 := t.i _ I1
  have f2 := I2.few
  have kt := ul_kt (own := own_n T) I1 (by omega) q.k (by omega) hne
  have I3 := kt.t.i _ I1
  obtain ⟨hon, eg, eT⟩ := ag_on h0 I (by omega) K
  have ow := own_pre h0 I (by omega) K t
  refine (ulI_mk_ (⟨fun _ => q.k.i (by omega) hG, q.k.l⟩) (by omega) ow I2.k8 I2.k9 ?_ I3.k8 ?_)
  · unfold ul_2
    rw [recv_fl]
    exact q.k.s.len
  · intro hz
    unfold ul_2 at hz ⊢
    obtain ⟨er, et⟩ := ul_ok hz
    -- what the key takes for shared is what the hand has
    have esh : pn_sh (ag_k h k T).2.1 (eh_T (ag_h h k T) (ag_T h k T)) (pnMsg 164 5 (own_n T) (mbr 6 (eh_n (ag_h h k T) (ag_T h k T)))) = tm_no (tm_mk (own_T T) [2, nI k.1.2.2.2]) (tm_agr (nI (T.2.2 + 1)) (nI k.1.2.2.2)) := by
      unfold pn_sh
      have e4 : o4 (pnMsg 164 5 (own_n T) (mbr 6 (eh_n (ag_h h k T) (ag_T h k T)))) (mem (pnMsg 164 5 (own_n T) (mbr 6 (eh_n (ag_h h k T) (ag_T h k T)))) 3) = own_n T := by
        rw [ul_msg, ul_mem, if_neg (by decide), if_neg (by decide), if_pos rfl]
        have l4 := l4_n (ul_7 (nI (uN (own_n T) / 16777216 % 256)) (nI (uN (own_n T) / 65536 % 256)) (nI (uN (own_n T) / 256 % 256)) (nI (uN (own_n T) % 256)) (nI (uN (eh_n (ag_h h k T) (ag_T h k T)) / 16777216 % 256)) (nI (uN (eh_n (ag_h h k T) (ag_T h k T)) / 65536 % 256)) (nI (uN (eh_n (ag_h h k T) (ag_T h k T)) / 256 % 256)) (nI (uN (eh_n (ag_h h k T) (ag_T h k T)) % 256)))
        unfold o4
        dsimp only
        rw [if_pos ⟨l4.1, l4.2.2.1⟩, l4.2.2.2]
        show (bt_lo (b4 (own_n T))).toInt32 = own_n T
        rw [w4_lo _ (b4_by _) (by rw [b4_len]; decide), w4_b4]
      rw [e4]
      have hrow : tm_row (eh_T (ag_h h k T) (ag_T h k T)).1 (own_n T) = [2, nI (T.2.2 + 1)] := by
        have := no_row (T := eh_T (ag_h h k T) (ag_T h k T)) (r := [2, (ag_h h k T).2.2.1]) (by omega)
        rw [ow.2, ow.1] at this
        exact this
      have hsec : tm_sec (eh_T (ag_h h k T) (ag_T h k T)).1 (own_n T) = nI (T.2.2 + 1) := by
        unfold tm_sec
        rw [hrow]
        rfl
      rw [hsec]
      have eag : (ag_k h k T).2.1.1.2.2.2 = k.1.2.2.2 := by rw [(ag_st h k T h0).2]
      rw [eag, agr_comm]
      exact (no_pre (T := tm_mk (own_T T) [2, nI k.1.2.2.2]) (T' := eh_T (ag_h h k T) (ag_T h k T)) (by rw [← eT]; exact t.p) I2.nd).2.2
    rw [esh] at er et
    rw [er, et]
    have ew : w4a ([0] ++ (161 :: nI 2 :: 68 :: b4 (nI (tm_no (eh_T (ag_h h k T) (ag_T h k T)) [9, nI (tm_no (tm_mk (own_T T) [2, nI k.1.2.2.2]) (tm_agr (nI (T.2.2 + 1)) (nI k.1.2.2.2))), nI (ag_k h k T).2.1.2.1.1.1])))) 4 = nI (tm_no (eh_T (ag_h h k T) (ag_T h k T)) [9, nI (tm_no (tm_mk (own_T T) [2, nI k.1.2.2.2]) (tm_agr (nI (T.2.2 + 1)) (nI k.1.2.2.2))), nI (ag_k h k T).2.1.2.1.1.1]) := by
      show w4 (b4 _) = _
      exact w4_b4 _
    rw [ew]
    refine ⟨⟨hne, ?_, ?_⟩, by simp [S_cb_mmade4_0, S_bx_mcan1_0, S_b8_mkey_1, S_b8_mkey_0, S_b1_mterm_0, S_b1_copy_0, S_b0_mod_7, S_b0_mod_6, S_b0_mod_5, S_b0_mod_3, S_b0_mod_2, S_b0_mod_1, S_b0_mod_0, S_cb_mmade4_1h, S_bx_mcan1_1h, S_b0_mod_4h, b4_len], ?_⟩
    · rw [no_row (by omega)]
      rfl
    · rw [no_row (by omega), eg]
      rfl
    · exact app_by (by decide) (fun v hv => by
        rcases List.mem_cons.mp hv with rfl | hv
        · decide
        · rcases List.mem_cons.mp hv with rfl | hv
          · decide
          · rcases List.mem_cons.mp hv with rfl | hv
            · decide
            · exact b4_by _ _ hv)
theorem cl_ts (h : Hd) (T : Tm) (kind c how : Int32) : TS 2 T (cl_T h T kind c how) := by
  unfold cl_T
  have t1 : TS 1 T (tm_mk T (chRow kind c h.2.1)) := TS.add (rO.any (Or.inr (Or.inr (Or.inl rfl))))
  split
  · exact t1.tr (TS.add (rO.any (Or.inr (Or.inr (Or.inr rfl)))))
  · exact t1.mono (by omega)
theorem sk_I (I : TI N T) (hN : N < 890) (K : KI T.1.length G k) (hG : G + (g + 3) < 65536) (hm : cbB ms 0 = 1 ∨ cbB ms 0 = 2 ∨ cbB ms 0 = 8) : skI k T ms g := by
  have f := I.few
  exact (skI_mk_ (⟨fun _ => K.i (by omega) hG, K.l⟩) I.k8 I.k9 (by omega) (by rw [recv_fl]; exact K.s.len) (recv_45 hm))
end
end
