/-! The small machine is right, 4: each writing or making row. -/
section MJ4
variable {p : Program} {l : Launch} {e : Env} {R : Room} {s : State} {m : MethodId} {args : Array Value} {below : List Frame} {meth : Method} {c : Code} {H : Heap} {locs : List Loc} {cells slots : Nat} {Q : State → Prop} {cc : ByteArray}
set_option maxRecDepth 100000 in
theorem mj_RA {D : mj_D} {s0 s1 : State} (hE : mj_env D s0) (hK : s0.vm.Alike s1.vm) {t : Nat} (h1 : 1000 ≤ t) (h2 : t < 1010) {ty : FieldType} (hty : mj_aty t = ty) : va_RA s1 (D.2.2.1 t) ty := by
  have h := (hE.2.1 t h1 h2).2
  rw [hty] at h
  exact va_RA.moved (u := s0) (U := s1) hK h
theorem mj_A_ad {D : mj_D} {s0 : State} (hE : mj_env D s0) {a : Nat} (hl : mj_E ≤ a) : mj_A s0 (D.2.2.2 a) := by
  show s0.heap.size ≤ _
  rw [hE.2.2.1 a hl]
  omega
theorem mj_aw_map {tag : Nat} {M : mj_H} {a : Nat} {i : Int32} {v : Value} {s1 : List Value} {q : List Value × mj_H} (h : (mj_aw tag M a i v).map (s1, ·) = some q) : ∃ M', mj_aw tag M a i v = some M' ∧ q = (s1, M') := by
  cases hx : mj_aw tag M a i v with
  | none => rw [hx] at h; cases h
  | some M' => rw [hx] at h; cases h; exact ⟨M', rfl, rfl⟩
set_option maxHeartbeats 8000000 in
theorem mj_hw_ok {D : mj_D} {s0 : State} {y : mj_Me} {M : mj_H} {r : mj_R} {la : Array Slot} {st : List Value} {q : List Value × mj_H} {pc : Nat} (hx : p.tables.exec = Jvm.exec) (hb : c.code = cc) (hE : mj_env D s0) (hK : mj_K D s0 s) (hR : mj_Rp D s0 M H) (hts : ∀ w ∈ mj_tb, w.before args s = true) (hown : s.vm.findClass y.1.cls = some m.cls) (hmn : y.1.name = "<init>" → meth.name = "<init>")
    (hd : decode cc pc = .ok (r.1, r.2.1)) (hn : mj_ln r.1 = 0 ∨ r.2.1 = mj_ln r.1) (hw : mj_ckW y r = true) (h : mj_hw r st M = some q) (hc : cells + (q.2.length - M.length) ≤ R.cells) (hs : slots + (mj_sl q.2 - mj_sl M) ≤ R.slots) (hlo : ∀ z ∈ locs, mj_A s0 z.base)
    (k : ∀ (H1 : Heap) (locs1 : List Loc), mj_Rp D s0 q.2 H1 → (∀ z ∈ locs1, mj_A s0 z.base) → W p l e R s m args below meth c H1 locs1 (cells + (q.2.length - M.length)) (slots + (mj_sl q.2 - mj_sl M)) Q (F0 m (pc + r.2.1) la (mj_shS D.2.2.2 q.1))) : W p l e R s m args below meth c H locs cells slots Q (F0 m pc la (mj_shS D.2.2.2 st)) := by
  obtain ⟨ri, rl, ra, rb, rp⟩ := r
  unfold mj_hw at h
  dsimp only at h hd hn k
  split at h <;> (try (simp [mj_ln] at hn; subst hn))
  · next i v a s1 =>
    split at h
    · cases h
    · next hl =>
      have hl : mj_E ≤ a := Nat.not_lt.mp ‹¬ a < mj_E›
      split at h
      · next qc hq =>
        split at h
        · next ty hty =>
          split at h
          · next hz =>
            obtain ⟨z1, z2, z3, z4⟩ := hz
            cases h
            simp only [mj_ckW, Bool.and_eq_true] at hw
            have e1 : (M.set a (qc.1, qc.2.set rb v)).length - M.length = 0 := by simp
            have e2 : mj_sl (M.set a (qc.1, qc.2.set rb v)) - mj_sl M = 0 := by rw [mj_sl_set hq (by simp)]; omega
            simp only [e1, e2, Nat.add_zero] at k
            exact mj_putf_ok hx hb hE hK hR hts hown hmn hd hw.1 hw.2 hl hq hty z1 z2 z3 z4 hlo k
          · cases h
        · cases h
      · cases h
  · next x i a s1 =>
    obtain ⟨M', hM, rfl⟩ := mj_aw_map h
    obtain ⟨qc, j, hl, hq, ht, e1, e2, e3, rfl⟩ := mj_aw_eq hM
    obtain ⟨h10, hcell⟩ := mj_arr_at hR hl hq (by omega)
    have z1 : (M.set a (qc.1, qc.2.set j (.int x))).length - M.length = 0 := by simp
    have z2 : mj_sl (M.set a (qc.1, qc.2.set j (.int x))) - mj_sl M = 0 := by rw [mj_sl_set hq (by simp)]; omega
    simp only [z1, z2, Nat.add_zero] at k
    have har := arrOfT_moved hK.1 (hE.2.1 qc.1 (by omega) h10).1 qc.2.length (fun j => mj_sh D.2.2.2 (qc.2.getD j .null))
    rw [show mj_aty qc.1 = .int by rw [ht]; rfl] at har
    refine W.iast hx hb hcell har (fun z => by cases z) (fun z => by rw [arrV_size] at z; rcases z with z | z; exact e1 z; omega) rfl rfl hd fun H1 g1 g2 g3 => ?_
    rw [e2] at g1
    exact k H1 _ (mj_arr_set hE hR hl hq (by omega) e3 g1 g2 g3) (t_lc hlo (mj_A_ad hE hl))
  · next x i a s1 =>
    obtain ⟨M', hM, rfl⟩ := mj_aw_map h
    obtain ⟨qc, j, hl, hq, ht, e1, e2, e3, rfl⟩ := mj_aw_eq hM
    obtain ⟨h10, hcell⟩ := mj_arr_at hR hl hq (by omega)
    have z1 : (M.set a (qc.1, qc.2.set j (narrow .boolean (.int x)))).length - M.length = 0 := by simp
    have z2 : mj_sl (M.set a (qc.1, qc.2.set j (narrow .boolean (.int x)))) - mj_sl M = 0 := by rw [mj_sl_set hq (by simp)]; omega
    simp only [z1, z2, Nat.add_zero] at k
    have har := arrOfT_moved hK.1 (hE.2.1 qc.1 (by omega) h10).1 qc.2.length (fun j => mj_sh D.2.2.2 (qc.2.getD j .null))
    rw [show mj_aty qc.1 = .boolean by rw [ht]; rfl] at har
    refine W.zast hx hb hcell har (fun z => by cases z) (fun z => by rw [arrV_size] at z; rcases z with z | z; exact e1 z; omega) rfl rfl hd fun H1 g1 g2 g3 => ?_
    rw [e2] at g1
    exact k H1 _ (mj_arr_set hE hR hl hq (by omega) e3 g1 g2 g3) (t_lc hlo (mj_A_ad hE hl))
  · next x i a s1 =>
    obtain ⟨M', hM, rfl⟩ := mj_aw_map h
    obtain ⟨qc, j, hl, hq, ht, e1, e2, e3, rfl⟩ := mj_aw_eq hM
    obtain ⟨h10, hcell⟩ := mj_arr_at hR hl hq (by omega)
    have z1 : (M.set a (qc.1, qc.2.set j (.long x))).length - M.length = 0 := by simp
    have z2 : mj_sl (M.set a (qc.1, qc.2.set j (.long x))) - mj_sl M = 0 := by rw [mj_sl_set hq (by simp)]; omega
    simp only [z1, z2, Nat.add_zero] at k
    have har := arrOfT_moved hK.1 (hE.2.1 qc.1 (by omega) h10).1 qc.2.length (fun j => mj_sh D.2.2.2 (qc.2.getD j .null))
    rw [show mj_aty qc.1 = .long by rw [ht]; rfl] at har
    refine W.last hx hb hcell har (fun z => by cases z) (fun z => by rw [arrV_size] at z; rcases z with z | z; exact e1 z; omega) rfl rfl hd fun H1 g1 g2 g3 => ?_
    rw [e2] at g1
    exact k H1 _ (mj_arr_set hE hR hl hq (by omega) e3 g1 g2 g3) (t_lc hlo (mj_A_ad hE hl))
  · next v i a s1 =>
    split at h
    · next q0 w0 hq0 hw0 =>
      split at h
      · next hz =>
        obtain ⟨y1, y2, y3⟩ := hz
        split at h
        · next h4 =>
          obtain ⟨M', hM, rfl⟩ := mj_aw_map h
          obtain ⟨qc, j, hl, hq, ht, e1, e2, e3, rfl⟩ := mj_aw_eq hM
          cases hq0.symm.trans hq
          obtain ⟨h10, hcell⟩ := mj_arr_at hR hl hq (by omega)
          have z1 : (M.set a (q0.1, q0.2.set j (.ref v))).length - M.length = 0 := by simp
          have z2 : mj_sl (M.set a (q0.1, q0.2.set j (.ref v))) - mj_sl M = 0 := by rw [mj_sl_set hq (by simp)]; omega
          simp only [z1, z2, Nat.add_zero] at k
          obtain ⟨rw0, hrw⟩ : ∃ r : vw_C, mj_cl[w0.1]? = some r := ⟨_, List.getElem?_eq_getElem y2⟩
          rw [(mj_cl_map hrw).2.2] at y3
          obtain ⟨-, -, cellV, g1, g2, g3, -⟩ := mj_obj hR hw0 hrw
          have hcls := (u_Kn_moved hK.1 (hE.1 _ _ hrw)).2
          have hRA := mj_RA hE hK.1 (show 1000 ≤ q0.1 by omega) h10 y3
          obtain ⟨kA, comp, k1, k2, k3, -⟩ := hRA
          have hcomp : comp = D.1 w0.1 := Option.some.inj (k3.symm.trans hcls.1)
          subst hcomp
          obtain ⟨kC, hkC, -⟩ := hcls.2
          refine W.aast hx hb hcell (fun q h => by cases h) (fun h => by cases h) k1 k2 rfl hkC ⟨e1, by rw [arrV_size]; omega⟩ g1 (fun q h => by rw [g3] at h; cases h) (by rw [g2]; exact hkC) (by rw [g2]; exact va_assign hcls) rfl rfl hd fun H1 f1 f2 f3 => ?_
          rw [e2] at f1
          exact k H1 _ (mj_arr_set hE hR hl hq (by omega) e3 f1 f2 f3) (t_lc hlo (mj_A_ad hE hl))
        · cases h
      · cases h
    · cases h
  · next i =>
    split at h
    · next tys hty =>
      cases h
      simp only [mj_ckW] at hw
      cases hr : mj_cl[ra]? with
      | none => rw [hr] at hw; cases hw
      | some r =>
        rw [hr] at hw
        have htl : tys.length = r.2.2 := by
          have := mj_tlen ra (mj_cl_lt hr)
          rw [(mj_cl_map hr).1] at this
          simpa [List.getD, hty] using this
        have z1 : (M ++ [(ra, tys.map defaultValue)]).length - M.length = 1 := by simp
        have z2 : mj_sl (M ++ [(ra, tys.map defaultValue)]) - mj_sl M = r.2.2 := by rw [mj_sl_push]; simp [htl]
        simp only [z1, z2] at k hc hs
        obtain ⟨hin, hins, hini⟩ := mj_class hr
        have hKn := u_Kn_moved hK.1 (hE.1 _ r hr)
        refine W.newcK hx hb hown (hts _ (mj_w_in hw)) (hts _ hins) (hts _ hini) rfl hd hc hs hKn.2.1 rfl fun H1 kC hkC e1 z1 o1 => ?_
        have hbn : t_OB H.size (D.1 ra) r.2.2 (D.2.1 ra) H1 (fun k => defaultValue (tys.getD k .int)) := by
          refine u_born (fun k => tys.getD k .int) hts hin hKn hkC e1 fun k hk => ?_
          obtain ⟨ty, h1, h2⟩ := mj_fty hr hk
          rw [h2]
          have : tys[k]? = some ty := by simpa [List.getD, hty] using h1
          simp [List.getD, this]
        obtain ⟨hR', had⟩ := mj_Rp_push (c' := (ra, tys.map defaultValue)) hE hR z1 o1 (Or.inl ⟨r, hr, by simp [htl], hbn.to fun k hk => by
          have hk' : k < tys.length := by omega
          simp [List.getD, List.getElem?_map, List.getElem?_eq_getElem hk', mj_sh_dv]⟩)
        have := k H1 locs hR' hlo
        simp only [mj_shS, List.map_cons, mj_sh, had] at this
        exact this
    · cases h
  · next t n s1 =>
    split at h
    · cases h
    · next hn0 =>
      split at h
      · next hn8 =>
        cases h
        simp only [mj_ckW, Bool.and_eq_true, decide_eq_true_eq] at hw
        obtain ⟨w1, w2, w3, w4⟩ := hw
        have z1 : (M ++ [(ra, List.replicate n.toNatClampNeg (defaultValue (mj_aty ra)))]).length - M.length = 1 := by simp
        have z2 : mj_sl (M ++ [(ra, List.replicate n.toNatClampNeg (defaultValue (mj_aty ra)))]) - mj_sl M = n.toNatClampNeg := by rw [mj_sl_push]; simp
        simp only [z1, z2] at k hc hs
        have hcb := mj_cb (newarray.typeOf t)
        have hby : n.toNatClampNeg * componentBytes (newarray.typeOf t) ≤ 536870912 := Nat.le_trans (Nat.mul_le_mul_left _ hcb) hn8
        refine va_newaK hx hb (hts _ (mj_w_in w4)) rfl hd rfl hn0 rfl hby hc hs rfl fun H1 cA e1 z1 o1 hAr hfc => ?_
        have hra4 : ra < 1010 := by omega
        have hcA : cA = D.2.2.1 ra := by
          have hz : s.vm.findClass ("[" ++ (mj_aty ra).toString) = some (D.2.2.1 ra) := by
            rcases (show ra = 1000 ∨ ra = 1001 ∨ ra = 1002 ∨ ra = 1003 by omega) with rfl | rfl | rfl | rfl
            · exact mj_RA (ty := .int) hE hK.1 w2 hra4 rfl
            · exact mj_RA (ty := .byte) hE hK.1 w2 hra4 rfl
            · exact mj_RA (ty := .boolean) hE hK.1 w2 hra4 rfl
            · exact mj_RA (ty := .long) hE hK.1 w2 hra4 rfl
          rw [w1] at hfc
          exact Option.some.inj (hfc.symm.trans hz)
        subst hcA
        obtain ⟨hR', had⟩ := mj_Rp_push (c' := (ra, List.replicate n.toNatClampNeg (defaultValue (mj_aty ra)))) hE hR z1 o1 (Or.inr ⟨w2, by show ra < 1010; omega, by
          rw [e1]
          simp only [List.length_replicate]
          congr 1
          rw [← w1]
          have : ∀ j, j < n.toNatClampNeg → (fun _ : Nat => defaultValue (newarray.typeOf t)) j = mj_sh D.2.2.2 ((List.replicate n.toNatClampNeg (defaultValue (newarray.typeOf t))).getD j .null) := by
            intro j hj
            simp [List.getD, List.getElem?_replicate, hj, mj_sh_dv]
          simp only [arrV, Cell.mk.injEq, and_true, true_and]
          congr 1
          funext j
          exact this j.val j.isLt⟩)
        have := k H1 locs hR' hlo
        simp only [mj_shS, List.map_cons, mj_sh, had] at this
        exact this
      · cases h
  · next i n s1 =>
    split at h
    · cases h
    · next hn0 =>
      split at h
      · next hn8 =>
        cases h
        simp only [mj_ckW] at hw
        cases hA : mj_aty ra with
        | object C =>
          rw [hA] at hw
          simp only [Bool.and_eq_true, decide_eq_true_eq] at hw
          obtain ⟨w1, w2, w3⟩ := hw
          have z1 : (M ++ [(ra, List.replicate n.toNatClampNeg Value.null)]).length - M.length = 1 := by simp
          have z2 : mj_sl (M ++ [(ra, List.replicate n.toNatClampNeg Value.null)]) - mj_sl M = n.toNatClampNeg := by rw [mj_sl_push]; simp
          simp only [z1, z2] at k hc hs
          refine W.anew hx hb hown (hts _ (mj_w_in w3)) (va_AO.use (va_AO.moved hK.1 (hE.2.2.2.2.2 ra C w1 w2 hA))) rfl hd rfl hn0 (by omega) hc hs fun cA kA comp h1 h2 h3 h4 => ?_
          have hRA := mj_RA hE hK.1 (show 1000 ≤ ra by omega) w2 hA
          obtain ⟨kA', comp', -, -, -, hfc⟩ := hRA
          have hcA : cA = D.2.2.1 ra := Option.some.inj (h1.symm.trans hfc)
          subst hcA
          obtain ⟨hR', had⟩ := mj_Rp_push (c' := (ra, List.replicate n.toNatClampNeg Value.null)) (H1 := H.push { cls := D.2.2.1 ra, slots := Array.replicate n.toNatClampNeg .null, vm := .none }) hE hR (by simp) (fun q hq => by rw [Array.getElem?_push, if_neg (Nat.ne_of_lt hq)]) (Or.inr ⟨by show 1000 ≤ ra; omega, w2, by
            have hfn : (fun j : Nat => mj_sh D.2.2.2 ((List.replicate n.toNatClampNeg Value.null).getD j .null)) = fun _ => Value.null := by
              funext j
              by_cases hj : j < n.toNatClampNeg
              · simp [List.getD, List.getElem?_replicate, hj, mj_sh]
              · simp [List.getD, List.getElem?_replicate, hj, mj_sh]
            rw [Array.getElem?_push, if_pos rfl, arrV_new]
            show some (arrV _ _ _) = some (arrV (D.2.2.1 ra) (List.replicate n.toNatClampNeg Value.null).length (fun j : Nat => mj_sh D.2.2.2 ((List.replicate n.toNatClampNeg Value.null).getD j .null)))
            rw [hfn, List.length_replicate]⟩)
          have := k _ locs hR' hlo
          simp only [mj_shS, List.map_cons, mj_sh, had] at this
          exact this
        | _ => rw [hA] at hw; cases hw
      · cases h
  · cases h
end MJ4
