/- d2.mz -/
section
set_option maxRecDepth 512
/-! The model: what it keeps, against the pure house. -/
/- 271 PasskeyHouseModel.isKey(I)Z -/
theorem s271_0 {d : Nat} {ls : mj_L} {st : List Value} {M : mj_H} : mj_Rn d mj_m271 0 ls st M = mq_k0 d mj_m271 1 ls M (mj_ldi (mj_lk ls 1) st) := mj_R0 (r := (.iload_n 1, 1, 0, 0, 0)) rfl rfl
theorem s271_1 {d : Nat} {ls : mj_L} {st : List Value} {M : mj_H} : mj_Rn d mj_m271 1 ls st M = mq_k2 d mj_m271 ls M (mj_br (.ifCond .lt 15) 1 st) := mj_R2 (r := (.ifCond .lt 15, 3, 0, 0, 0)) rfl rfl
theorem s271_4 {d : Nat} {ls : mj_L} {st : List Value} {M : mj_H} : mj_Rn d mj_m271 4 ls st M = mq_k0 d mj_m271 5 ls M (mj_ldi (mj_lk ls 1) st) := mj_R0 (r := (.iload_n 1, 1, 0, 0, 0)) rfl rfl
theorem s271_5 {d : Nat} {ls : mj_L} {st : List Value} {M : mj_H} : mj_Rn d mj_m271 5 ls st M = mq_k0 d mj_m271 6 ls M (mj_lda (mj_lk ls 0) st) := mj_R0 (r := (.aload_n 0, 1, 0, 0, 0)) rfl rfl
theorem s271_6 {d : Nat} {ls : mj_L} {st : List Value} {M : mj_H} : mj_Rn d mj_m271 6 ls st M = mq_k0 d mj_m271 9 ls M (mq_gf 11 12 st M) := (mj_R3 (r := (.getfield 308, 3, 11, 12, 49620)) rfl rfl).trans (congrArg (mq_k0 d mj_m271 9 ls M) mq_gf_eq)
theorem s271_9 {d : Nat} {ls : mj_L} {st : List Value} {M : mj_H} : mj_Rn d mj_m271 9 ls st M = mq_k2 d mj_m271 ls M (mj_br (.if_icmp .ge 7) 9 st) := mj_R2 (r := (.if_icmp .ge 7, 3, 0, 0, 0)) rfl rfl
theorem s271_12 {d : Nat} {ls : mj_L} {st : List Value} {M : mj_H} : mj_Rn d mj_m271 12 ls st M = mj_Rn d mj_m271 13 ls (.int 1 :: st) M := mj_R0 (r := (.iconst 1, 1, 0, 0, 0)) rfl rfl
theorem s271_13 {d : Nat} {ls : mj_L} {st : List Value} {M : mj_H} : mj_Rn d mj_m271 13 ls st M = mj_Rn d mj_m271 17 ls st M := mj_R2 (r := (.goto 4, 3, 0, 0, 0)) rfl rfl
theorem s271_16 {d : Nat} {ls : mj_L} {st : List Value} {M : mj_H} : mj_Rn d mj_m271 16 ls st M = mj_Rn d mj_m271 17 ls (.int 0 :: st) M := mj_R0 (r := (.iconst 0, 1, 0, 0, 0)) rfl rfl
theorem s271_17 {d : Nat} {ls : mj_L} {st : List Value} {M : mj_H} : mj_Rn d mj_m271 17 ls st M = mq_k6 M (mj_re (some .boolean) (.ireturn) st) := mj_R6 (r := (.ireturn, 1, 0, 0, 0)) rfl rfl
theorem c271 {d : Nat} {a0 : Nat} {x1 : Int32} {M : mj_H} : mj_V (d + 1) 271 [.ref a0, .int x1] M = mj_Rn d mj_m271 0 [(0, .ref a0), (1, .int x1)] [] M := mj_V_go rfl (Nat.le_of_ble_eq_true rfl)
/-- a hand -/
def hM (x : Fx) (j : Nat) (h : Hd) : Prop := (x.2.1.1.2.2.1[j]? = some h.2.2.1) ∧ (x.2.1.1.2.2.2[j]? = some h.2.2.2.1) ∧ (x.2.1.2.1.1.1[j]? = some h.2.2.2.2) ∧ (x.2.1.2.1.2.1[j]? = some (nI h.1.length)) ∧ (h.1.length ≤ 12) ∧ (∀ q, q < h.1.length → x.2.1.2.1.1.2[12 * j + q]? = h.1[q]?) ∧ (x.2.1.2.2.1.1[j]? = some (nI h.2.1.length)) ∧ (h.2.1.length ≤ 40) ∧ (∀ q, q < h.2.1.length → x.2.1.2.1.2.2[40 * j + q]? = h.2.1[q]?)
theorem hM.se {x : Fx} {j : Nat} {h : Hd} (hh_ : hM x j h) : x.2.1.1.2.2.1[j]? = some h.2.2.1 := hh_.1
theorem hM.ag {x : Fx} {j : Nat} {h : Hd} (hh_ : hM x j h) : x.2.1.1.2.2.2[j]? = some h.2.2.2.1 := hh_.2.1
theorem hM.to {x : Fx} {j : Nat} {h : Hd} (hh_ : hM x j h) : x.2.1.2.1.1.1[j]? = some h.2.2.2.2 := hh_.2.2.1
theorem hM.tl {x : Fx} {j : Nat} {h : Hd} (hh_ : hM x j h) : x.2.1.2.1.2.1[j]? = some (nI h.1.length) := hh_.2.2.2.1
theorem hM.t12 {x : Fx} {j : Nat} {h : Hd} (hh_ : hM x j h) : h.1.length ≤ 12 := hh_.2.2.2.2.1
theorem hM.ty {x : Fx} {j : Nat} {h : Hd} (hh_ : hM x j h) : ∀ q, q < h.1.length → x.2.1.2.1.1.2[12 * j + q]? = h.1[q]? := hh_.2.2.2.2.2.1
theorem hM.pl {x : Fx} {j : Nat} {h : Hd} (hh_ : hM x j h) : x.2.1.2.2.1.1[j]? = some (nI h.2.1.length) := hh_.2.2.2.2.2.2.1
theorem hM.p40 {x : Fx} {j : Nat} {h : Hd} (hh_ : hM x j h) : h.2.1.length ≤ 40 := hh_.2.2.2.2.2.2.2.1
theorem hM.pg {x : Fx} {j : Nat} {h : Hd} (hh_ : hM x j h) : ∀ q, q < h.2.1.length → x.2.1.2.1.2.2[40 * j + q]? = h.2.1[q]? := hh_.2.2.2.2.2.2.2.2
theorem hM_mk_ {x : Fx} {j : Nat} {h : Hd} (f_0_ : x.2.1.1.2.2.1[j]? = some h.2.2.1) (f_1_ : x.2.1.1.2.2.2[j]? = some h.2.2.2.1) (f_2_ : x.2.1.2.1.1.1[j]? = some h.2.2.2.2) (f_3_ : x.2.1.2.1.2.1[j]? = some (nI h.1.length)) (f_4_ : h.1.length ≤ 12) (f_5_ : ∀ q, q < h.1.length → x.2.1.2.1.1.2[12 * j + q]? = h.1[q]?) (f_6_ : x.2.1.2.2.1.1[j]? = some (nI h.2.1.length)) (f_7_ : h.2.1.length ≤ 40) (f_8_ : ∀ q, q < h.2.1.length → x.2.1.2.1.2.2[40 * j + q]? = h.2.1[q]?) : hM x j h := And.intro f_0_ (And.intro f_1_ (And.intro f_2_ (And.intro f_3_ (And.intro f_4_ (And.intro f_5_ (And.intro f_6_ (And.intro f_7_ f_8_)))))))
/-- an offer, an account, at their places -/
def oM (x : Fx) (a : Nat) (o : Of) : Prop := (x.2.2.1.1.2.1[a]? = some o.1) ∧ (x.2.2.1.2.1.1[a]? = some (nI o.2.1.length)) ∧ (o.2.1.length ≤ 8) ∧ (∀ q, q < o.2.1.length → x.2.2.1.1.2.2[8 * a + q]? = o.2.1[q]?) ∧ (x.2.2.1.2.1.2[a]? = some (on1 o.2.2.1)) ∧ (x.2.2.1.2.2.1[a]? = some (on1 o.2.2.2))
theorem oM.te {x : Fx} {a : Nat} {o : Of} (hh_ : oM x a o) : x.2.2.1.1.2.1[a]? = some o.1 := hh_.1
theorem oM.ln {x : Fx} {a : Nat} {o : Of} (hh_ : oM x a o) : x.2.2.1.2.1.1[a]? = some (nI o.2.1.length) := hh_.2.1
theorem oM.u8 {x : Fx} {a : Nat} {o : Of} (hh_ : oM x a o) : o.2.1.length ≤ 8 := hh_.2.2.1
theorem oM.us {x : Fx} {a : Nat} {o : Of} (hh_ : oM x a o) : ∀ q, q < o.2.1.length → x.2.2.1.1.2.2[8 * a + q]? = o.2.1[q]? := hh_.2.2.2.1
theorem oM.ge {x : Fx} {a : Nat} {o : Of} (hh_ : oM x a o) : x.2.2.1.2.1.2[a]? = some (on1 o.2.2.1) := hh_.2.2.2.2.1
theorem oM.pi {x : Fx} {a : Nat} {o : Of} (hh_ : oM x a o) : x.2.2.1.2.2.1[a]? = some (on1 o.2.2.2) := hh_.2.2.2.2.2
theorem oM_mk_ {x : Fx} {a : Nat} {o : Of} (f_0_ : x.2.2.1.1.2.1[a]? = some o.1) (f_1_ : x.2.2.1.2.1.1[a]? = some (nI o.2.1.length)) (f_2_ : o.2.1.length ≤ 8) (f_3_ : ∀ q, q < o.2.1.length → x.2.2.1.1.2.2[8 * a + q]? = o.2.1[q]?) (f_4_ : x.2.2.1.2.1.2[a]? = some (on1 o.2.2.1)) (f_5_ : x.2.2.1.2.2.1[a]? = some (on1 o.2.2.2)) : oM x a o := And.intro f_0_ (And.intro f_1_ (And.intro f_2_ (And.intro f_3_ (And.intro f_4_ f_5_))))
def aM (x : Fx) (a : Nat) (c : Ac) : Prop := (x.2.2.2.1.1.1[a]? = some c.1) ∧ (x.2.2.2.1.1.2[a]? = some c.2.1) ∧ (x.2.2.2.1.2.1[a]? = some c.2.2.1) ∧ (x.2.2.2.1.2.2[a]? = some c.2.2.2.1) ∧ (x.2.2.2.2.1.2[a]? = some (nI c.2.2.2.2.length)) ∧ (c.2.2.2.2.length ≤ 8) ∧ (∀ q, q < c.2.2.2.2.length → x.2.2.2.2.1.1[8 * a + q]? = c.2.2.2.2[q]?)
theorem aM.id {x : Fx} {a : Nat} {c : Ac} (hh_ : aM x a c) : x.2.2.2.1.1.1[a]? = some c.1 := hh_.1
theorem aM.pu {x : Fx} {a : Nat} {c : Ac} (hh_ : aM x a c) : x.2.2.2.1.1.2[a]? = some c.2.1 := hh_.2.1
theorem aM.co {x : Fx} {a : Nat} {c : Ac} (hh_ : aM x a c) : x.2.2.2.1.2.1[a]? = some c.2.2.1 := hh_.2.2.1
theorem aM.lo {x : Fx} {a : Nat} {c : Ac} (hh_ : aM x a c) : x.2.2.2.1.2.2[a]? = some c.2.2.2.1 := hh_.2.2.2.1
theorem aM.ln {x : Fx} {a : Nat} {c : Ac} (hh_ : aM x a c) : x.2.2.2.2.1.2[a]? = some (nI c.2.2.2.2.length) := hh_.2.2.2.2.1
theorem aM.u8 {x : Fx} {a : Nat} {c : Ac} (hh_ : aM x a c) : c.2.2.2.2.length ≤ 8 := hh_.2.2.2.2.2.1
theorem aM.us {x : Fx} {a : Nat} {c : Ac} (hh_ : aM x a c) : ∀ q, q < c.2.2.2.2.length → x.2.2.2.2.1.1[8 * a + q]? = c.2.2.2.2[q]? := hh_.2.2.2.2.2.2
theorem aM_mk_ {x : Fx} {a : Nat} {c : Ac} (f_0_ : x.2.2.2.1.1.1[a]? = some c.1) (f_1_ : x.2.2.2.1.1.2[a]? = some c.2.1) (f_2_ : x.2.2.2.1.2.1[a]? = some c.2.2.1) (f_3_ : x.2.2.2.1.2.2[a]? = some c.2.2.2.1) (f_4_ : x.2.2.2.2.1.2[a]? = some (nI c.2.2.2.2.length)) (f_5_ : c.2.2.2.2.length ≤ 8) (f_6_ : ∀ q, q < c.2.2.2.2.length → x.2.2.2.2.1.1[8 * a + q]? = c.2.2.2.2[q]?) : aM x a c := And.intro f_0_ (And.intro f_1_ (And.intro f_2_ (And.intro f_3_ (And.intro f_4_ (And.intro f_5_ f_6_)))))
def pM (x : Fx) (j : Nat) (p : Pa) : Prop := (x.2.1.2.2.2.1[j]? = some (nI p.1.length)) ∧ (p.1.length ≤ 40) ∧ (∀ q, q < p.1.length → x.2.1.2.2.1.2[40 * j + q]? = p.1[q]?) ∧ (x.2.2.1.1.1.1[j]? = some (nI p.2.1.length)) ∧ (p.2.1.length ≤ 24) ∧ (∀ q, q < p.2.1.length → x.2.1.2.2.2.2[24 * j + q]? = p.2.1[q]?) ∧ (x.2.2.1.1.1.2[j]? = some (nI p.2.2.1.length)) ∧ (p.2.2.1.length ≤ 4) ∧ (∀ i o, p.2.2.1[i]? = some o → oM x (4 * j + i) o) ∧ (x.2.2.1.2.2.2[j]? = some (nI p.2.2.2.1.length)) ∧ (p.2.2.2.1.length ≤ 8) ∧ (∀ i c, p.2.2.2.1[i]? = some c → aM x (8 * j + i) c) ∧ (x.2.2.2.2.2.1[j]? = some p.2.2.2.2.1) ∧ (x.2.2.2.2.2.2[j]? = some p.2.2.2.2.2)
theorem pM.ol {x : Fx} {j : Nat} {p : Pa} (hh_ : pM x j p) : x.2.1.2.2.2.1[j]? = some (nI p.1.length) := hh_.1
theorem pM.o40 {x : Fx} {j : Nat} {p : Pa} (hh_ : pM x j p) : p.1.length ≤ 40 := hh_.2.1
theorem pM.og {x : Fx} {j : Nat} {p : Pa} (hh_ : pM x j p) : ∀ q, q < p.1.length → x.2.1.2.2.1.2[40 * j + q]? = p.1[q]? := hh_.2.2.1
theorem pM.nl {x : Fx} {j : Nat} {p : Pa} (hh_ : pM x j p) : x.2.2.1.1.1.1[j]? = some (nI p.2.1.length) := hh_.2.2.2.1
theorem pM.n24 {x : Fx} {j : Nat} {p : Pa} (hh_ : pM x j p) : p.2.1.length ≤ 24 := hh_.2.2.2.2.1
theorem pM.nm {x : Fx} {j : Nat} {p : Pa} (hh_ : pM x j p) : ∀ q, q < p.2.1.length → x.2.1.2.2.2.2[24 * j + q]? = p.2.1[q]? := hh_.2.2.2.2.2.1
theorem pM.of {x : Fx} {j : Nat} {p : Pa} (hh_ : pM x j p) : x.2.2.1.1.1.2[j]? = some (nI p.2.2.1.length) := hh_.2.2.2.2.2.2.1
theorem pM.of4 {x : Fx} {j : Nat} {p : Pa} (hh_ : pM x j p) : p.2.2.1.length ≤ 4 := hh_.2.2.2.2.2.2.2.1
theorem pM.os {x : Fx} {j : Nat} {p : Pa} (hh_ : pM x j p) : ∀ i o, p.2.2.1[i]? = some o → oM x (4 * j + i) o := hh_.2.2.2.2.2.2.2.2.1
theorem pM.ac {x : Fx} {j : Nat} {p : Pa} (hh_ : pM x j p) : x.2.2.1.2.2.2[j]? = some (nI p.2.2.2.1.length) := hh_.2.2.2.2.2.2.2.2.2.1
theorem pM.ac8 {x : Fx} {j : Nat} {p : Pa} (hh_ : pM x j p) : p.2.2.2.1.length ≤ 8 := hh_.2.2.2.2.2.2.2.2.2.2.1
theorem pM.as {x : Fx} {j : Nat} {p : Pa} (hh_ : pM x j p) : ∀ i c, p.2.2.2.1[i]? = some c → aM x (8 * j + i) c := hh_.2.2.2.2.2.2.2.2.2.2.2.1
theorem pM.tk {x : Fx} {j : Nat} {p : Pa} (hh_ : pM x j p) : x.2.2.2.2.2.1[j]? = some p.2.2.2.2.1 := hh_.2.2.2.2.2.2.2.2.2.2.2.2.1
theorem pM.ot {x : Fx} {j : Nat} {p : Pa} (hh_ : pM x j p) : x.2.2.2.2.2.2[j]? = some p.2.2.2.2.2 := hh_.2.2.2.2.2.2.2.2.2.2.2.2.2
theorem pM_mk_ {x : Fx} {j : Nat} {p : Pa} (f_0_ : x.2.1.2.2.2.1[j]? = some (nI p.1.length)) (f_1_ : p.1.length ≤ 40) (f_2_ : ∀ q, q < p.1.length → x.2.1.2.2.1.2[40 * j + q]? = p.1[q]?) (f_3_ : x.2.2.1.1.1.1[j]? = some (nI p.2.1.length)) (f_4_ : p.2.1.length ≤ 24) (f_5_ : ∀ q, q < p.2.1.length → x.2.1.2.2.2.2[24 * j + q]? = p.2.1[q]?) (f_6_ : x.2.2.1.1.1.2[j]? = some (nI p.2.2.1.length)) (f_7_ : p.2.2.1.length ≤ 4) (f_8_ : ∀ i o, p.2.2.1[i]? = some o → oM x (4 * j + i) o) (f_9_ : x.2.2.1.2.2.2[j]? = some (nI p.2.2.2.1.length)) (f_10_ : p.2.2.2.1.length ≤ 8) (f_11_ : ∀ i c, p.2.2.2.1[i]? = some c → aM x (8 * j + i) c) (f_12_ : x.2.2.2.2.2.1[j]? = some p.2.2.2.2.1) (f_13_ : x.2.2.2.2.2.2[j]? = some p.2.2.2.2.2) : pM x j p := And.intro f_0_ (And.intro f_1_ (And.intro f_2_ (And.intro f_3_ (And.intro f_4_ (And.intro f_5_ (And.intro f_6_ (And.intro f_7_ (And.intro f_8_ (And.intro f_9_ (And.intro f_10_ (And.intro f_11_ (And.intro f_12_ f_13_))))))))))))
/-- how long the rows of hands and parties are -/
def xh (x : Fx) : Prop := (x.2.1.1.2.2.1.length = 4) ∧ (x.2.1.1.2.2.2.length = 4) ∧ (x.2.1.2.1.1.1.length = 4) ∧ (x.2.1.2.1.1.2.length = 48) ∧ (x.2.1.2.1.2.1.length = 4) ∧ (x.2.1.2.1.2.2.length = 160) ∧ (x.2.1.2.2.1.1.length = 4) ∧ (x.2.1.2.2.1.2.length = 160) ∧ (x.2.1.2.2.2.1.length = 4) ∧ (x.2.1.2.2.2.2.length = 96) ∧ (x.2.2.1.1.1.1.length = 4) ∧ (x.2.2.1.1.1.2.length = 4) ∧ (x.2.2.1.1.2.1.length = 16) ∧ (x.2.2.1.1.2.2.length = 128) ∧ (x.2.2.1.2.1.1.length = 16) ∧ (x.2.2.1.2.1.2.length = 16) ∧ (x.2.2.1.2.2.1.length = 16) ∧ (x.2.2.1.2.2.2.length = 4) ∧ (x.2.2.2.1.1.1.length = 32) ∧ (x.2.2.2.1.1.2.length = 32) ∧ (x.2.2.2.1.2.1.length = 32) ∧ (x.2.2.2.1.2.2.length = 32) ∧ (x.2.2.2.2.1.1.length = 256) ∧ (x.2.2.2.2.1.2.length = 32) ∧ (x.2.2.2.2.2.1.length = 4) ∧ (x.2.2.2.2.2.2.length = 4)
theorem xh.secretOf {x : Fx} (hh_ : xh x) : x.2.1.1.2.2.1.length = 4 := hh_.1
theorem xh.agreed {x : Fx} (hh_ : xh x) : x.2.1.1.2.2.2.length = 4 := hh_.2.1
theorem xh.tokenOf {x : Fx} (hh_ : xh x) : x.2.1.2.1.1.1.length = 4 := hh_.2.2.1
theorem xh.typed {x : Fx} (hh_ : xh x) : x.2.1.2.1.1.2.length = 48 := hh_.2.2.2.1
theorem xh.typedLong {x : Fx} (hh_ : xh x) : x.2.1.2.1.2.1.length = 4 := hh_.2.2.2.2.1
theorem xh.pages {x : Fx} (hh_ : xh x) : x.2.1.2.1.2.2.length = 160 := hh_.2.2.2.2.2.1
theorem xh.pageLong {x : Fx} (hh_ : xh x) : x.2.1.2.2.1.1.length = 4 := hh_.2.2.2.2.2.2.1
theorem xh.origins {x : Fx} (hh_ : xh x) : x.2.1.2.2.1.2.length = 160 := hh_.2.2.2.2.2.2.2.1
theorem xh.originLong {x : Fx} (hh_ : xh x) : x.2.1.2.2.2.1.length = 4 := hh_.2.2.2.2.2.2.2.2.1
theorem xh.names {x : Fx} (hh_ : xh x) : x.2.1.2.2.2.2.length = 96 := hh_.2.2.2.2.2.2.2.2.2.1
theorem xh.nameLong {x : Fx} (hh_ : xh x) : x.2.2.1.1.1.1.length = 4 := hh_.2.2.2.2.2.2.2.2.2.2.1
theorem xh.offers {x : Fx} (hh_ : xh x) : x.2.2.1.1.1.2.length = 4 := hh_.2.2.2.2.2.2.2.2.2.2.2.1
theorem xh.offerTerm {x : Fx} (hh_ : xh x) : x.2.2.1.1.2.1.length = 16 := hh_.2.2.2.2.2.2.2.2.2.2.2.2.1
theorem xh.offerUser {x : Fx} (hh_ : xh x) : x.2.2.1.1.2.2.length = 128 := hh_.2.2.2.2.2.2.2.2.2.2.2.2.2.1
theorem xh.offerLong {x : Fx} (hh_ : xh x) : x.2.2.1.2.1.1.length = 16 := hh_.2.2.2.2.2.2.2.2.2.2.2.2.2.2.1
theorem xh.offerGet {x : Fx} (hh_ : xh x) : x.2.2.1.2.1.2.length = 16 := hh_.2.2.2.2.2.2.2.2.2.2.2.2.2.2.2.1
theorem xh.offerPin {x : Fx} (hh_ : xh x) : x.2.2.1.2.2.1.length = 16 := hh_.2.2.2.2.2.2.2.2.2.2.2.2.2.2.2.2.1
theorem xh.accounts {x : Fx} (hh_ : xh x) : x.2.2.1.2.2.2.length = 4 := hh_.2.2.2.2.2.2.2.2.2.2.2.2.2.2.2.2.2.1
theorem xh.accId {x : Fx} (hh_ : xh x) : x.2.2.2.1.1.1.length = 32 := hh_.2.2.2.2.2.2.2.2.2.2.2.2.2.2.2.2.2.2.1
theorem xh.accPublic {x : Fx} (hh_ : xh x) : x.2.2.2.1.1.2.length = 32 := hh_.2.2.2.2.2.2.2.2.2.2.2.2.2.2.2.2.2.2.2.1
theorem xh.accCount {x : Fx} (hh_ : xh x) : x.2.2.2.1.2.1.length = 32 := hh_.2.2.2.2.2.2.2.2.2.2.2.2.2.2.2.2.2.2.2.2.1
theorem xh.logins {x : Fx} (hh_ : xh x) : x.2.2.2.1.2.2.length = 32 := hh_.2.2.2.2.2.2.2.2.2.2.2.2.2.2.2.2.2.2.2.2.2.1
theorem xh.accUser {x : Fx} (hh_ : xh x) : x.2.2.2.2.1.1.length = 256 := hh_.2.2.2.2.2.2.2.2.2.2.2.2.2.2.2.2.2.2.2.2.2.2.1
theorem xh.accLong {x : Fx} (hh_ : xh x) : x.2.2.2.2.1.2.length = 32 := hh_.2.2.2.2.2.2.2.2.2.2.2.2.2.2.2.2.2.2.2.2.2.2.2.1
theorem xh.took {x : Fx} (hh_ : xh x) : x.2.2.2.2.2.1.length = 4 := hh_.2.2.2.2.2.2.2.2.2.2.2.2.2.2.2.2.2.2.2.2.2.2.2.2.1
theorem xh.others {x : Fx} (hh_ : xh x) : x.2.2.2.2.2.2.length = 4 := hh_.2.2.2.2.2.2.2.2.2.2.2.2.2.2.2.2.2.2.2.2.2.2.2.2.2
theorem xh_mk_ {x : Fx} (f_0_ : x.2.1.1.2.2.1.length = 4) (f_1_ : x.2.1.1.2.2.2.length = 4) (f_2_ : x.2.1.2.1.1.1.length = 4) (f_3_ : x.2.1.2.1.1.2.length = 48) (f_4_ : x.2.1.2.1.2.1.length = 4) (f_5_ : x.2.1.2.1.2.2.length = 160) (f_6_ : x.2.1.2.2.1.1.length = 4) (f_7_ : x.2.1.2.2.1.2.length = 160) (f_8_ : x.2.1.2.2.2.1.length = 4) (f_9_ : x.2.1.2.2.2.2.length = 96) (f_10_ : x.2.2.1.1.1.1.length = 4) (f_11_ : x.2.2.1.1.1.2.length = 4) (f_12_ : x.2.2.1.1.2.1.length = 16) (f_13_ : x.2.2.1.1.2.2.length = 128) (f_14_ : x.2.2.1.2.1.1.length = 16) (f_15_ : x.2.2.1.2.1.2.length = 16) (f_16_ : x.2.2.1.2.2.1.length = 16) (f_17_ : x.2.2.1.2.2.2.length = 4) (f_18_ : x.2.2.2.1.1.1.length = 32) (f_19_ : x.2.2.2.1.1.2.length = 32) (f_20_ : x.2.2.2.1.2.1.length = 32) (f_21_ : x.2.2.2.1.2.2.length = 32) (f_22_ : x.2.2.2.2.1.1.length = 256) (f_23_ : x.2.2.2.2.1.2.length = 32) (f_24_ : x.2.2.2.2.2.1.length = 4) (f_25_ : x.2.2.2.2.2.2.length = 4) : xh x := And.intro f_0_ (And.intro f_1_ (And.intro f_2_ (And.intro f_3_ (And.intro f_4_ (And.intro f_5_ (And.intro f_6_ (And.intro f_7_ (And.intro f_8_ (And.intro f_9_ (And.intro f_10_ (And.intro f_11_ (And.intro f_12_ (And.intro f_13_ (And.intro f_14_ (And.intro f_15_ (And.intro f_16_ (And.intro f_17_ (And.intro f_18_ (And.intro f_19_ (And.intro f_20_ (And.intro f_21_ (And.intro f_22_ (And.intro f_23_ (And.intro f_24_ f_25_))))))))))))))))))))))))
/-- rows of a key that isn't there yet -/
def sZ (f : List Int32) : Fl := ((f, (false, (0, (0, (0, (0, (0, ((0, (0, (0, (0, [])))) : St)))))))) : Fl)
def k0M (x : Fx) (j : Nat) : Prop := ∃ m f, x = x.wk j (sZ f) m ∧ wm m ∧ f.length = 512 ∧ m.1.1.1.1.1 = 0 ∧ m.1.1.1.1.2 = 0 ∧ m.1.1.1.2 = 0
/-- keys -/
def mk_ (x : Fx) (K : List Ky) : Prop := (xk x) ∧ (x.1.1.1.1.1.2 = nI K.length) ∧ (K.length ≤ 3) ∧ (∀ (j : Nat) (q : Ky), K[j]? = some q → ∃ m, x = x.wk j q.1.1.1.1 m ∧ kMr q m ∧ q.1.1.1.1.1.length = 512) ∧ (∀ j, K.length ≤ j → j < 3 → k0M x j)
theorem mk_.k {x : Fx} {K : List Ky} (hh_ : mk_ x K) : xk x := hh_.1
theorem mk_.n {x : Fx} {K : List Ky} (hh_ : mk_ x K) : x.1.1.1.1.1.2 = nI K.length := hh_.2.1
theorem mk_.n3 {x : Fx} {K : List Ky} (hh_ : mk_ x K) : K.length ≤ 3 := hh_.2.2.1
theorem mk_.ks {x : Fx} {K : List Ky} (hh_ : mk_ x K) : ∀ (j : Nat) (q : Ky), K[j]? = some q → ∃ m, x = x.wk j q.1.1.1.1 m ∧ kMr q m ∧ q.1.1.1.1.1.length = 512 := hh_.2.2.2.1
theorem mk_.k0 {x : Fx} {K : List Ky} (hh_ : mk_ x K) : ∀ j, K.length ≤ j → j < 3 → k0M x j := hh_.2.2.2.2
theorem mk__mk_ {x : Fx} {K : List Ky} (f_0_ : xk x) (f_1_ : x.1.1.1.1.1.2 = nI K.length) (f_2_ : K.length ≤ 3) (f_3_ : ∀ (j : Nat) (q : Ky), K[j]? = some q → ∃ m, x = x.wk j q.1.1.1.1 m ∧ kMr q m ∧ q.1.1.1.1.1.length = 512) (f_4_ : ∀ j, K.length ≤ j → j < 3 → k0M x j) : mk_ x K := And.intro f_0_ (And.intro f_1_ (And.intro f_2_ (And.intro f_3_ f_4_)))
/-- a party that isn't there yet -/
def p0M (x : Fx) (j : Nat) : Prop := x.2.2.1.1.1.2[j]? = some 0 ∧ x.2.2.1.2.2.2[j]? = some 0 ∧ x.2.2.2.2.2.1[j]? = some 0 ∧ x.2.2.2.2.2.2[j]? = some 0
/-- hands and parties -/
def mh_ (x : Fx) (h : List Hd) (P : List Pa) : Prop := (xh x) ∧ (h.length = 4) ∧ (∀ (j : Nat) (q : Hd), h[j]? = some q → hM x j q) ∧ (x.1.1.1.1.2.2 = nI P.length) ∧ (P.length ≤ 4) ∧ (∀ (j : Nat) (q : Pa), P[j]? = some q → pM x j q) ∧ (∀ (j : Nat), P.length ≤ j → j < 4 → p0M x j)
theorem mh_.l {x : Fx} {h : List Hd} {P : List Pa} (hh_ : mh_ x h P) : xh x := hh_.1
theorem mh_.h4 {x : Fx} {h : List Hd} {P : List Pa} (hh_ : mh_ x h P) : h.length = 4 := hh_.2.1
theorem mh_.hs {x : Fx} {h : List Hd} {P : List Pa} (hh_ : mh_ x h P) : ∀ (j : Nat) (q : Hd), h[j]? = some q → hM x j q := hh_.2.2.1
theorem mh_.n {x : Fx} {h : List Hd} {P : List Pa} (hh_ : mh_ x h P) : x.1.1.1.1.2.2 = nI P.length := hh_.2.2.2.1
theorem mh_.n4 {x : Fx} {h : List Hd} {P : List Pa} (hh_ : mh_ x h P) : P.length ≤ 4 := hh_.2.2.2.2.1
theorem mh_.ps {x : Fx} {h : List Hd} {P : List Pa} (hh_ : mh_ x h P) : ∀ (j : Nat) (q : Pa), P[j]? = some q → pM x j q := hh_.2.2.2.2.2.1
theorem mh_.p0 {x : Fx} {h : List Hd} {P : List Pa} (hh_ : mh_ x h P) : ∀ (j : Nat), P.length ≤ j → j < 4 → p0M x j := hh_.2.2.2.2.2.2
theorem mh__mk_ {x : Fx} {h : List Hd} {P : List Pa} (f_0_ : xh x) (f_1_ : h.length = 4) (f_2_ : ∀ (j : Nat) (q : Hd), h[j]? = some q → hM x j q) (f_3_ : x.1.1.1.1.2.2 = nI P.length) (f_4_ : P.length ≤ 4) (f_5_ : ∀ (j : Nat) (q : Pa), P[j]? = some q → pM x j q) (f_6_ : ∀ (j : Nat), P.length ≤ j → j < 4 → p0M x j) : mh_ x h P := And.intro f_0_ (And.intro f_1_ (And.intro f_2_ (And.intro f_3_ (And.intro f_4_ (And.intro f_5_ f_6_)))))
def mz (x : Fx) (y : Sy) (H : Ho) : Prop := (xt x H.1) ∧ (x.2.1.1.1.2.2.length = 640) ∧ (mk_ x H.2.2.1) ∧ (mh_ x H.2.2.2.1 H.2.2.2.2) ∧ (∃ D O, yz y H.2.1 D O)
theorem mz.t {x : Fx} {y : Sy} {H : Ho} (hh_ : mz x y H) : xt x H.1 := hh_.1
theorem mz.m {x : Fx} {y : Sy} {H : Ho} (hh_ : mz x y H) : x.2.1.1.1.2.2.length = 640 := hh_.2.1
theorem mz.k {x : Fx} {y : Sy} {H : Ho} (hh_ : mz x y H) : mk_ x H.2.2.1 := hh_.2.2.1
theorem mz.h {x : Fx} {y : Sy} {H : Ho} (hh_ : mz x y H) : mh_ x H.2.2.2.1 H.2.2.2.2 := hh_.2.2.2.1
theorem mz.y {x : Fx} {y : Sy} {H : Ho} (hh_ : mz x y H) : ∃ D O, yz y H.2.1 D O := hh_.2.2.2.2
theorem mz_mk_ {x : Fx} {y : Sy} {H : Ho} (f_0_ : xt x H.1) (f_1_ : x.2.1.1.1.2.2.length = 640) (f_2_ : mk_ x H.2.2.1) (f_3_ : mh_ x H.2.2.2.1 H.2.2.2.2) (f_4_ : ∃ D O, yz y H.2.1 D O) : mz x y H := And.intro f_0_ (And.intro f_1_ (And.intro f_2_ (And.intro f_3_ f_4_)))
section
variable {d : Nat} {B : Bs} {x : Fx} {y : Sy} {H : Ho} {j n : Nat}
theorem q_isKey (hn : x.1.1.1.1.1.2 = nI n) (h3 : n ≤ 3) (i : Int32) : mj_V (d + 1) 271 [.ref 67, .int i] (mm B x y) = some (some (.int (on1 (ix i n).isSome)), mm B x y) := by
  cases hi : ix i n with
  | none =>
    rcases ix_none hi with h0 | ⟨k, rfl, hk, hnk⟩
    · simp (disch := (first | omega | decide)) [S_cb_mmade4_0, S_bx_mcan1_0, S_b8_mkey_1, S_b8_mkey_0, S_b1_mterm_0, S_b1_copy_0, S_b0_mod_7, S_b0_mod_6, S_b0_mod_5, S_b0_mod_3, S_b0_mod_2, S_b0_mod_1, S_b0_mod_0, S_cb_mmade4_1h, S_bx_mcan1_1h, S_b0_mod_4h, c271, s271_0, s271_1, s271_4, s271_5, s271_6, s271_9, s271_12, s271_13, s271_16, s271_17, mq_k0s, mq_k1s, mq_k2s, mq_k4s, mq_k5s, mq_k5n, mq_k5as, mq_k6s, mj_pu, mj_lo, mj_br, mj_hr, mj_hw, mq_gf, mq_len, mq_al, mq_pf, mq_ok, mj_re, mq_lkm, mq_lkn, mj_ldi, mj_ldl, mj_lda, mj_ii, mj_ll, mj_li, mj_i1, ms_1, ms_2, f1_n, f1_i, f1_r, f1_u, f1_l, f2_n, f2_i, f2_r, f2_u, f2_l, mj_tg, mj_c1, mj_c2, mj_ar, mj_aw, mq_cb, mq_oi, mj_rm, Value.category, -getElem?_pos, List.getElem?_cons_zero, decide_eq_true, decide_eq_false, nl_lt, nl_le, ln_lt, ln_le, nl_eq, ln_eq, nl_add, ln_add, nl_sub, ln_mul, nI_sub, nI_mul, nI_add, nI_lt_iff, nI_le_iff, nI_inj, nI_num, mq_ix, nI_1, nl_mul, nl_div, h0, narrow_b0, on1]
    · simp (disch := (first | omega | decide)) [S_cb_mmade4_0, S_bx_mcan1_0, S_b8_mkey_1, S_b8_mkey_0, S_b1_mterm_0, S_b1_copy_0, S_b0_mod_7, S_b0_mod_6, S_b0_mod_5, S_b0_mod_3, S_b0_mod_2, S_b0_mod_1, S_b0_mod_0, S_cb_mmade4_1h, S_bx_mcan1_1h, S_b0_mod_4h, c271, s271_0, s271_1, s271_4, s271_5, s271_6, s271_9, s271_12, s271_13, s271_16, s271_17, mq_k0s, mq_k1s, mq_k2s, mq_k4s, mq_k5s, mq_k5n, mq_k5as, mq_k6s, mj_pu, mj_lo, mj_br, mj_hr, mj_hw, mq_gf, mq_len, mq_al, mq_pf, mq_ok, mj_re, mq_lkm, mq_lkn, mj_ldi, mj_ldl, mj_lda, mj_ii, mj_ll, mj_li, mj_i1, ms_1, ms_2, f1_n, f1_i, f1_r, f1_u, f1_l, f2_n, f2_i, f2_r, f2_u, f2_l, mj_tg, mj_c1, mj_c2, mj_ar, mj_aw, mq_cb, mq_oi, mj_rm, Value.category, -getElem?_pos, List.getElem?_cons_zero, decide_eq_true, decide_eq_false, nl_lt, nl_le, ln_lt, ln_le, nl_eq, ln_eq, nl_add, ln_add, nl_sub, ln_mul, nI_sub, nI_mul, nI_add, nI_lt_iff, nI_le_iff, nI_inj, nI_num, mq_ix, nI_1, nl_mul, nl_div, hn, nI_pos hk, hnk, narrow_b0, on1]
  | some j =>
    obtain ⟨rfl, hj, hj31⟩ := ix_some hi
    simp (disch := (first | omega | decide)) [S_cb_mmade4_0, S_bx_mcan1_0, S_b8_mkey_1, S_b8_mkey_0, S_b1_mterm_0, S_b1_copy_0, S_b0_mod_7, S_b0_mod_6, S_b0_mod_5, S_b0_mod_3, S_b0_mod_2, S_b0_mod_1, S_b0_mod_0, S_cb_mmade4_1h, S_bx_mcan1_1h, S_b0_mod_4h, c271, s271_0, s271_1, s271_4, s271_5, s271_6, s271_9, s271_12, s271_13, s271_16, s271_17, mq_k0s, mq_k1s, mq_k2s, mq_k4s, mq_k5s, mq_k5n, mq_k5as, mq_k6s, mj_pu, mj_lo, mj_br, mj_hr, mj_hw, mq_gf, mq_len, mq_al, mq_pf, mq_ok, mj_re, mq_lkm, mq_lkn, mj_ldi, mj_ldl, mj_lda, mj_ii, mj_ll, mj_li, mj_i1, ms_1, ms_2, f1_n, f1_i, f1_r, f1_u, f1_l, f2_n, f2_i, f2_r, f2_u, f2_l, mj_tg, mj_c1, mj_c2, mj_ar, mj_aw, mq_cb, mq_oi, mj_rm, Value.category, -getElem?_pos, List.getElem?_cons_zero, decide_eq_true, decide_eq_false, nl_lt, nl_le, ln_lt, ln_le, nl_eq, ln_eq, nl_add, ln_add, nl_sub, ln_mul, nI_sub, nI_mul, nI_add, nI_lt_iff, nI_le_iff, nI_inj, nI_num, mq_ix, nI_1, nl_mul, nl_div, hn, nI_pos hj31, show ¬ n ≤ j by omega, narrow_b1, on1]
/-- one key changed -/
theorem mk_.upd {K : List Ky} (h : mk_ x K) {k k' : Ky} {m' : Mk} (hk : K[j]? = some k) (R : kMr k' m') (hf : k'.1.1.1.1.1.length = 512) : mk_ (x.wk j k'.1.1.1.1 m') (K.set j k') := by
  have hjK : j < K.length := by
    rcases Nat.lt_or_ge j K.length with z | z
    · exact z
    · rw [List.getElem?_eq_none z] at hk; cases hk
  have h3 := h.n3
  obtain ⟨m, e, r, f⟩ := h.ks j k hk
  refine (mk__mk_ (h.k.wk (by omega) R.w hf) (by rw [List.length_set]; exact h.n) (by rw [List.length_set]; exact h3) ?_ ?_)
  · intro i q hq
    by_cases hij : i = j
    · subst hij
      rw [List.getElem?_set_self hjK] at hq
      cases hq
      exact ⟨m', (wk_wk h.k (by omega) R.w R.w hf hf).symm, R, hf⟩
    · rw [List.getElem?_set_ne (fun z => hij z.symm)] at hq
      have hiK : i < K.length := by
        rcases Nat.lt_or_ge i K.length with z | z
        · exact z
        · rw [List.getElem?_eq_none z] at hq; cases hq
      obtain ⟨m1, e1, r1, f1⟩ := h.ks i q hq
      exact ⟨m1, wk_oth h.k (by omega) (by omega) hij r1.w R.w f1 hf e1, r1, f1⟩
  · intro i hi hi3
    rw [List.length_set] at hi
    obtain ⟨m1, f1, e1, w1, l1, r1⟩ := h.k0 i hi hi3
    exact ⟨m1, f1, wk_oth h.k hi3 (by omega) (by omega) w1 R.w l1 hf e1, w1, l1, r1⟩
theorem mh_.wk {h : List Hd} {P : List Pa} {s : Fl} {m : Mk} (z : mh_ x h P) : mh_ (x.wk j s m) h P := (mh__mk_ ((xh_mk_ z.l.secretOf z.l.agreed z.l.tokenOf z.l.typed z.l.typedLong z.l.pages z.l.pageLong z.l.origins z.l.originLong z.l.names z.l.nameLong z.l.offers z.l.offerTerm z.l.offerUser z.l.offerLong z.l.offerGet z.l.offerPin z.l.accounts z.l.accId z.l.accPublic z.l.accCount z.l.logins z.l.accUser z.l.accLong z.l.took z.l.others)) z.h4 (fun j q hq => by obtain ⟨a1, a2, a3, a4, a5, a6, a7, a8, a9⟩ := z.hs j q hq; exact (hM_mk_ a1 a2 a3 a4 a5 a6 a7 a8 a9)) z.n z.n4 (fun j q hq => by
    obtain ⟨a1, a2, a3, a4, a5, a6, a7, a8, a9, a10, a11, a12, a13, a14⟩ := z.ps j q hq
    exact (pM_mk_ a1 a2 a3 a4 a5 a6 a7 a8 (fun i o ho => (by obtain ⟨b1, b2, b3, b4, b5, b6⟩ := a9 i o ho; exact (oM_mk_ b1 b2 b3 b4 b5 b6))) a10 a11 (fun i o ho => (by obtain ⟨b1, b2, b3, b4, b5, b6, b7⟩ := a12 i o ho; exact (aM_mk_ b1 b2 b3 b4 b5 b6 b7))) a13 a14)) z.p0)
theorem mz.key (z : mz x y H) {k : Ky} (hk : H.2.2.1[j]? = some k) : j < 3 ∧ ∃ m, x = x.wk j k.1.1.1.1 m ∧ kMr k m ∧ k.1.1.1.1.1.length = 512 := by
  have hjK : j < H.2.2.1.length := by
    rcases Nat.lt_or_ge j H.2.2.1.length with z | z
    · exact z
    · rw [List.getElem?_eq_none z] at hk; cases hk
  have := z.k.n3
  exact ⟨by omega, z.k.ks j k hk⟩
/-- a key and the terms changed -/
theorem mz.kt (z : mz x y H) {k : Ky} {q : Ky × Tm} {m' : Mk} {y' : Sy} (hk : H.2.2.1[j]? = some k) (R : kMr q.1 m') (hf : q.1.1.1.1.1.1.length = 512) (hy : ∃ D O, yz y' q.2 D O) : mz (x.wk j q.1.1.1.1.1 m') y' (H.kt j q) :=
  (mz_mk_ z.t z.m (z.k.upd hk R hf) z.h.wk hy)
end
end
