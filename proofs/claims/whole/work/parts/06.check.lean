/-! What each row of a method must have in the tables: a program decides it. -/
def mj_host : String := "PasskeyHouse"
/-- the tables' words in stretches: p is a stretch and a place in it -/
def mj_ch (c : Nat) : List Cond := match c with
  | 0 => k2_sels lw_privs
  | 1 => tables_1_1
  | 2 => tables_1_2
  | 3 => tables_1_3
  | 4 => tables_1_4
  | 5 => tables_1_5
  | 6 => tables_1_6
  | 7 => tables_1_7
  | 8 => tables_1_8
  | 9 => tables_1_9
  | 10 => tables_1_10
  | _ => []
def mj_wN (p : Nat) (w : Cond) : Bool := decide ((mj_ch (p / 4096))[p % 4096]? = some w)
def mj_w (p : Nat) (w : Cond) : Bool := mj_wN p w && goodWord w
def mj_tx : List String := ["id", "alg", "type", "rk", "uv", "public-key", "packed", "sig", "up", "FIDO_2_0", "clientPin"]
/-- the field that a row names: its class, name, descriptor, final -/
def mj_fl (r : mj_R) : Option (String × String × String × Bool) := if r.2.2.1 = 900 then (if r.2.2.2.1 = 0 then some ("java/lang/String", "value", "[B", true) else if r.2.2.2.1 = 1 then some ("java/lang/String", "coder", "B", true) else none) else match mj_cl[r.2.2.1]? with
  | some q => if r.2.2.2.1 < q.2.2 ∧ (q.2.1 r.2.2.2.1).1 = q.1 then some (q.2.1 r.2.2.2.1) else none
  | none => none
def mj_ckF (own : String) (r : mj_R) (i : Nat) : Bool := match mj_fl r with
  | some f => if r.2.2.2.2 % 2 = 0 then mj_w (r.2.2.2.2 / 2) (.fieldLink own i f.1 f.2.1 f.2.2.1) else decide (r.2.2.1 ≠ 900) && mj_wN (r.2.2.2.2 / 2) (.fieldLinkNest own i f.1 f.2.1 f.2.2.1 mj_host)
  | none => false
def mj_ckP (y : mj_Me) (r : mj_R) : Bool := match mj_fl r with
  | some f => decide (r.2.2.1 ≠ 900) && (!f.2.2.2 || (decide (y.1.name = "<init>") && (decide (f.1 = y.1.cls) && decide (r.2.2.2.2 % 2 = 0))))
  | none => false
def mj_ckI (own : String) (r : mj_R) (i : Nat) : Bool := match mj_ms[r.2.2.2.1]? with
  | some z => decide (r.2.2.2.1 ≠ 1) && (decide (r.2.2.2.1 < 380) && (match r.2.2.1 with
    | 0 => mj_w r.2.2.2.2 (.methodLink own i z.1) && (mj_w z.2.2.2.2.2.2.1.2.1 (.instanceMethod z.1) && (mj_w z.2.2.2.2.2.2.1.2.2.1 (.selects z.1.cls z.1 z.1) && decide (z.2.2.2.2.2.1 < 999)))
    | 1 => mj_wN r.2.2.2.2 (.methodLinkNest own i z.1 mj_host) && (mj_w z.2.2.2.2.2.2.1.2.1 (.instanceMethod z.1) && (mj_w z.2.2.2.2.2.2.1.2.2.1 (.selects z.1.cls z.1 z.1) && decide (z.2.2.2.2.2.1 < 999)))
    | 2 => mj_w r.2.2.2.2 (.methodLink own i z.1) && mj_w z.2.2.2.2.2.2.1.2.1 (.static z.1)
    | 3 => mj_wN r.2.2.2.2 (.methodLinkNest own i z.1 mj_host) && mj_w z.2.2.2.2.2.2.1.2.1 (.static z.1)
    | 4 => mj_w r.2.2.2.2 (.methodLink own i z.1) && (mj_w z.2.2.2.2.2.2.1.2.1 (.instanceMethod z.1) && (decide (z.1.name = "<init>") && decide (z.2.2.2.1 = none)))
    | 5 => mj_wN r.2.2.2.2 (.methodLinkNest own i z.1 mj_host) && (mj_w z.2.2.2.2.2.2.1.2.1 (.instanceMethod z.1) && (decide (z.1.name = "<init>") && decide (z.2.2.2.1 = none)))
    | _ => false))
  | none => false
/-- the words that a row needs besides its decoding -/
def mj_ckW (y : mj_Me) (r : mj_R) : Bool := match r.1 with
  | .getfield i => mj_ckF y.1.cls r i
  | .putfield i => mj_ckF y.1.cls r i && mj_ckP y r
  | .getstatic i => match mj_st[r.2.2.1]? with
    | some q => mj_w r.2.2.2.2 (.fieldLink y.1.cls i q.1 q.2.1 q.2.2.1)
    | none => false
  | .ldc i => match mj_k[r.2.2.2.1]? with
    | some (.int v) => mj_w r.2.2.2.2 (.constant y.1.cls i v)
    | some (.ref q) => decide (q = 3 + 2 * ((q - 3) / 2)) && (decide ((q - 3) / 2 < 11) && mj_wN r.2.2.2.2 (.stringRef y.1.cls i (mj_tx.getD ((q - 3) / 2) "")))
    | _ => false
  | .ldc_w i => match mj_k[r.2.2.2.1]? with
    | some (.int v) => mj_w r.2.2.2.2 (.constant y.1.cls i v)
    | some (.ref q) => decide (q = 3 + 2 * ((q - 3) / 2)) && (decide ((q - 3) / 2 < 11) && mj_wN r.2.2.2.2 (.stringRef y.1.cls i (mj_tx.getD ((q - 3) / 2) "")))
    | _ => false
  | .ldc2_w i => match mj_k[r.2.2.2.1]? with
    | some (.long v) => mj_w r.2.2.2.2 (.constantLong y.1.cls i v)
    | _ => false
  | .new i => match mj_cl[r.2.2.1]? with
    | some q => mj_w r.2.2.2.2 (.classLink y.1.cls i q.1)
    | none => false
  | .newarray t => decide (newarray.typeOf t = mj_aty r.2.2.1) && (decide (1000 ≤ r.2.2.1) && (decide (r.2.2.1 < 1004) && mj_w r.2.2.2.2 (.arrayClass (newarray.typeOf t))))
  | .anewarray i => match mj_aty r.2.2.1 with
    | .object C => decide (1004 ≤ r.2.2.1) && (decide (r.2.2.1 < 1010) && mj_w r.2.2.2.2 (.classLink y.1.cls i C))
    | _ => false
  | .invokevirtual i => (decide (r.2.2.1 = 0) || decide (r.2.2.1 = 1)) && mj_ckI y.1.cls r i
  | .invokestatic i => if r.2.2.1 = 7 then mj_w r.2.2.2.2 (.methodLink y.1.cls i arraycopyName) else (decide (r.2.2.1 = 2) || decide (r.2.2.1 = 3)) && mj_ckI y.1.cls r i
  | .invokespecial i => if r.2.2.1 = 6 then mj_w r.2.2.2.2 (.methodLink y.1.cls i objectInit) else (decide (r.2.2.1 = 4) || decide (r.2.2.1 = 5)) && mj_ckI y.1.cls r i
  | _ => true
def mj_ck (y : mj_Me) (pc : Nat) (r : mj_R) : Bool := (match decode y.2.1 pc with
  | .ok q => decide (q = (r.1, r.2.1))
  | .error _ => false) && ((decide (mj_ln r.1 = 0) || decide (r.2.1 = mj_ln r.1)) && mj_ckW y r)
def mj_cz (y : mj_Me) : List (Option mj_R) → Nat → Bool
  | [], _ => true
  | none :: l, pc => mj_cz y l (pc + 1)
  | some r :: l, pc => mj_ck y pc r && mj_cz y l (pc + 1)
def mj_cr (y : mj_Me) : Bool := mj_cz y y.2.2.2.2.2.2.2 0
theorem mj_cz_at {y : mj_Me} : ∀ (l : List (Option mj_R)) (p : Nat), mj_cz y l p = true → ∀ (k : Nat) (r : mj_R), l[k]? = some (some r) → mj_ck y (p + k) r = true := by
  intro l
  induction l with
  | nil => intro p _ k r h; simp at h
  | cons a l ih =>
    intro p h k r hk
    cases a with
    | none =>
      cases k with
      | zero => simp at hk
      | succ k =>
        have := ih (p + 1) (by simpa [mj_cz] using h) k r (by simpa using hk)
        rw [show p + (k + 1) = p + 1 + k by omega]; exact this
    | some r0 =>
      simp only [mj_cz, Bool.and_eq_true] at h
      cases k with
      | zero =>
        have : r0 = r := by simpa using hk
        subst this
        simpa using h.1
      | succ k =>
        have := ih (p + 1) h.2 k r (by simpa using hk)
        rw [show p + (k + 1) = p + 1 + k by omega]; exact this
