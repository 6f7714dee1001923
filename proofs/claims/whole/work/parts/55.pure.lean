def onM (v : Int32) (k : Nat) : Bool := decide ((v >>> (nI k &&& 31)) &&& nI 1 = nI 1)
theorem onM_t {v : Int32} {k : Nat} (h : (v >>> (nI k &&& 31)) &&& nI 1 = nI 1) : onM v k = true := decide_eq_true h
theorem onM_f {v : Int32} {k : Nat} (h : ¬ (v >>> (nI k &&& 31)) &&& nI 1 = nI 1) : ¬ onM v k = true := fun z => h (of_decide_eq_true z)
def numF (Z : Nat → Nat → Int32) (lv : Nat) : Nat → Nat → Int32 → Int32
  | 0, _, x => x
  | n + 1, k, x => numF Z lv n (k + 1) (if Z 0 k = 0 then x else x ||| bitI (k - lv))
def mkL (L : Nat → Nat → Int64) (k : Nat) (x y : Int64) : Nat → Nat → Int64 := tS (tS L 0 (vp_updL (L 0) k x)) 1 (vp_updL (L 1) k y)
def wmK (S : Nat → Nat → Int32) (F : Nat → Int32) (T : Nat → Nat → Int32) (lc rc : Nat → Nat) (lv : Nat) (v : Int32) (L : Nat → Nat → Int64) (k : Nat) : Nat → Nat → Int64 :=
  if k < lv then mkL L k (1024 * (S 2 k).toInt64) (1024 * (S 2 k).toInt64) else if onM v (k - lv) = true then mkL L k (nbL F T L (lc k) (rc k)) (1024 * (F 9).toInt64) else mkL L k (nbL F T L (lc k) (rc k)) (nbL F T L (lc k) (rc k))
def wmF (S : Nat → Nat → Int32) (F : Nat → Int32) (T : Nat → Nat → Int32) (lc rc : Nat → Nat) (lv : Nat) (v : Int32) : Nat → Nat → (Nat → Nat → Int64) → Nat → Nat → Int64
  | 0, _, L => L
  | n + 1, k, L => wmF S F T lc rc lv v n (k + 1) (wmK S F T lc rc lv v L k)
def dmK (F : Nat → Int32) (T : Nat → Nat → Int32) (L : Nat → Nat → Int64) (lv : Nat) (v : Int32) (k : Nat) (x : Int64) : Int64 :=
  if lv ≤ k ∧ onM v (k - lv) = true then x + wdL F T L k + (F 11).toInt64 + 2 * (F 10).toInt64 * L 0 k else x + wdL F T L k
def dmF (F : Nat → Int32) (T : Nat → Nat → Int32) (L : Nat → Nat → Int64) (po : Nat → Option Nat) (lv : Nat) (v : Int32) : Nat → Option Nat → Int64 → Int64
  | 0, _, x => x
  | _ + 1, none, x => x
  | n + 1, some k, x => dmF F T L po lv v n (po k) (dmK F T L lv v k x)
def cnOk (po : Nat → Option Nat) : Nat → Option Nat → Prop
  | 0, o => o = none
  | _ + 1, none => True
  | n + 1, some k => k < 19 ∧ cnOk po n (po k)
def chD (po : Nat → Option Nat) : Nat → Option Nat → Nat → Nat
  | 0, _, x => x
  | _ + 1, none, x => x
  | n + 1, some k, x => chD po n (po k) (x + 1)
def dsM (S : Nat → Nat → Int32) (F : Nat → Int32) (T : Nat → Nat → Int32) (L : Nat → Nat → Int64) (po : Nat → Option Nat) (lv N : Nat) (v : Int32) (k : Nat) : Int64 := 1048576 * (S 3 k).toInt64 - dmF F T L po lv v N (some k) 0
def sfM (S : Nat → Nat → Int32) (F : Nat → Int32) (T : Nat → Nat → Int32) (L : Nat → Nat → Int64) (po : Nat → Option Nat) (lv N : Nat) (v : Int32) : Nat → Nat → Int64 → Int64
  | 0, _, x => x
  | n + 1, k, x => sfM S F T L po lv N v n (k + 1) (if k = 0 ∨ dsM S F T L po lv N v k < x then dsM S F T L po lv N v k else x)
/-- the slack with a setting, and the rows behind it -/
def soL (S : Nat → Nat → Int32) (F : Nat → Int32) (T : Nat → Nat → Int32) (lc rc : Nat → Nat) (lv nd : Nat) (v : Int32) (L : Nat → Nat → Int64) : Nat → Nat → Int64 := wmF S F T lc rc lv v nd 0 L
def soV (S : Nat → Nat → Int32) (F : Nat → Int32) (T : Nat → Nat → Int32) (lc rc : Nat → Nat) (po : Nat → Option Nat) (lv nd N : Nat) (v : Int32) (L : Nat → Nat → Int64) : Int64 := sfM S F T (soL S F T lc rc lv nd v L) po lv N v lv 0 0
def bsF (S : Nat → Nat → Int32) (F : Nat → Int32) (T : Nat → Nat → Int32) (lc rc : Nat → Nat) (po : Nat → Option Nat) (lv nd N : Nat) : Nat → Nat → Nat × Int64 × (Nat → Nat → Int64) → Nat × Int64 × (Nat → Nat → Int64)
  | 0, _, u => u
  | n + 1, k, u => bsF S F T lc rc po lv nd N n (k + 1) (if soV S F T lc rc po lv nd N (nI k) u.2.2 > u.2.1 then (k, soV S F T lc rc po lv nd N (nI k) u.2.2, soL S F T lc rc lv nd (nI k) u.2.2) else (u.1, u.2.1, soL S F T lc rc lv nd (nI k) u.2.2))
def imZ (Z : Nat → Nat → Int32) (v : Int32) (lv k : Nat) : Nat → Nat → Int32 := tS Z 0 (upd (Z 0) k (xb (onM v (k - lv) = true)))
def imF (v : Int32) (lv : Nat) : Nat → Nat → (Nat → Nat → Int32) → Nat → Nat → Int32
  | 0, _, Z => Z
  | n + 1, k, Z => imF v lv n (k + 1) (imZ Z v lv k)
