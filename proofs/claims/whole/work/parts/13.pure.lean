/-! the circuit -/
def hasB (v : Int32) (k : Nat) : Bool := decide (¬ v &&& bitI k = 0)
theorem hasB_t {v : Int32} {k : Nat} (h : ¬ v &&& bitI k = 0) : nI 1 = xb (hasB v k = true) := xb_t (decide_eq_true h)
theorem hasB_f {v : Int32} {k : Nat} (h : v &&& bitI k = 0) : nI 0 = xb (hasB v k = true) := xb_f (fun z => of_decide_eq_true z h)
/-- what a join bears -/
def nbL (F : Nat → Int32) (T : Nat → Nat → Int32) (L : Nat → Nat → Int64) (p q : Nat) : Int64 := L 1 p + capL F T p + L 1 q + capL F T q
def w1L (F : Nat → Int32) (T : Nat → Nat → Int32) (L : Nat → Nat → Int64) (j p q : Nat) : Nat → Nat → Int64 := tS (tS L 0 (vp_updL (L 0) j (nbL F T L p q))) 1 (vp_updL (L 1) j (nbL F T L p q))
def mnL (F : Nat → Int32) (T : Nat → Nat → Int32) (L : Nat → Nat → Int64) (j p q : Nat) : Int64 := lmin (slL F T (w1L F T L j p q) p) (slL F T (w1L F T L j p q) q)
def wjF (F : Nat → Int32) (T : Nat → Nat → Int32) (L : Nat → Nat → Int64) (j p q : Nat) : Nat → Nat → Int64 := tS (w1L F T L j p q) 2 (vp_updL (L 2) j (mnL F T L j p q))
def wjT (F : Nat → Int32) (T : Nat → Nat → Int32) (L : Nat → Nat → Int64) (j p q : Nat) : Nat → Nat → Int64 :=
  tS (tS (tS L 0 (vp_updL (L 0) j (nbL F T L p q))) 1 (vp_updL (vp_updL (L 1) j (nbL F T L p q)) j (1024 * (F 9).toInt64))) 2 (vp_updL (vp_updL (L 2) j (mnL F T L j p q)) j (mnL F T L j p q - ((F 11).toInt64 + 2 * (F 10).toInt64 * vp_updL (L 0) j (nbL F T L p q) j)))
def wjL (F : Nat → Int32) (T : Nat → Nat → Int32) (L : Nat → Nat → Int64) (j p q : Nat) (h : Bool) : Nat → Nat → Int64 := if h = true then wjT F T L j p q else wjF F T L j p q
def wgF (F : Nat → Int32) (T : Nat → Nat → Int32) (P Q : Nat → Nat) (lv : Nat) (v : Int32) : Nat → Nat → (Nat → Nat → Int64) → Nat → Nat → Int64
  | 0, _, L => L
  | n + 1, i, L => wgF F T P Q lv v n (i + 1) (wjL F T L i (P i) (Q i) (hasB v (i - lv)))
def dlF (F : Nat → Int32) (T : Nat → Nat → Int32) (L : Nat → Nat → Int64) (lv : Nat) (v : Int32) : Nat → Nat → Nat → Int64 → Int64
  | 0, _, _, x => x
  | n + 1, j, q, x => if T 2 q = nI j then dlF F T L lv v n (j + 1) j (x + wdL F T L j + (if v &&& bitI (j - lv) = 0 then 0 else bdL F L j)) else dlF F T L lv v n (j + 1) q x
def kbF (x : Int64) (v : Int32) (u : Int64 × Int32) : Int64 × Int32 := if u.2 = -1 ∨ x > u.1 ∨ (x = u.1 ∧ v < u.2) then (x, v) else u
/-- all settings of the joins from j on, m of them: the rows, the best -/
def tfF (F : Nat → Int32) (T : Nat → Nat → Int32) (P Q : Nat → Nat) (lv nd : Nat) : Nat → Int32 → (Nat → Nat → Int64) × Int64 × Int32 → (Nat → Nat → Int64) × Int64 × Int32
  | 0, v, u => (u.1, kbF (slL F T u.1 (nd - 1)) v u.2)
  | m + 1, v, u =>
    let A := tfF F T P Q lv nd m v (wjL F T u.1 (nd - (m + 1)) (P (nd - (m + 1))) (Q (nd - (m + 1))) false, u.2)
    tfF F T P Q lv nd m (v ||| bitI (nd - (m + 1) - lv)) (wjL F T A.1 (nd - (m + 1)) (P (nd - (m + 1))) (Q (nd - (m + 1))) true, A.2)
