/-! what the methods work out, as plain functions: T f k is the number k of the tree's row f (0 left, 1 right, 2 parent, 3 lowU, 4 highU, 5 lowV, 6 highV, 7 time, 8 wire, 9 u, 10 v, 11 row) -/
abbrev inW (x lo hi : Int32) : Prop := lo ≤ x ∧ x ≤ hi
def iG (a b c d : Int32) : Int32 := imax (nI 0) (imax (a - d) (c - b))
def iNear (x lo hi : Int32) : Int32 := if x < lo then lo else if hi < x then hi else x
theorem imin_le {x y : Int32} (h : y ≤ x) : y = imin x y := by
  unfold imin
  by_cases h2 : y < x
  · rw [if_pos h2]
  · rw [if_neg h2]; exact Int32.le_antisymm h (Int32.not_lt.mp h2)
theorem imin_lt {x y : Int32} (h : ¬ y ≤ x) : x = imin x y := by
  unfold imin
  rw [if_neg (fun z => h (Int32.le_of_lt z))]
theorem imax_le {x y : Int32} (h : y ≤ x) : x = imax x y := (if_neg (Int32.not_lt.mpr h)).symm
theorem imax_lt {x y : Int32} (h : ¬ y ≤ x) : y = imax x y := (if_pos (Int32.not_le.mp h)).symm
theorem iNear_lo {x lo hi : Int32} (h : ¬ lo ≤ x) : lo = iNear x lo hi := (if_pos (Int32.not_le.mp h)).symm
theorem iNear_hi {x lo hi : Int32} (h : lo ≤ x) (h2 : ¬ x ≤ hi) : hi = iNear x lo hi := by
  unfold iNear
  rw [if_neg (Int32.not_lt.mpr h), if_pos (Int32.not_le.mp h2)]
theorem iNear_in {x lo hi : Int32} (h : lo ≤ x) (h2 : x ≤ hi) : x = iNear x lo hi := by
  unfold iNear
  rw [if_neg (Int32.not_lt.mpr h), if_neg (Int32.not_lt.mpr h2)]
def bitI (k : Nat) : Int32 := nI 1 <<< (nI k &&& 31)
def dist (T : Nat → Nat → Int32) (i j : Nat) : Int32 := imax (iG (T 3 i) (T 4 i) (T 3 j) (T 4 j)) (iG (T 5 i) (T 6 i) (T 5 j) (T 6 j))
def wA (T : Nat → Nat → Int32) (i j : Nat) (d : Int32) : Int32 := if d + T 7 j < T 7 i then nI 0 else if d + T 7 i < T 7 j then T 7 j - T 7 i else (d + T 7 j - T 7 i) / nI 2
def wB (T : Nat → Nat → Int32) (i j : Nat) (d : Int32) : Int32 := if d + T 7 j < T 7 i then T 7 i - T 7 j else if d + T 7 i < T 7 j then nI 0 else d - wA T i j d
/-- a join n of the nodes i and j -/
def joinT (T : Nat → Nat → Int32) (n i j : Nat) : Nat → Nat → Int32 := fun f => match f with
  | 0 => upd (T 0) n (nI i)
  | 1 => upd (T 1) n (nI j)
  | 2 => upd (upd (upd (T 2) n (-1)) i (nI n)) j (nI n)
  | 3 => upd (T 3) n (imax (T 3 i - wA T i j (dist T i j)) (T 3 j - wB T i j (dist T i j)))
  | 4 => upd (T 4) n (imin (T 4 i + wA T i j (dist T i j)) (T 4 j + wB T i j (dist T i j)))
  | 5 => upd (T 5) n (imax (T 5 i - wA T i j (dist T i j)) (T 5 j - wB T i j (dist T i j)))
  | 6 => upd (T 6) n (imin (T 6 i + wA T i j (dist T i j)) (T 6 j + wB T i j (dist T i j)))
  | 7 => upd (T 7) n (T 7 i + wA T i j (dist T i j))
  | 8 => upd (upd (T 8) i (wA T i j (dist T i j))) j (wB T i j (dist T i j))
  | f => T f
/-- the sink k planted -/
def plantK (S T : Nat → Nat → Int32) (k : Nat) : Nat → Nat → Int32 := fun f => match f with
  | 0 => upd (T 0) k (-1)
  | 1 => upd (T 1) k (-1)
  | 2 => upd (T 2) k (-1)
  | 3 => upd (T 3) k (nI 1024 * (S 0 k + S 1 k))
  | 4 => upd (T 4) k (nI 1024 * (S 0 k + S 1 k))
  | 5 => upd (T 5) k (nI 1024 * (S 0 k - S 1 k))
  | 6 => upd (T 6) k (nI 1024 * (S 0 k - S 1 k))
  | 7 => upd (T 7) k (nI 0)
  | f => T f
def plantF (S : Nat → Nat → Int32) : Nat → Nat → (Nat → Nat → Int32) → Nat → Nat → Int32
  | 0, _, T => T
  | n + 1, k, T => plantF S n (k + 1) (plantK S T k)
/-- the node k stands near (x, y) -/
def standT (T : Nat → Nat → Int32) (k : Nat) (x y : Int32) : Nat → Nat → Int32 := fun f => match f with
  | 9 => upd (T 9) k (imax (T 3 k) (imin (T 4 k) x))
  | 10 => upd (T 10) k (imax (T 5 k) (imin (T 6 k) y))
  | f => T f
def chooseF (P : Nat → Nat) : Nat → (Nat → Nat → Int32) → Nat → Nat → Int32
  | 0, T => T
  | k + 1, T => chooseF P k (standT T k (T 9 (P k)) (T 10 (P k)))
def rootT (T : Nat → Nat → Int32) (k : Nat) (x y : Int32) : Nat → Nat → Int32 := tS (standT T k x y) 8 (upd (T 8) k (imax (iabs (standT T k x y 9 k - x)) (iabs (standT T k x y 10 k - y))))
def sumW (T : Nat → Nat → Int32) : Nat → Nat → Int32 → Int32
  | 0, _, x => x
  | n + 1, k, x => sumW T n (k + 1) (x + T 8 k)
def upF (T : Nat → Nat → Int32) : Nat → Nat → Nat → Nat → Nat
  | 0, _, _, x => x
  | n + 1, j, q, x => if T 2 q = nI j then upF T n (j + 1) j (x + 1) else upF T n (j + 1) q x
def rowF : Nat → Nat → (Nat → Int32) → Nat → Int32
  | 0, _, f => f
  | n + 1, k, f => rowF n (k + 1) (upd f k (nI k))
/-! loads and delays: L 0 bears, L 1 shows, L 2 slack below -/
def capL (F : Nat → Int32) (T : Nat → Nat → Int32) (k : Nat) : Int64 := (F 8).toInt64 * (T 8 k).toInt64
def wdL (F : Nat → Int32) (T : Nat → Nat → Int32) (L : Nat → Nat → Int64) (k : Nat) : Int64 := (F 7).toInt64 * (T 8 k).toInt64 * (capL F T k + 2 * L 1 k)
def bdL (F : Nat → Int32) (L : Nat → Nat → Int64) (k : Nat) : Int64 := (F 11).toInt64 + 2 * (F 10).toInt64 * L 0 k
def slL (F : Nat → Int32) (T : Nat → Nat → Int32) (L : Nat → Nat → Int64) (k : Nat) : Int64 := L 2 k - wdL F T L k
def wsK (S : Nat → Nat → Int32) (L : Nat → Nat → Int64) (k : Nat) : Nat → Nat → Int64 := fun f => match f with
  | 0 => vp_updL (L 0) k (1024 * (S 2 k).toInt64)
  | 1 => vp_updL (L 1) k (1024 * (S 2 k).toInt64)
  | 2 => vp_updL (L 2) k (1048576 * (S 3 k).toInt64)
  | f => L f
def wsF (S : Nat → Nat → Int32) : Nat → Nat → (Nat → Nat → Int64) → Nat → Nat → Int64
  | 0, _, L => L
  | n + 1, k, L => wsF S n (k + 1) (wsK S L k)
theorem xn_dec2 (n : Nat) : nI n + Int32.ofInt (-1) = nI n - nI 1 := by
  rw [Int32.sub_eq_add_neg, show Int32.ofInt (-1) = -(nI 1) by decide]
/-- which of two sinks comes first: f first, then g, then the number -/
def befB (f g : Nat → Int32) (i j : Nat) : Bool := if f i = f j then (if g i = g j then decide (i < j) else decide (g i < g j)) else decide (f i < f j)
def kA (S : Nat → Nat → Int32) (bx : Bool) : Nat → Int32 := if bx = true then S 0 else S 1
def kB (S : Nat → Nat → Int32) (bx : Bool) : Nat → Int32 := if bx = true then S 1 else S 0
def updN (f : Nat → Nat) (k v : Nat) : Nat → Nat := fun j => if j = k then v else f j
def rw (f : Nat → Nat) : Nat → Int32 := fun k => nI (f k)
theorem upd_rw (f : Nat → Nat) (k v : Nat) : upd (rw f) k (nI v) = rw (updN f k v) := by
  funext j
  unfold upd rw updN
  by_cases h : j = k
  · simp [h]
  · simp [h]
/-- insertion into a row: mv goes down from q, as long as it is before and above f -/
def insF (b : Nat → Nat → Bool) (mv f : Nat) : Nat → (Nat → Nat) → Nat → Nat
  | 0, g => updN g 0 mv
  | q + 1, g => if f < q + 1 ∧ b mv (g q) = true then insF b mv f q (updN g (q + 1) (g q)) else updN g (q + 1) mv
def srtF (b : Nat → Nat → Bool) (f : Nat) : Nat → Nat → (Nat → Nat) → Nat → Nat
  | 0, _, g => g
  | n + 1, i, g => srtF b f n (i + 1) (insF b (g i) f i g)
def appS (S : Nat → Nat → Int32) (k : Nat) (x y z u : Int32) : Nat → Nat → Int32 := fun f => match f with
  | 0 => upd (S 0) k x
  | 1 => upd (S 1) k y
  | 2 => upd (S 2) k z
  | 3 => upd (S 3) k u
  | f => S f
/-- the class's choice of a pair: the inner loop, the outer loop -/
def cIn (T : Nat → Nat → Int32) (i : Nat) : Nat → Nat → Int32 × Int32 × Int32 → Int32 × Int32 × Int32
  | 0, _, u => u
  | n + 1, j, u => cIn T i n (j + 1) (if (if T 2 i = -1 ∧ T 2 j = -1 then dist T i j else nI 2147483647) < u.2.2 then (nI i, nI j, if T 2 i = -1 ∧ T 2 j = -1 then dist T i j else nI 2147483647) else u)
def cOut (T : Nat → Nat → Int32) (nd : Nat) : Nat → Nat → Int32 × Int32 × Int32 → Int32 × Int32 × Int32
  | 0, _, u => u
  | n + 1, i, u => cOut T nd n (i + 1) (cIn T i n (i + 1) u)
def cSel (T : Nat → Nat → Int32) (nd : Nat) : Int32 × Int32 × Int32 := cOut T nd nd 0 (-1, -1, nI 2147483647)
def cSelI (T : Nat → Nat → Int32) (nd : Nat) : Nat := (cSel T nd).1.toNatClampNeg
def cSelJ (T : Nat → Nat → Int32) (nd : Nat) : Nat := (cSel T nd).2.1.toNatClampNeg
def cOk (T : Nat → Nat → Int32) (nd : Nat) : Prop := (cSel T nd).1 = nI (cSelI T nd) ∧ (cSel T nd).2.1 = nI (cSelJ T nd) ∧ cSelI T nd < 19 ∧ cSelJ T nd < 19 ∧ cSelI T nd ≠ cSelJ T nd ∧ nd < 19
/-- m joins by the least distance, nd nodes before -/
def cJoins : Nat → Nat → (Nat → Nat → Int32) → Nat → Nat → Int32
  | 0, _, T => T
  | m + 1, nd, T => cJoins m (nd + 1) (joinT T nd (cSelI T nd) (cSelJ T nd))
def cJoinsOk : Nat → Nat → (Nat → Nat → Int32) → Prop
  | 0, _, _ => True
  | m + 1, nd, T => cOk T nd ∧ cJoinsOk m (nd + 1) (joinT T nd (cSelI T nd) (cSelJ T nd))
/-- a part of the row, cut and joined: the rows, the number of nodes, the row of sinks, the node -/
def jrF (S : Nat → Nat → Int32) : Nat → (Nat → Nat → Int32) → Nat → (Nat → Nat) → Nat → Nat → (Nat → Nat → Int32) × Nat × (Nat → Nat) × Nat
  | 0, T, n, g, f, _ => (T, n, g, g f)
  | d + 1, T, n, g, f, t => if t - f < 2 then (T, n, g, g f) else
      let g1 := srtF (befB (kA S ((4 - (d + 1)) % 2 == 0)) (kB S ((4 - (d + 1)) % 2 == 0))) f (t - (f + 1)) (f + 1) g
      let A := jrF S d T n g1 f (f + (t - f + 1) / 2)
      let B := jrF S d A.1 A.2.1 A.2.2.1 (f + (t - f + 1) / 2) t
      (joinT B.1 B.2.1 A.2.2.2 B.2.2.2, B.2.1 + 1, B.2.2.1, B.2.1)
theorem insF_lt {b : Nat → Nat → Bool} {mv f : Nat} : ∀ {q : Nat} {g : Nat → Nat}, (∀ k, g k < 10) → mv < 10 → ∀ k, insF b mv f q g k < 10
  | 0, g, hg, hm, k => by
    unfold insF updN
    split
    · exact hm
    · exact hg k
  | q + 1, g, hg, hm, k => by
    unfold insF
    split
    · exact insF_lt (fun j => by unfold updN; split; exact hg _; exact hg _) hm k
    · unfold updN
      split
      · exact hm
      · exact hg k
abbrev srt1 (S : Nat → Nat → Int32) (d f t : Nat) (g : Nat → Nat) : Nat → Nat := srtF (befB (kA S ((4 - d) % 2 == 0)) (kB S ((4 - d) % 2 == 0))) f (t - (f + 1)) (f + 1) g
def jrOk (S : Nat → Nat → Int32) : Nat → (Nat → Nat → Int32) → Nat → (Nat → Nat) → Nat → Nat → Prop
  | 0, _, _, _, _, _ => True
  | d + 1, T, n, g, f, t => t - f < 2 ∨ ∀ A B, jrF S d T n (srt1 S (d + 1) f t g) f (f + (t - f + 1) / 2) = A → jrF S d A.1 A.2.1 A.2.2.1 (f + (t - f + 1) / 2) t = B →
      jrOk S d T n (srt1 S (d + 1) f t g) f (f + (t - f + 1) / 2) ∧ jrOk S d A.1 A.2.1 A.2.2.1 (f + (t - f + 1) / 2) t ∧ A.2.2.2 < 19 ∧ B.2.2.2 < 19 ∧ A.2.2.2 ≠ B.2.2.2 ∧ B.2.1 < 19
theorem srtF_lt {b : Nat → Nat → Bool} {f : Nat} : ∀ {n i : Nat} {g : Nat → Nat}, (∀ k, g k < 10) → ∀ k, srtF b f n i g k < 10
  | 0, _, _, hg => hg
  | n + 1, i, g, hg => srtF_lt (n := n) (insF_lt hg (hg _))
theorem jrF_lt {S : Nat → Nat → Int32} : ∀ {d : Nat} {T : Nat → Nat → Int32} {n : Nat} {g : Nat → Nat} {f t : Nat}, (∀ k, g k < 10) → ∀ k, (jrF S d T n g f t).2.2.1 k < 10
  | 0, _, _, _, _, _, hg => hg
  | d + 1, T, n, g, f, t, hg => by
    unfold jrF
    split
    · exact hg
    · exact jrF_lt (d := d) (jrF_lt (d := d) (srtF_lt hg))
def rowN : Nat → Nat → (Nat → Nat) → Nat → Nat
  | 0, _, g => g
  | n + 1, k, g => rowN n (k + 1) (updN g k k)
theorem rowN_lt : ∀ {n k : Nat} {g : Nat → Nat}, (∀ j, g j < 10) → k + n ≤ 10 → ∀ j, rowN n k g j < 10
  | 0, _, _, hg, _ => hg
  | n + 1, k, g, hg, h => rowN_lt (n := n) (k := k + 1) (fun j => by unfold updN; split; omega; exact hg j) (by omega)
