def kD : Nat → Int32
  | 0 => -1
  | n + 1 => nI n
theorem kD_dec : ∀ n : Nat, nI n + Int32.ofInt (-1) = kD n
  | 0 => by decide
  | n + 1 => pk_m1 n
def standM (T : Nat → Nat → Int32) (k : Nat) (x y : Int32) : Nat → Nat → Int32 := fun f => match f with
  | 9 => upd (T 9) k (iNear x (T 3 k) (T 4 k))
  | 10 => upd (T 10) k (iNear y (T 5 k) (T 6 k))
  | f => T f
def chM (pr : Nat → Nat) (rt : Nat) (X Y : Int32) : Nat → (Nat → Nat → Int32) → Nat → Nat → Int32
  | 0, T => T
  | k + 1, T => chM pr rt X Y k (standM T k (if k < rt then T 9 (pr k) else X) (if k < rt then T 10 (pr k) else Y))
def rootM (T : Nat → Nat → Int32) (rt : Nat) (X Y : Int32) : Nat → Nat → Int32 := tS T 8 (upd (T 8) rt (imax (iG (T 9 rt) (T 9 rt) X X) (iG (T 10 rt) (T 10 rt) Y Y)))
def mSelI (T Z : Nat → Nat → Int32) (nd : Nat) : Nat := match mOut T Z nd 0 none with
  | some v => v.1
  | none => 0
def mSelJ (T Z : Nat → Nat → Int32) (nd : Nat) : Nat := match mOut T Z nd 0 none with
  | some v => v.2
  | none => 0
def mSok (T Z : Nat → Nat → Int32) (nd : Nat) : Prop := mOut T Z nd 0 none = some (mSelI T Z nd, mSelJ T Z nd) ∧ nd < 19
def mJoins : Nat → Nat → (Nat → Nat → Int32) → (Nat → Nat → Int32) → (Nat → Nat → Int32) × (Nat → Nat → Int32)
  | 0, _, T, Z => (T, Z)
  | m + 1, nd, T, Z => mJoins m (nd + 1) (joinT T nd (mSelI T Z nd) (mSelJ T Z nd)) (joinZ Z nd (mSelI T Z nd) (mSelJ T Z nd))
def mJoinsOk : Nat → Nat → (Nat → Nat → Int32) → (Nat → Nat → Int32) → Prop
  | 0, _, _, _ => True
  | m + 1, nd, T, Z => mSok T Z nd ∧ mJoinsOk m (nd + 1) (joinT T nd (mSelI T Z nd) (mSelJ T Z nd)) (joinZ Z nd (mSelI T Z nd) (mSelJ T Z nd))
