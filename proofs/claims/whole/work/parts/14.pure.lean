/-! the model: Z 0 set, Z 1 joined -/
def placeT (T : Nat → Nat → Int32) (k : Nat) (x y z u : Int32) : Nat → Nat → Int32 := fun f => match f with
  | 3 => upd (T 3) k x
  | 4 => upd (T 4) k y
  | 5 => upd (T 5) k z
  | 6 => upd (T 6) k u
  | f => T f
def joinZ (Z : Nat → Nat → Int32) (n i j : Nat) : Nat → Nat → Int32 := fun f => match f with
  | 0 => upd (Z 0) n (nI 0)
  | 1 => upd (upd (upd (Z 1) i (nI 1)) j (nI 1)) n (nI 0)
  | f => Z f
def begZ (Z : Nat → Nat → Int32) (k : Nat) : Nat → Nat → Int32 := fun f => match f with
  | 0 => upd (Z 0) k (nI 0)
  | 1 => upd (Z 1) k (nI 0)
  | f => Z f
def begF : Nat → Nat → (Nat → Nat → Int32) → Nat → Nat → Int32
  | 0, _, Z => Z
  | n + 1, k, Z => begF n (k + 1) (begZ Z k)
/-- the model's pair so far -/
def oA (u : Option (Nat × Nat)) : Int32 := match u with
  | none => -1
  | some v => nI v.1
def oB (u : Option (Nat × Nat)) : Int32 := match u with
  | none => -1
  | some v => nI v.2
def mBet (T : Nat → Nat → Int32) (i j : Nat) (u : Option (Nat × Nat)) : Bool := match u with
  | none => true
  | some v => decide (dist T i j < dist T v.1 v.2)
def mIn (T Z : Nat → Nat → Int32) (i : Nat) : Nat → Nat → Option (Nat × Nat) → Option (Nat × Nat)
  | 0, _, u => u
  | n + 1, j, u => mIn T Z i n (j + 1) (if (Z 1 i = 0 ∧ Z 1 j = 0) ∧ mBet T i j u = true then some (i, j) else u)
def mOut (T Z : Nat → Nat → Int32) : Nat → Nat → Option (Nat × Nat) → Option (Nat × Nat)
  | 0, _, u => u
  | n + 1, i, u => mOut T Z n (i + 1) (mIn T Z i n (i + 1) u)
def mOk (u : Option (Nat × Nat)) : Prop := ∀ v, u = some v → v.1 < 19 ∧ v.2 < 19
theorem mOk_none : mOk none := fun _ h => nomatch h
theorem mOk_some {i j : Nat} (hi : i < 19) (hj : j < 19) : mOk (some (i, j)) := fun v h => by cases h; exact ⟨hi, hj⟩
