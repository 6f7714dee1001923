theorem xn_eq0 {n : Nat} (h : n < 2 ^ 31) : nI n = 0 ↔ n = 0 := by
  rw [← nI_0]; exact nI_eq h (by decide)
theorem xn_le0 {n : Nat} (h : n < 2 ^ 31) : nI n ≤ 0 ↔ n = 0 := by
  rw [← nI_0, nI_leI h (by decide)]; omega
def oI (u : Option Nat) : Int32 := match u with
  | none => -1
  | some v => nI v
def kw (f : Nat → Nat → Nat) : Nat → Nat → Int32 := fun j => rw (f j)
theorem kw_up (f : Nat → Nat → Nat) (j k v : Nat) : tS (kw f) j (upd (kw f j) k (nI v)) = kw (tS f j (updN (f j) k v)) := by
  funext i
  unfold tS kw
  by_cases h : i = j
  · simp only [h, if_true]; exact upd_rw (f j) k v
  · simp only [h, if_false]
/-- which of two sinks comes first, by differences -/
def befM (f g : Nat → Int32) (i j : Nat) : Bool := if f i - f j = 0 then (if g i - g j = 0 then decide (i < j) else decide (g i - g j < 0)) else decide (f i - f j < 0)
abbrev pushK (q : Nat → Nat → Nat) (tp a b d : Nat) : Nat → Nat → Nat := tS (tS (tS (tS q 0 (updN (q 0) tp a)) 1 (updN (q 1) tp b)) 2 (updN (q 2) tp d)) 3 (updN (q 3) tp 0)
abbrev CS : Type := (Nat → Nat → Int32) × (Nat → Nat → Int32) × Nat × (Nat → Nat) × (Nat → Nat → Nat) × Nat × Nat
def cmMid (u : CS) : Nat := u.2.2.2.2.1 0 (u.2.2.2.2.2.1 - 1) + (u.2.2.2.2.1 1 (u.2.2.2.2.2.1 - 1) - u.2.2.2.2.1 0 (u.2.2.2.2.2.1 - 1) + 1) / 2
/-- a step of the model's stack: T, Z, nodes, row, stack, top, got -/
def cmS (S : Nat → Nat → Int32) (u : CS) : CS := match u with
  | (T, Z, n, g, q, tp, got) =>
    if q 1 (tp - 1) - q 0 (tp - 1) = 1 then (T, Z, n, g, q, tp - 1, g (q 0 (tp - 1)))
    else if q 3 (tp - 1) = 0 then (T, Z, n, srtF (befM (kA S (q 2 (tp - 1) % 2 == 0)) (kB S (q 2 (tp - 1) % 2 == 0))) (q 0 (tp - 1)) (q 1 (tp - 1) - (q 0 (tp - 1) + 1)) (q 0 (tp - 1) + 1) g,
      pushK (tS q 3 (updN (q 3) (tp - 1) 1)) tp (q 0 (tp - 1)) (q 0 (tp - 1) + (q 1 (tp - 1) - q 0 (tp - 1) + 1) / 2) (q 2 (tp - 1) + 1), tp + 1, got)
    else if q 3 (tp - 1) = 1 then (T, Z, n, g,
      pushK (tS (tS q 4 (updN (q 4) (tp - 1) got)) 3 (updN (q 3) (tp - 1) 2)) tp (q 0 (tp - 1) + (q 1 (tp - 1) - q 0 (tp - 1) + 1) / 2) (q 1 (tp - 1)) (q 2 (tp - 1) + 1), tp + 1, got)
    else (joinT T n (q 4 (tp - 1)) got, joinZ Z n (q 4 (tp - 1)) got, n + 1, g, q, tp - 1, n)
def cmF (S : Nat → Nat → Int32) : Nat → CS → CS
  | 0, u => u
  | n + 1, u => if u.2.2.2.2.2.1 = 0 then u else cmF S n (cmS S u)
/-- what a step needs -/
def cmSok (u : CS) : Prop := match u with
  | (_, _, n, g, q, tp, got) => tp ≤ 12 ∧ q 0 (tp - 1) < q 1 (tp - 1) ∧ q 1 (tp - 1) ≤ 10 ∧ (∀ k, g k < 10) ∧ q 2 (tp - 1) < 100 ∧ q 3 (tp - 1) ≤ 2 ∧ got < 19 ∧
    (q 1 (tp - 1) - q 0 (tp - 1) = 1 ∨ (q 3 (tp - 1) ≤ 1 ∧ tp < 12) ∨ (q 3 (tp - 1) = 2 ∧ q 4 (tp - 1) < 19 ∧ n < 19))
def cmOk (S : Nat → Nat → Int32) : Nat → CS → Prop
  | 0, u => u.2.2.2.2.2.1 = 0
  | n + 1, u => u.2.2.2.2.2.1 = 0 ∨ (cmSok u ∧ cmOk S n (cmS S u))
