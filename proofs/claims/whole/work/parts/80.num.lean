/-! numbers without overflow -/
theorem i3_b {n : Int} (h1 : -2147483648 ≤ n) (h2 : n < 2147483648) : n.bmod (2 ^ 32) = n := Int.bmod_eq_of_le (by omega) (by omega)
theorem i3_add {a b : Int32} (h1 : -2147483648 ≤ a.toInt + b.toInt) (h2 : a.toInt + b.toInt < 2147483648) : (a + b).toInt = a.toInt + b.toInt := by
  rw [Int32.toInt_add]; exact i3_b h1 h2
theorem i3_sub {a b : Int32} (h1 : -2147483648 ≤ a.toInt - b.toInt) (h2 : a.toInt - b.toInt < 2147483648) : (a - b).toInt = a.toInt - b.toInt := by
  rw [Int32.toInt_sub]; exact i3_b h1 h2
theorem i3_mul {a b : Int32} (h1 : -2147483648 ≤ a.toInt * b.toInt) (h2 : a.toInt * b.toInt < 2147483648) : (a * b).toInt = a.toInt * b.toInt := by
  rw [Int32.toInt_mul]; exact i3_b h1 h2
theorem i3_half {a : Int32} (h1 : 0 ≤ a.toInt) : (a / nI 2).toInt = a.toInt / 2 := by
  have h2 := Int32.toInt_lt a
  rw [Int32.toInt_div, nI_toInt (by decide), Int.tdiv_eq_ediv_of_nonneg h1]
  exact i3_b (by omega) (by omega)
theorem i3_max (x y : Int32) : (imax x y).toInt = max x.toInt y.toInt := by
  unfold imax
  by_cases h : x < y
  · rw [if_pos h]; have := Int32.lt_iff_toInt_lt.mp h; omega
  · rw [if_neg h]; have := mt Int32.lt_iff_toInt_lt.mpr h; omega
theorem i3_min (x y : Int32) : (imin x y).toInt = min x.toInt y.toInt := by
  unfold imin
  by_cases h : y < x
  · rw [if_pos h]; have := Int32.lt_iff_toInt_lt.mp h; omega
  · rw [if_neg h]; have := mt Int32.lt_iff_toInt_lt.mpr h; omega
theorem i3_lt (x y : Int32) : x < y ↔ x.toInt < y.toInt := Int32.lt_iff_toInt_lt
theorem i3_le (x y : Int32) : x ≤ y ↔ x.toInt ≤ y.toInt := Int32.le_iff_toInt_le
theorem i3_n0 : (nI 0).toInt = 0 := by decide
theorem i3_m1 : (-1 : Int32).toInt = -1 := by decide
theorem nI_m1 {n : Nat} (h : n < 1000) : nI n ≠ -1 := fun z => by
  have := congrArg Int32.toInt z
  rw [nI_toInt (by omega), i3_m1] at this
  omega
theorem nI_inj {a b : Nat} (ha : a < 1000) (hb : b < 1000) (h : nI a = nI b) : a = b := (nI_eq (by omega) (by omega)).mp h
/-! eight bytes -/
theorem i6_b {n : Int} (h1 : -9223372036854775808 ≤ n) (h2 : n < 9223372036854775808) : n.bmod (2 ^ 64) = n := Int.bmod_eq_of_le (by omega) (by omega)
theorem i6_add {a b : Int64} (h1 : -9223372036854775808 ≤ a.toInt + b.toInt) (h2 : a.toInt + b.toInt < 9223372036854775808) : (a + b).toInt = a.toInt + b.toInt := by
  rw [Int64.toInt_add]; exact i6_b h1 h2
theorem i6_sub {a b : Int64} (h1 : -9223372036854775808 ≤ a.toInt - b.toInt) (h2 : a.toInt - b.toInt < 9223372036854775808) : (a - b).toInt = a.toInt - b.toInt := by
  rw [Int64.toInt_sub]; exact i6_b h1 h2
theorem i6_mul {a b : Int64} (h1 : -9223372036854775808 ≤ a.toInt * b.toInt) (h2 : a.toInt * b.toInt < 9223372036854775808) : (a * b).toInt = a.toInt * b.toInt := by
  rw [Int64.toInt_mul]; exact i6_b h1 h2
theorem i6_min (x y : Int64) : (lmin x y).toInt = min x.toInt y.toInt := by
  unfold lmin
  by_cases h : y < x
  · rw [if_pos h]; have := Int64.lt_iff_toInt_lt.mp h; omega
  · rw [if_neg h]; have := mt Int64.lt_iff_toInt_lt.mpr h; omega
/-! the bounds of a node -/
def nB (T : Nat → Nat → Int32) (k : Nat) : Prop := 0 ≤ (T 7 k).toInt ∧ (T 7 k).toInt ≤ 204800 ∧ (T 3 k).toInt ≤ (T 4 k).toInt ∧ 0 ≤ (T 4 k).toInt - (T 7 k).toInt ∧ (T 4 k).toInt - (T 7 k).toInt ≤ (T 3 k).toInt + (T 7 k).toInt ∧ (T 3 k).toInt + (T 7 k).toInt ≤ 409600 ∧ (T 5 k).toInt ≤ (T 6 k).toInt ∧ -204800 ≤ (T 6 k).toInt - (T 7 k).toInt ∧ (T 6 k).toInt - (T 7 k).toInt ≤ (T 5 k).toInt + (T 7 k).toInt ∧ (T 5 k).toInt + (T 7 k).toInt ≤ 204800
section
variable {T : Nat → Nat → Int32} {i j : Nat}
theorem dist_int (hi : nB T i) (hj : nB T j) : (dist T i j).toInt = max (max 0 (max ((T 3 i).toInt - (T 4 j).toInt) ((T 3 j).toInt - (T 4 i).toInt))) (max 0 (max ((T 5 i).toInt - (T 6 j).toInt) ((T 5 j).toInt - (T 6 i).toInt))) := by
  unfold nB at hi hj
  unfold dist iG
  rw [i3_max, i3_max, i3_max, i3_max, i3_max, i3_n0, i3_sub (by omega) (by omega), i3_sub (by omega) (by omega), i3_sub (by omega) (by omega), i3_sub (by omega) (by omega)]
theorem wA_int (hi : nB T i) (hj : nB T j) {d : Int32} (h0 : 0 ≤ d.toInt) (h1 : d.toInt ≤ 409600) : (wA T i j d).toInt = if d.toInt + (T 7 j).toInt < (T 7 i).toInt then 0 else if d.toInt + (T 7 i).toInt < (T 7 j).toInt then (T 7 j).toInt - (T 7 i).toInt else (d.toInt + (T 7 j).toInt - (T 7 i).toInt) / 2 := by
  unfold nB at hi hj
  unfold wA
  have e1 : (d + T 7 j).toInt = d.toInt + (T 7 j).toInt := i3_add (by omega) (by omega)
  have e2 : (d + T 7 i).toInt = d.toInt + (T 7 i).toInt := i3_add (by omega) (by omega)
  simp only [i3_lt, e1, e2]
  split
  · exact i3_n0
  · split
    · exact i3_sub (by omega) (by omega)
    · have e3 : (d + T 7 j - T 7 i).toInt = d.toInt + (T 7 j).toInt - (T 7 i).toInt := by rw [i3_sub (by omega) (by omega), e1]
      rw [i3_half (by omega), e3]
theorem wB_int (hi : nB T i) (hj : nB T j) {d : Int32} (h0 : 0 ≤ d.toInt) (h1 : d.toInt ≤ 409600) : (wB T i j d).toInt = if d.toInt + (T 7 j).toInt < (T 7 i).toInt then (T 7 i).toInt - (T 7 j).toInt else if d.toInt + (T 7 i).toInt < (T 7 j).toInt then 0 else d.toInt - (d.toInt + (T 7 j).toInt - (T 7 i).toInt) / 2 := by
  have hw := wA_int hi hj h0 h1
  unfold nB at hi hj
  unfold wB
  have e1 : (d + T 7 j).toInt = d.toInt + (T 7 j).toInt := i3_add (by omega) (by omega)
  have e2 : (d + T 7 i).toInt = d.toInt + (T 7 i).toInt := i3_add (by omega) (by omega)
  simp only [i3_lt, e1, e2]
  split
  · exact i3_sub (by omega) (by omega)
  · rename_i g1
    split
    · exact i3_n0
    · rename_i g2
      rw [if_neg g1, if_neg g2] at hw
      rw [i3_sub (by omega) (by omega), hw]
theorem dist_le (hi : nB T i) (hj : nB T j) : 0 ≤ (dist T i j).toInt ∧ (dist T i j).toInt ≤ 409600 := by
  rw [dist_int hi hj]
  unfold nB at hi hj
  omega
theorem wA_le (hi : nB T i) (hj : nB T j) : 0 ≤ (wA T i j (dist T i j)).toInt ∧ (wA T i j (dist T i j)).toInt ≤ 409600 := by
  have hd := dist_le hi hj
  rw [wA_int hi hj hd.1 hd.2]
  unfold nB at hi hj
  split <;> (try split) <;> omega
theorem wB_le (hi : nB T i) (hj : nB T j) : 0 ≤ (wB T i j (dist T i j)).toInt ∧ (wB T i j (dist T i j)).toInt ≤ 409600 := by
  have hd := dist_le hi hj
  rw [wB_int hi hj hd.1 hd.2]
  unfold nB at hi hj
  split <;> (try split) <;> omega
theorem nB_join (hi : nB T i) (hj : nB T j) (n : Nat) : nB (joinT T n i j) n := by
  have hd := dist_le hi hj
  have hdi := dist_int hi hj
  have ha := wA_int hi hj hd.1 hd.2
  have hb := wB_int hi hj hd.1 hd.2
  have ha2 := wA_le hi hj
  have hb2 := wB_le hi hj
  have e3 : joinT T n i j 3 n = imax (T 3 i - wA T i j (dist T i j)) (T 3 j - wB T i j (dist T i j)) := pk_us
  have e4 : joinT T n i j 4 n = imin (T 4 i + wA T i j (dist T i j)) (T 4 j + wB T i j (dist T i j)) := pk_us
  have e5 : joinT T n i j 5 n = imax (T 5 i - wA T i j (dist T i j)) (T 5 j - wB T i j (dist T i j)) := pk_us
  have e6 : joinT T n i j 6 n = imin (T 6 i + wA T i j (dist T i j)) (T 6 j + wB T i j (dist T i j)) := pk_us
  have e7 : joinT T n i j 7 n = T 7 i + wA T i j (dist T i j) := pk_us
  unfold nB at hi hj ⊢
  rw [e3, e4, e5, e6, e7]
  generalize wA T i j (dist T i j) = wa at *
  generalize wB T i j (dist T i j) = wb at *
  generalize (dist T i j).toInt = d at *
  rw [i3_max, i3_min, i3_max, i3_min, i3_sub (by omega) (by omega), i3_sub (by omega) (by omega), i3_sub (by omega) (by omega), i3_sub (by omega) (by omega), i3_add (by omega) (by omega), i3_add (by omega) (by omega), i3_add (by omega) (by omega), i3_add (by omega) (by omega), i3_add (by omega) (by omega)]
  generalize wa.toInt = A at *
  generalize wb.toInt = B at *
  generalize (T 3 i).toInt = a3 at *
  generalize (T 3 j).toInt = b3 at *
  generalize (T 4 i).toInt = a4 at *
  generalize (T 4 j).toInt = b4 at *
  generalize (T 5 i).toInt = a5 at *
  generalize (T 5 j).toInt = b5 at *
  generalize (T 6 i).toInt = a6 at *
  generalize (T 6 j).toInt = b6 at *
  generalize (T 7 i).toInt = a7 at *
  generalize (T 7 j).toInt = b7 at *
  clear e3 e4 e5 e6 e7
  split at ha
  · rename_i g1
    rw [if_pos g1] at hb
    refine ⟨?_, ?_, ?_, ?_, ?_, ?_, ?_, ?_, ?_, ?_⟩ <;> omega
  · rename_i g1
    rw [if_neg g1] at hb
    split at ha
    · rename_i g2
      rw [if_pos g2] at hb
      refine ⟨?_, ?_, ?_, ?_, ?_, ?_, ?_, ?_, ?_, ?_⟩ <;> omega
    · rename_i g2
      rw [if_neg g2] at hb
      have hs : A + B = d := by omega
      have hs2 : 2 * A ≤ d + b7 - a7 := by omega
      have hs3 : d + b7 - a7 ≤ 2 * A + 1 := by omega
      clear ha hb
      refine ⟨?_, ?_, ?_, ?_, ?_, ?_, ?_, ?_, ?_, ?_⟩ <;> omega
end
