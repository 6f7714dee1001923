/-! settings as numbers -/
theorem bit_is : ∀ k, k < 10 → bitI k = nI (2 ^ k) := by decide +kernel
theorem hasB_is : ∀ V, V < 512 → ∀ k, k < 9 → hasB (nI V) k = V.testBit k := by decide +kernel
theorem onM_is : ∀ V, V < 512 → ∀ k, k < 9 → onM (nI V) k = V.testBit k := by decide +kernel
theorem or_is : ∀ V, V < 512 → ∀ k, k < 9 → nI V ||| bitI k = nI (V ||| 2 ^ k) := by decide +kernel
def setN (V k : Nat) (on : Bool) : Nat := if V.testBit k = on then V else V ^^^ 2 ^ k
theorem setV_is : ∀ V, V < 512 → ∀ k, k < 9 → ∀ on : Bool, setV (nI V) k on = nI (setN V k on) := by decide +kernel
theorem setN_bit {V k : Nat} {on : Bool} (i : Nat) : (setN V k on).testBit i = if i = k then on else V.testBit i := by
  unfold setN
  by_cases h : V.testBit k = on
  · rw [if_pos h]
    by_cases e : i = k
    · rw [if_pos e, e, h]
    · rw [if_neg e]
  · rw [if_neg h, Nat.testBit_xor, Nat.testBit_two_pow]
    by_cases e : i = k
    · subst e
      simp only [decide_true, if_true]
      cases hv : V.testBit i <;> cases on <;> simp_all
    · simp [e, Ne.symm e]
theorem setN_lt {V k m : Nat} {on : Bool} (hV : V < 2 ^ m) (hk : k < m) : setN V k on < 2 ^ m := by
  unfold setN
  split
  · exact hV
  · exact Nat.xor_lt_two_pow hV (Nat.pow_lt_pow_right (by decide) hk)
theorem setN_same {V k : Nat} {on : Bool} : setN V k on = V ↔ V.testBit k = on := by
  constructor
  · intro h
    have := setN_bit (V := V) (k := k) (on := on) k
    rw [h, if_pos rfl] at this
    exact this
  · intro h; unfold setN; rw [if_pos h]
theorem pow_512 {m : Nat} (h : m ≤ 9) {V : Nat} (hV : V < 2 ^ m) : V < 512 := Nat.lt_of_lt_of_le hV (Nat.pow_le_pow_right (n := 2) (by decide) h)
theorem mod_bit (V m : Nat) : V % 2 ^ (m + 1) = if V.testBit m = true then V % 2 ^ m ||| 2 ^ m else V % 2 ^ m := by
  refine Nat.eq_of_testBit_eq (fun i => ?_)
  split
  · rename_i h
    rw [Nat.testBit_or, Nat.testBit_mod_two_pow, Nat.testBit_mod_two_pow, Nat.testBit_two_pow]
    by_cases e : i = m
    · subst e; simp [h]
    · by_cases e2 : i < m
      · have : i < m + 1 := by omega
        simp [e2, this, Ne.symm e]
      · have : ¬ i < m + 1 := by omega
        simp [e2, this, Ne.symm e]
  · rename_i h
    rw [Nat.testBit_mod_two_pow, Nat.testBit_mod_two_pow]
    by_cases e : i = m
    · subst e; simp [h]
    · by_cases e2 : i < m
      · have : i < m + 1 := by omega
        simp [e2, this]
      · have : ¬ i < m + 1 := by omega
        simp [e2, this]
/-- the model's flags are the bits of V -/
def ZV (Z : Nat → Nat → Int32) (lv n V : Nat) : Prop := ∀ k, lv ≤ k → k < n → Z 0 k = xb (V.testBit (k - lv) = true)
theorem num_is {Z : Nat → Nat → Int32} {lv n V : Nat} (hZ : ZV Z lv n V) (hn : n ≤ lv + 9) (hV : V < 512) : ∀ {m k : Nat}, lv ≤ k → k + m = n → numF Z lv m k (nI (V % 2 ^ (k - lv))) = nI (V % 2 ^ (n - lv))
  | 0, k, h1, h2 => by
    have : k = n := by omega
    subst this; rfl
  | m + 1, k, h1, h2 => by
    show numF Z lv m (k + 1) (if Z 0 k = 0 then nI (V % 2 ^ (k - lv)) else nI (V % 2 ^ (k - lv)) ||| bitI (k - lv)) = _
    have e : (if Z 0 k = 0 then nI (V % 2 ^ (k - lv)) else nI (V % 2 ^ (k - lv)) ||| bitI (k - lv)) = nI (V % 2 ^ (k + 1 - lv)) := by
      rw [show k + 1 - lv = (k - lv) + 1 by omega, mod_bit, hZ k h1 (by omega), or_is _ (Nat.lt_of_le_of_lt (Nat.mod_le _ _) hV) _ (by omega)]
      by_cases hb : V.testBit (k - lv) = true
      · rw [if_pos hb, if_neg (by rw [xb_0]; exact fun q => q hb)]
      · rw [if_neg hb, if_pos (xb_0.mpr hb)]
    rw [e]
    exact num_is hZ hn hV (by omega) (by omega)
theorem num_V {Z : Nat → Nat → Int32} {lv n V : Nat} (hZ : ZV Z lv n V) (hl : lv ≤ n) (hn : n ≤ lv + 9) (hV : V < 2 ^ (n - lv)) : numF Z lv (n - lv) lv (nI 0) = nI V := by
  have := num_is hZ hn (pow_512 (by omega) hV) (m := n - lv) (k := lv) (Nat.le_refl _) (by omega)
  rw [Nat.sub_self, Nat.pow_zero, Nat.mod_one, Nat.mod_eq_of_lt hV] at this
  exact this
theorem imF_out {v : Int32} {lv x : Nat} : ∀ {m k : Nat} {Z : Nat → Nat → Int32}, x < k → imF v lv m k Z 0 x = Z 0 x
  | 0, _, _, _ => rfl
  | m + 1, k, Z, h => by
    show imF v lv m (k + 1) (imZ Z v lv k) 0 x = Z 0 x
    rw [imF_out (by omega)]
    unfold imZ
    rw [tS_self, pk_un (by omega)]
theorem imF_at {v : Int32} {lv x : Nat} : ∀ {m k : Nat} {Z : Nat → Nat → Int32}, k ≤ x → x < k + m → imF v lv m k Z 0 x = xb (onM v (x - lv) = true)
  | 0, _, _, h1, h2 => absurd h2 (by omega)
  | m + 1, k, Z, h1, h2 => by
    show imF v lv m (k + 1) (imZ Z v lv k) 0 x = _
    by_cases e : x = k
    · subst e
      rw [imF_out (by omega)]
      unfold imZ
      rw [tS_self, pk_us]
    · exact imF_at (by omega) (by omega)
theorem ZV_im {Z : Nat → Nat → Int32} {lv n B : Nat} (hl : lv ≤ n) (hn : n ≤ lv + 9) (hB : B < 512) : ZV (imF (nI B) lv (n - lv) lv Z) lv n B := fun k h1 h2 => by
  rw [imF_at h1 (by omega), onM_is B hB _ (by omega)]
theorem ZV_set {Z : Nat → Nat → Int32} {lv n V j : Nat} {on : Bool} (h : ZV Z lv n V) (hj : lv ≤ j) : ZV (tS Z 0 (upd (Z 0) j (xb (on = true)))) lv n (setN V (j - lv) on) := fun k h1 h2 => by
  rw [tS_self, setN_bit]
  by_cases e : k = j
  · subst e; rw [pk_us, if_pos rfl]
  · rw [pk_un e, if_neg (by omega)]; exact h k h1 h2
/-! parents as options -/
def pO (T : Nat → Nat → Int32) (k : Nat) : Option Nat := if T 2 k = -1 then none else some (T 2 k).toBitVec.toNat
theorem pO_is (T : Nat → Nat → Int32) (k : Nat) : T 2 k = oI (pO T k) := by
  unfold pO
  by_cases h : T 2 k = -1
  · rw [if_pos h]; exact h
  · rw [if_neg h]
    show T 2 k = nI (T 2 k).toBitVec.toNat
    refine Int32.toBitVec_inj.mp ?_
    show (T 2 k).toBitVec = BitVec.ofNat 32 (T 2 k).toBitVec.toNat
    simp
theorem pO_none {T : Nat → Nat → Int32} {k : Nat} (h : T 2 k = -1) : pO T k = none := if_pos h
theorem pO_some {T : Nat → Nat → Int32} {k m : Nat} (h : T 2 k = nI m) (hm : m < 1000) : pO T k = some m := by
  unfold pO
  rw [if_neg (by rw [h]; exact nI_m1 hm), h, pk_tn (by omega)]
