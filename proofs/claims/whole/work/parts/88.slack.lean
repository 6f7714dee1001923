/-! delays and slacks, without overflow -/
def FB (F : Nat → Int32) : Prop := (0 ≤ (F 7).toInt ∧ (F 7).toInt ≤ 20) ∧ (0 ≤ (F 8).toInt ∧ (F 8).toInt ≤ 20) ∧ (0 ≤ (F 9).toInt ∧ (F 9).toInt ≤ 1000000) ∧ (0 ≤ (F 10).toInt ∧ (F 10).toInt ≤ 1000) ∧ (0 ≤ (F 11).toInt ∧ (F 11).toInt ≤ 1000000000)
theorem mulb {a b A B : Int} (h1 : 0 ≤ a) (h2 : a ≤ A) (h3 : 0 ≤ b) (h4 : b ≤ B) : 0 ≤ a * b ∧ a * b ≤ A * B := ⟨Int.mul_nonneg h1 h3, Int.mul_le_mul h2 h4 h3 (Int.le_trans h1 h2)⟩
theorem i6_c1 : (1024 : Int64).toInt = 1024 := by decide
theorem i6_c2 : (1048576 : Int64).toInt = 1048576 := by decide
theorem i6_c3 : (2 : Int64).toInt = 2 := by decide
theorem i6_c0 : (0 : Int64).toInt = 0 := by decide
section
variable {S T : Nat → Nat → Int32} {F : Nat → Int32} {lc rc w : Nat → Nat} {lv n V : Nat} {L L' : Nat → Nat → Int64}
theorem cap_int (hF : FB F) {k : Nat} (hT : 0 ≤ (T 8 k).toInt ∧ (T 8 k).toInt ≤ 409600) : 0 ≤ (capL F T k).toInt ∧ (capL F T k).toInt ≤ 8192000 := by
  have h := mulb hF.2.1.1 hF.2.1.2 hT.1 hT.2
  have e : (capL F T k).toInt = (F 8).toInt * (T 8 k).toInt := by
    unfold capL
    rw [i6_mul (by rw [Int32.toInt_toInt64, Int32.toInt_toInt64]; omega) (by rw [Int32.toInt_toInt64, Int32.toInt_toInt64]; omega), Int32.toInt_toInt64, Int32.toInt_toInt64]
  rw [e]
  omega
theorem wd_int (hF : FB F) {k : Nat} (hT : 0 ≤ (T 8 k).toInt ∧ (T 8 k).toInt ≤ 409600) (h1 : 0 ≤ (L 1 k).toInt ∧ (L 1 k).toInt ≤ 19456000000) : 0 ≤ (wdL F T L k).toInt ∧ (wdL F T L k).toInt ≤ 318834212864000000 := by
  have hc := cap_int hF hT
  have h := mulb hF.1.1 hF.1.2 hT.1 hT.2
  have e : ((F 7).toInt64 * (T 8 k).toInt64).toInt = (F 7).toInt * (T 8 k).toInt := by
    rw [i6_mul (by rw [Int32.toInt_toInt64, Int32.toInt_toInt64]; omega) (by rw [Int32.toInt_toInt64, Int32.toInt_toInt64]; omega), Int32.toInt_toInt64, Int32.toInt_toInt64]
  have e2 : (2 * L 1 k).toInt = 2 * (L 1 k).toInt := by rw [i6_mul (by rw [i6_c3]; omega) (by rw [i6_c3]; omega), i6_c3]
  have e3 : (capL F T k + 2 * L 1 k).toInt = (capL F T k).toInt + 2 * (L 1 k).toInt := by rw [i6_add (by rw [e2]; omega) (by rw [e2]; omega), e2]
  have g := mulb (a := (F 7).toInt * (T 8 k).toInt) (A := 8192000) (b := (capL F T k).toInt + 2 * (L 1 k).toInt) (B := 38920192000) h.1 (by omega) (by omega) (by omega)
  have e4 : (wdL F T L k).toInt = ((F 7).toInt * (T 8 k).toInt) * ((capL F T k).toInt + 2 * (L 1 k).toInt) := by
    unfold wdL
    rw [i6_mul (by rw [e, e3]; omega) (by rw [e, e3]; omega), e, e3]
  rw [e4]
  omega
theorem bd_int (hF : FB F) {k : Nat} (h1 : 0 ≤ (L 0 k).toInt ∧ (L 0 k).toInt ≤ 19456000000) : 0 ≤ (bdL F L k).toInt ∧ (bdL F L k).toInt ≤ 38913000000000 := by
  have f10 := hF.2.2.2.1
  have f11 := hF.2.2.2.2
  have e2 : (2 * (F 10).toInt64).toInt = 2 * (F 10).toInt := by rw [i6_mul (by rw [i6_c3, Int32.toInt_toInt64]; omega) (by rw [i6_c3, Int32.toInt_toInt64]; omega), i6_c3, Int32.toInt_toInt64]
  have g := mulb (a := 2 * (F 10).toInt) (A := 2000) (b := (L 0 k).toInt) (B := 19456000000) (by omega) (by omega) h1.1 h1.2
  have e3 : (2 * (F 10).toInt64 * L 0 k).toInt = 2 * (F 10).toInt * (L 0 k).toInt := by rw [i6_mul (by rw [e2]; omega) (by rw [e2]; omega), e2]
  have e4 : (bdL F L k).toInt = (F 11).toInt + 2 * (F 10).toInt * (L 0 k).toInt := by
    unfold bdL
    rw [i6_add (by rw [e3, Int32.toInt_toInt64]; omega) (by rw [e3, Int32.toInt_toInt64]; omega), e3, Int32.toInt_toInt64]
  rw [e4]
  omega
theorem load_int (hb : BT T lc rc w lv n) (hS : SB S) (hF : FB F) (a : So S F T lc rc lv V L n) : ∀ k, k < n → (0 ≤ (L 0 k).toInt ∧ (L 0 k).toInt ≤ (2 * (w k : Int) - 1) * 1024000000) ∧ (0 ≤ (L 1 k).toInt ∧ (L 1 k).toInt ≤ (2 * (w k : Int) - 1) * 1024000000) := by
  intro k
  induction k using Nat.strongRecOn with
  | _ k ih =>
    intro hk
    obtain ⟨b1, b2, b3, b4, b5, b6, b7, b8⟩ := hb
    have f9 := hF.2.2.1
    have hw := b4 k hk
    by_cases e : k < lv
    · obtain ⟨a1, a2⟩ := (a k hk).1 e
      have s2 := (hS k).2.2.1
      have e1 : (1024 * (S 2 k).toInt64).toInt = 1024 * (S 2 k).toInt := by rw [i6_mul (by rw [i6_c1, Int32.toInt_toInt64]; omega) (by rw [i6_c1, Int32.toInt_toInt64]; omega), i6_c1, Int32.toInt_toInt64]
      rw [a1, a2, e1, b3 k e]
      omega
    · obtain ⟨a1, a2⟩ := (a k hk).2 (by omega)
      obtain ⟨c1, c2, -, -, -, -, c7⟩ := b1 k (by omega) hk
      have i1 := (ih _ c1 (by omega)).2
      have i2 := (ih _ c2 (by omega)).2
      have k1 := cap_int hF (b5 (lc k) (by omega))
      have k2 := cap_int hF (b5 (rc k) (by omega))
      have w1 := b4 (lc k) (by omega)
      have w2 := b4 (rc k) (by omega)
      have e1 : (L 1 (lc k) + capL F T (lc k)).toInt = (L 1 (lc k)).toInt + (capL F T (lc k)).toInt := i6_add (by omega) (by omega)
      have e2 : (L 1 (lc k) + capL F T (lc k) + L 1 (rc k)).toInt = (L 1 (lc k)).toInt + (capL F T (lc k)).toInt + (L 1 (rc k)).toInt := by rw [i6_add (by rw [e1]; omega) (by rw [e1]; omega), e1]
      have e3 : (L 0 k).toInt = (L 1 (lc k)).toInt + (capL F T (lc k)).toInt + (L 1 (rc k)).toInt + (capL F T (rc k)).toInt := by
        rw [a1]
        unfold nbL
        rw [i6_add (by rw [e2]; omega) (by rw [e2]; omega), e2]
      have g0 : 0 ≤ (L 0 k).toInt ∧ (L 0 k).toInt ≤ (2 * (w k : Int) - 1) * 1024000000 := by rw [e3, c7]; omega
      refine ⟨g0, ?_⟩
      rw [a2]
      split
      · have e9 : (1024 * (F 9).toInt64).toInt = 1024 * (F 9).toInt := by rw [i6_mul (by rw [i6_c1, Int32.toInt_toInt64]; omega) (by rw [i6_c1, Int32.toInt_toInt64]; omega), i6_c1, Int32.toInt_toInt64]
        rw [e9]; omega
      · exact g0
theorem load_le (hb : BT T lc rc w lv n) (hS : SB S) (hF : FB F) (a : So S F T lc rc lv V L n) {k : Nat} (hk : k < n) : (0 ≤ (L 0 k).toInt ∧ (L 0 k).toInt ≤ 19456000000) ∧ (0 ≤ (L 1 k).toInt ∧ (L 1 k).toInt ≤ 19456000000) := by
  have h := load_int hb hS hF a k hk
  have hw := hb.2.2.2.1 k hk
  have h10 := hb.2.2.2.2.2.2.2
  omega
def bfL (F : Nat → Int32) (L : Nat → Nat → Int64) (lv V k : Nat) : Int64 := if V.testBit (k - lv) = true then bdL F L k else 0
theorem bf_int (hF : FB F) {k : Nat} (h1 : 0 ≤ (L 0 k).toInt ∧ (L 0 k).toInt ≤ 19456000000) : 0 ≤ (bfL F L lv V k).toInt ∧ (bfL F L lv V k).toInt ≤ 38913000000000 := by
  unfold bfL
  split
  · exact bd_int hF h1
  · rw [i6_c0]; omega
def hh (lv k : Nat) : Int := if k < lv then 1 else (k : Int) - lv + 2
theorem hh_lt {k p : Nat} (h : k < p) (hp : lv ≤ p) : hh lv k + 1 ≤ hh lv p := by
  unfold hh
  split <;> split <;> omega
theorem hh_le (hb : BT T lc rc w lv n) {k : Nat} (hk : k < n) : 1 ≤ hh lv k ∧ hh lv k ≤ 10 := by
  have := hb.2.2.2.2.2
  unfold hh
  split <;> omega
/-- slack above a node, as a number -/
theorem sl_int (hb : BT T lc rc w lv n) (hS : SB S) (hF : FB F) (a : So S F T lc rc lv V L n) (b : Sl S F T lc rc lv V L n) : ∀ k, k < n → (-(hh lv k) * 318873125864000000 ≤ (slL F T L k).toInt ∧ (slL F T L k).toInt ≤ 1048576000000000) ∧ (k < lv → (slL F T L k).toInt = 1048576 * (S 3 k).toInt - (wdL F T L k).toInt) ∧
    (lv ≤ k → (slL F T L k).toInt = min (slL F T L (lc k)).toInt (slL F T L (rc k)).toInt - (bfL F L lv V k).toInt - (wdL F T L k).toInt) := by
  intro k
  induction k using Nat.strongRecOn with
  | _ k ih =>
    intro hk
    have ll := load_le hb hS hF a hk
    have hwd := wd_int hF (hb.2.2.2.2.1 k hk) ll.2
    have hbf := bf_int (lv := lv) (V := V) hF ll.1
    have hhk := hh_le hb hk
    by_cases e : k < lv
    · have a1 := (b k hk).1 e
      have s3 := (hS k).2.2.2
      have e1 : (1048576 * (S 3 k).toInt64).toInt = 1048576 * (S 3 k).toInt := by rw [i6_mul (by rw [i6_c2, Int32.toInt_toInt64]; omega) (by rw [i6_c2, Int32.toInt_toInt64]; omega), i6_c2, Int32.toInt_toInt64]
      have e2 : (slL F T L k).toInt = 1048576 * (S 3 k).toInt - (wdL F T L k).toInt := by
        unfold slL
        rw [i6_sub (by rw [a1, e1]; omega) (by rw [a1, e1]; omega), a1, e1]
      refine ⟨?_, fun _ => e2, fun q => absurd e (by omega)⟩
      rw [e2]
      omega
    · obtain ⟨c1, c2, -⟩ := hb.1 k (by omega) hk
      have a1 := (b k hk).2 (by omega)
      have i1 := (ih _ c1 (by omega)).1
      have i2 := (ih _ c2 (by omega)).1
      have h1 := hh_lt (lv := lv) c1 (by omega)
      have h2 := hh_lt (lv := lv) c2 (by omega)
      have h3 := hh_le hb (show lc k < n by omega)
      have h4 := hh_le hb (show rc k < n by omega)
      have a1 : L 2 k = lmin (slL F T L (lc k)) (slL F T L (rc k)) - bfL F L lv V k := a1
      have e1 : (L 2 k).toInt = min (slL F T L (lc k)).toInt (slL F T L (rc k)).toInt - (bfL F L lv V k).toInt := by
        rw [a1, i6_sub (by rw [i6_min]; omega) (by rw [i6_min]; omega), i6_min]
      have e2 : (slL F T L k).toInt = min (slL F T L (lc k)).toInt (slL F T L (rc k)).toInt - (bfL F L lv V k).toInt - (wdL F T L k).toInt := by
        show (L 2 k - wdL F T L k).toInt = _
        rw [i6_sub (by rw [e1]; omega) (by rw [e1]; omega), e1]
      refine ⟨?_, fun q => absurd q e, fun _ => e2⟩
      rw [e2]
      omega
/-! the model's way up -/
theorem dmK_j (hV : V < 512) {k : Nat} (hk : lv ≤ k) (h9 : k < lv + 9) (x : Int64) : dmK F T L lv (nI V) k x = x + wdL F T L k + bfL F L lv V k := by
  unfold dmK bfL bdL
  rw [onM_is V hV _ (by omega)]
  by_cases h : V.testBit (k - lv) = true
  · rw [if_pos ⟨hk, h⟩, if_pos h, Int64.add_assoc (x + wdL F T L k)]
  · rw [if_neg (fun q => h q.2), if_neg h, Int64.add_zero]
theorem dmK_s {k : Nat} (hk : k < lv) (v : Int32) (x : Int64) : dmK F T L lv v k x = x + wdL F T L k := by
  unfold dmK
  rw [if_neg (fun q => absurd q.1 (by omega))]
theorem dm_congr (hb : BT T lc rc w lv n) (hs : ∀ k, k < n → L 0 k = L' 0 k ∧ L 1 k = L' 1 k) (v : Int32) : ∀ {N : Nat} {o : Option Nat} {x : Int64}, (∀ k, o = some k → k < n) → dmF F T L (pO T) lv v N o x = dmF F T L' (pO T) lv v N o x
  | 0, _, _, _ => rfl
  | N + 1, none, _, _ => rfl
  | N + 1, some k, x, h => by
    have hk := h k rfl
    show dmF F T L (pO T) lv v N (pO T k) (dmK F T L lv v k x) = dmF F T L' (pO T) lv v N (pO T k) (dmK F T L' lv v k x)
    have e : dmK F T L lv v k x = dmK F T L' lv v k x := by
      unfold dmK wdL
      rw [(hs k hk).1, (hs k hk).2]
    rw [e]
    refine dm_congr hb hs v (fun m hm => ?_)
    rcases BT_po hb hk with ⟨-, q2⟩ | ⟨p, q1, q2, q3, q4, q5, -⟩
    · rw [q2] at hm; cases hm
    · rw [q5] at hm; cases hm; exact q3
theorem dl_is (hb : BT T lc rc w lv n) (hV : V < 512) : ∀ {m j q N : Nat} {x : Int64}, j + m = n → lv ≤ j → q < n → (∀ p, pO T q = some p → j ≤ p) → m < N → dlF F T L lv (nI V) m j q x = dmF F T L (pO T) lv (nI V) N (pO T q) x
  | 0, j, q, 0, x, _, _, _, _, hN => absurd hN (by omega)
  | 0, j, q, N + 1, x, hj, hl, hq, hp, hN => by
    rcases BT_po hb hq with ⟨q1, q2⟩ | ⟨p, q1, q2, q3, q4, q5, -⟩
    · rw [q2]; rfl
    · have := hp p q5; omega
  | m + 1, j, q, 0, x, _, _, _, _, hN => absurd hN (by omega)
  | m + 1, j, q, N + 1, x, hj, hl, hq, hp, hN => by
    have hn := hb.2.2.2.2.2
    show (if T 2 q = nI j then dlF F T L lv (nI V) m (j + 1) j (x + wdL F T L j + (if nI V &&& bitI (j - lv) = 0 then 0 else bdL F L j)) else dlF F T L lv (nI V) m (j + 1) q x) = _
    rcases BT_po hb hq with ⟨q1, q2⟩ | ⟨p, q1, q2, q3, q4, q5, -⟩
    · have hne : ¬ T 2 q = nI j := fun z => by
        rw [pO_some z (by omega)] at q2; cases q2
      rw [if_neg hne, dl_is hb hV (N := N + 1) (by omega) (by omega) hq (fun p z => by rw [q2] at z; cases z) (by omega)]
    · by_cases e : p = j
      · subst e
        have eb : (if nI V &&& bitI (p - lv) = 0 then (0 : Int64) else bdL F L p) = bfL F L lv V p := by
          have hB := hasB_is V hV (p - lv) (by omega)
          unfold bfL
          rw [← hB]
          unfold hasB
          by_cases hz : nI V &&& bitI (p - lv) = 0
          · rw [if_pos hz, if_neg (show ¬ (decide (¬ nI V &&& bitI (p - lv) = 0) = true) from fun q => of_decide_eq_true q hz)]
          · rw [if_neg hz, if_pos (decide_eq_true hz)]
        rw [if_pos q4, q5, eb]
        show _ = dmF F T L (pO T) lv (nI V) N (pO T p) (dmK F T L lv (nI V) p x)
        rw [dmK_j hV hl (by omega)]
        exact dl_is hb hV (by omega) (by omega) q3 (fun p2 z => by
          rcases BT_po hb q3 with ⟨a1, a2⟩ | ⟨p3, a1, a2, a3, a4, a5, -⟩
          · rw [a2] at z; cases z
          · rw [a5] at z; cases z; omega) (by omega)
      · have hne : ¬ T 2 q = nI j := fun z => e (nI_inj (by omega) (by omega) (q4.symm.trans z))
        have := hp p q5
        rw [if_neg hne, dl_is hb hV (N := N + 1) (by omega) (by omega) hq (fun p2 z => by rw [q5] at z; cases z; omega) (by omega)]
/-- the class's delay is the model's -/
theorem delay_ok (hb : BT T lc rc w lv n) (hV : V < 512) (hs : ∀ k, k < n → L 0 k = L' 0 k ∧ L 1 k = L' 1 k) {k N : Nat} (hk : k < lv) (hN : n - lv < N) : dlF F T L lv (nI V) (n - lv) lv k (wdL F T L k) = dmF F T L' (pO T) lv (nI V) (N + 1) (some k) 0 := by
  have hn := hb.2.2.2.2.2
  rw [← dm_congr (F := F) hb hs (nI V) (fun m hm => by cases hm; omega)]
  show _ = dmF F T L (pO T) lv (nI V) N (pO T k) (dmK F T L lv (nI V) k 0)
  rw [dmK_s hk, Int64.zero_add]
  have hp : ∀ p, pO T k = some p → lv ≤ p := fun p z => by
    rcases BT_po hb (show k < n by omega) with ⟨a1, a2⟩ | ⟨p3, a1, a2, a3, a4, a5, -⟩
    · rw [a2] at z; cases z
    · rw [a5] at z; cases z; exact a2
  exact dl_is hb hV (by omega) (Nat.le_refl _) (by omega) hp hN
/-- no way up is shorter than the class's slack says -/
theorem up_le (hb : BT T lc rc w lv n) (hS : SB S) (hF : FB F) (hV : V < 512) (a : So S F T lc rc lv V L n) (b : Sl S F T lc rc lv V L n) : ∀ {N k : Nat} {x : Int64}, k < n → n ≤ k + N + 1 → 0 ≤ x.toInt → x.toInt ≤ hh lv k * 318873125864000000 →
    (dmF F T L (pO T) lv (nI V) N (pO T k) x).toInt - x.toInt + (slL F T L (n - 1)).toInt ≤ (slL F T L k).toInt ∧ 0 ≤ (dmF F T L (pO T) lv (nI V) N (pO T k) x).toInt ∧ (dmF F T L (pO T) lv (nI V) N (pO T k) x).toInt ≤ 3188731258640000000
  | N, k, x, hk, hN, h0, h1 => by
    have hhk := hh_le hb hk
    rcases BT_po hb hk with ⟨q1, q2⟩ | ⟨p, q1, q2, q3, q4, q5, q6⟩
    · rw [q2]
      have e : dmF F T L (pO T) lv (nI V) N none x = x := by cases N <;> rfl
      rw [e, show n - 1 = k by omega]
      omega
    · cases N with
      | zero => omega
      | succ N =>
        have hn := hb.2.2.2.2.2
        have ll := load_le hb hS hF a q3
        have hwd := wd_int hF (hb.2.2.2.2.1 p q3) ll.2
        have hbf := bf_int (lv := lv) (V := V) hF ll.1
        have hlt := hh_lt (lv := lv) q1 q2
        have hhp := hh_le hb q3
        have e1 : (x + wdL F T L p).toInt = x.toInt + (wdL F T L p).toInt := i6_add (by omega) (by omega)
        have e2 : (x + wdL F T L p + bfL F L lv V p).toInt = x.toInt + (wdL F T L p).toInt + (bfL F L lv V p).toInt := by rw [i6_add (by rw [e1]; omega) (by rw [e1]; omega), e1]
        rw [q5]
        show (dmF F T L (pO T) lv (nI V) N (pO T p) (dmK F T L lv (nI V) p x)).toInt - x.toInt + _ ≤ _ ∧ 0 ≤ (dmF F T L (pO T) lv (nI V) N (pO T p) (dmK F T L lv (nI V) p x)).toInt ∧ (dmF F T L (pO T) lv (nI V) N (pO T p) (dmK F T L lv (nI V) p x)).toInt ≤ _
        rw [dmK_j hV q2 (by omega)]
        obtain ⟨i1, i2, i3⟩ := up_le hb hS hF hV a b (N := N) (k := p) (x := x + wdL F T L p + bfL F L lv V p) q3 (by omega) (by rw [e2]; omega) (by rw [e2]; omega)
        have s1 := (sl_int hb hS hF a b p q3).2.2 q2
        rw [e2] at i1
        refine ⟨?_, i2, i3⟩
        rcases q6 with q6 | q6
        · rw [← q6] at s1; omega
        · rw [← q6] at s1; omega
/-- one way up is as long as it says -/
theorem up_eq (hb : BT T lc rc w lv n) (hS : SB S) (hF : FB F) (hV : V < 512) (a : So S F T lc rc lv V L n) (b : Sl S F T lc rc lv V L n) {M : Nat} (hM : n ≤ M) : ∀ k, k < n → ∃ (s N : Nat) (x : Int64), s < lv ∧ dmF F T L (pO T) lv (nI V) (M + 1) (some s) 0 = dmF F T L (pO T) lv (nI V) N (pO T k) x ∧ n ≤ k + N + 1 ∧ (slL F T L k).toInt = 1048576 * (S 3 s).toInt - x.toInt ∧ 0 ≤ x.toInt ∧ x.toInt ≤ hh lv k * 318873125864000000 := by
  intro k
  induction k using Nat.strongRecOn with
  | _ k ih =>
    intro hk
    have hn := hb.2.2.2.2.2
    have ll := load_le hb hS hF a hk
    have hwd := wd_int hF (hb.2.2.2.2.1 k hk) ll.2
    have hbf := bf_int (lv := lv) (V := V) hF ll.1
    have hhk := hh_le hb hk
    have hs := sl_int hb hS hF a b k hk
    by_cases e : k < lv
    · refine ⟨k, M, wdL F T L k, e, ?_, by omega, hs.2.1 e, by omega, by omega⟩
      show dmF F T L (pO T) lv (nI V) M (pO T k) (dmK F T L lv (nI V) k 0) = _
      rw [dmK_s e, Int64.zero_add]
    · obtain ⟨c1, c2, -, -, c5, c6, -⟩ := hb.1 k (by omega) hk
      have s1 := hs.2.2 (by omega)
      have pick : ∃ c, c < k ∧ T 2 c = nI k ∧ (slL F T L k).toInt = (slL F T L c).toInt - (bfL F L lv V k).toInt - (wdL F T L k).toInt := by
        by_cases q : (slL F T L (lc k)).toInt ≤ (slL F T L (rc k)).toInt
        · exact ⟨lc k, c1, c5, by omega⟩
        · exact ⟨rc k, c2, c6, by omega⟩
      obtain ⟨c, d1, d2, d3⟩ := pick
      obtain ⟨s, N, x, i1, i2, i3, i4, i5, i6⟩ := ih c d1 (by omega)
      have hlt := hh_lt (lv := lv) d1 (by omega)
      have hhc := hh_le hb (show c < n by omega)
      cases N with
      | zero => omega
      | succ N =>
        have e1 : (x + wdL F T L k).toInt = x.toInt + (wdL F T L k).toInt := i6_add (by omega) (by omega)
        have e2 : (x + wdL F T L k + bfL F L lv V k).toInt = x.toInt + (wdL F T L k).toInt + (bfL F L lv V k).toInt := by rw [i6_add (by rw [e1]; omega) (by rw [e1]; omega), e1]
        refine ⟨s, N, x + wdL F T L k + bfL F L lv V k, i1, ?_, by omega, by rw [e2]; omega, by rw [e2]; omega, by rw [e2]; omega⟩
        rw [i2, pO_some d2 (by omega)]
        show dmF F T L (pO T) lv (nI V) N (pO T k) (dmK F T L lv (nI V) k x) = _
        rw [dmK_j hV (by omega) (by omega)]
theorem sf_ok {po : Nat → Option Nat} {N : Nat} {v : Int32} : ∀ {m k : Nat} {x : Int64}, 1 ≤ k + m → (k = 0 ∨ ((∀ i, i < k → x ≤ dsM S F T L po lv N v i) ∧ ∃ i, i < k ∧ x = dsM S F T L po lv N v i)) → (∀ i, i < k + m → sfM S F T L po lv N v m k x ≤ dsM S F T L po lv N v i) ∧ ∃ i, i < k + m ∧ sfM S F T L po lv N v m k x = dsM S F T L po lv N v i
  | 0, k, x, h1, h => by
    rcases h with h | h
    · omega
    · exact h
  | m + 1, k, x, h1, h => by
    show (∀ i, i < k + (m + 1) → sfM S F T L po lv N v m (k + 1) (if k = 0 ∨ dsM S F T L po lv N v k < x then dsM S F T L po lv N v k else x) ≤ _) ∧ ∃ i, i < k + (m + 1) ∧ sfM S F T L po lv N v m (k + 1) (if k = 0 ∨ dsM S F T L po lv N v k < x then dsM S F T L po lv N v k else x) = _
    rw [show k + (m + 1) = k + 1 + m by omega]
    refine sf_ok (by omega) (Or.inr ?_)
    by_cases hc : k = 0 ∨ dsM S F T L po lv N v k < x
    · rw [if_pos hc]
      refine ⟨fun i hi => ?_, k, by omega, rfl⟩
      by_cases e : i = k
      · rw [e]; exact Int64.le_refl _
      · rcases h with h | ⟨h, -⟩
        · omega
        · rcases hc with hc | hc
          · omega
          · exact Int64.le_trans (Int64.le_of_lt hc) (h i (by omega))
    · rw [if_neg hc]
      rcases h with h | ⟨h, j, h2, h3⟩
      · exact absurd (Or.inl h) hc
      · refine ⟨fun i hi => ?_, j, by omega, h3⟩
        by_cases e : i = k
        · rw [e]; exact Int64.not_lt.mp (fun q => hc (Or.inr q))
        · exact h i (by omega)
/-- the class's slack is the model's -/
theorem slack_ok (hb : BT T lc rc w lv n) (hS : SB S) (hF : FB F) (hV : V < 512) (a : So S F T lc rc lv V L n) (b : Sl S F T lc rc lv V L n) (hs : ∀ k, k < n → L 0 k = L' 0 k ∧ L 1 k = L' 1 k) {M : Nat} (hM : n ≤ M) : slL F T L (n - 1) = sfM S F T L' (pO T) lv (M + 1) (nI V) lv 0 0 := by
  have hn := hb.2.2.2.2.2
  have hds : ∀ k, k < lv → (dsM S F T L' (pO T) lv (M + 1) (nI V) k).toInt = 1048576 * (S 3 k).toInt - (dmF F T L (pO T) lv (nI V) (M + 1) (some k) 0).toInt ∧ (slL F T L (n - 1)).toInt ≤ 1048576 * (S 3 k).toInt - (dmF F T L (pO T) lv (nI V) (M + 1) (some k) 0).toInt := by
    intro k hk
    have hk2 : k < n := by omega
    have s3 := (hS k).2.2.2
    have ll := load_le hb hS hF a hk2
    have hwd := wd_int hF (hb.2.2.2.2.1 k hk2) ll.2
    have h1 : hh lv k = 1 := if_pos hk
    have e0 : dmF F T L (pO T) lv (nI V) (M + 1) (some k) 0 = dmF F T L (pO T) lv (nI V) M (pO T k) (wdL F T L k) := by
      show dmF F T L (pO T) lv (nI V) M (pO T k) (dmK F T L lv (nI V) k 0) = _
      rw [dmK_s hk, Int64.zero_add]
    obtain ⟨u1, u2, u3⟩ := up_le hb hS hF hV a b (N := M) (k := k) (x := wdL F T L k) hk2 (by omega) hwd.1 (by rw [h1]; omega)
    have s1 := (sl_int hb hS hF a b k hk2).2.1 hk
    have e1 : (1048576 * (S 3 k).toInt64).toInt = 1048576 * (S 3 k).toInt := by rw [i6_mul (by rw [i6_c2, Int32.toInt_toInt64]; omega) (by rw [i6_c2, Int32.toInt_toInt64]; omega), i6_c2, Int32.toInt_toInt64]
    rw [e0]
    refine ⟨?_, by omega⟩
    unfold dsM
    rw [← dm_congr (F := F) hb hs (nI V) (fun m hm => by cases hm; omega), e0, i6_sub (by rw [e1]; omega) (by rw [e1]; omega), e1]
  obtain ⟨f1, i, f2, f3⟩ := sf_ok (S := S) (F := F) (T := T) (L := L') (lv := lv) (po := pO T) (N := M + 1) (v := nI V) (m := lv) (k := 0) (x := 0) (by omega) (Or.inl rfl)
  obtain ⟨s, N, x, g1, g2, g3, g4, g5, g6⟩ := up_eq hb hS hF hV a b hM (n - 1) (by omega)
  have root : dmF F T L (pO T) lv (nI V) N (pO T (n - 1)) x = x := by
    rcases BT_po hb (show n - 1 < n by omega) with ⟨-, q2⟩ | ⟨p, q1, q2, q3, -⟩
    · rw [q2]; cases N <;> rfl
    · omega
  rw [root] at g2
  have k1 := hds s g1
  have k2 := f1 s (by omega)
  have k3 := hds i (by omega)
  rw [g2] at k1
  rw [Int64.le_iff_toInt_le, k1.1] at k2
  rw [f3, k3.1] at k2
  refine Int64.toInt_inj.mp ?_
  rw [f3, k3.1]
  omega
end
