/-! the tree: each node joined once, weights, bounds -/
def fs (T : Nat → Nat → Int32) (w : Nat → Nat) : Nat → Nat
  | 0 => 0
  | n + 1 => fs T w n + (if T 2 n = -1 then w n else 0)
theorem fs_ge1 {T : Nat → Nat → Int32} {w : Nat → Nat} {i : Nat} (hf : T 2 i = -1) : ∀ {n : Nat}, i < n → w i ≤ fs T w n
  | 0, h => absurd h (Nat.not_lt_zero _)
  | n + 1, h => by
    unfold fs
    by_cases e : i = n
    · subst e; rw [if_pos hf]; omega
    · have := fs_ge1 (w := w) hf (n := n) (by omega)
      omega
theorem fs_ge2 {T : Nat → Nat → Int32} {w : Nat → Nat} {i j : Nat} (hi : T 2 i = -1) (hj : T 2 j = -1) (hij : i ≠ j) : ∀ {n : Nat}, i < n → j < n → w i + w j ≤ fs T w n
  | 0, h, _ => absurd h (Nat.not_lt_zero _)
  | n + 1, h, h2 => by
    unfold fs
    by_cases e : i = n
    · have := fs_ge1 (w := w) hj (n := n) (by omega)
      rw [← e, if_pos hi, e]; rw [e] at *; omega
    · by_cases e2 : j = n
      · have := fs_ge1 (w := w) hi (n := n) (by omega)
        rw [← e2, if_pos hj, e2]; rw [e2] at *; omega
      · have := fs_ge2 (w := w) hi hj hij (n := n) (by omega) (by omega)
        omega
theorem fs_del {T T' : Nat → Nat → Int32} {w w' : Nat → Nat} {i j : Nat} (hi : T 2 i = -1) (hj : T 2 j = -1) (hij : i ≠ j) (hi' : T' 2 i ≠ -1) (hj' : T' 2 j ≠ -1) : ∀ {n : Nat}, (∀ k, k < n → k ≠ i → k ≠ j → T' 2 k = T 2 k) → (∀ k, k < n → w' k = w k) → fs T' w' n + (if i < n then w i else 0) + (if j < n then w j else 0) = fs T w n
  | 0, _, _ => by simp [fs]
  | n + 1, h, hw => by
    have ih := fs_del hi hj hij hi' hj' (n := n) (fun k hk => h k (by omega)) (fun k hk => hw k (by omega))
    unfold fs
    by_cases e : i = n
    · subst e
      rw [if_neg hi', if_pos hi]
      have g1 : ¬ i < i := by omega
      have g2 : i < i + 1 := by omega
      rw [if_neg g1] at ih
      rw [if_pos g2]
      by_cases q : j < i
      · rw [if_pos q] at ih; rw [if_pos (by omega)]; omega
      · rw [if_neg q] at ih; rw [if_neg (by omega)]; omega
    · by_cases e2 : j = n
      · subst e2
        rw [if_neg hj', if_pos hj]
        have g1 : ¬ j < j := by omega
        have g2 : j < j + 1 := by omega
        rw [if_neg g1] at ih
        rw [if_pos g2]
        by_cases q : i < j
        · rw [if_pos q] at ih; rw [if_pos (by omega)]; omega
        · rw [if_neg q] at ih; rw [if_neg (by omega)]; omega
      · rw [h n (by omega) (fun q => e q.symm) (fun q => e2 q.symm), hw n (by omega)]
        have a1 : (if i < n + 1 then w i else 0) = (if i < n then w i else 0) := by
          by_cases q : i < n
          · rw [if_pos q, if_pos (by omega)]
          · rw [if_neg q, if_neg (by omega)]
        have a2 : (if j < n + 1 then w j else 0) = (if j < n then w j else 0) := by
          by_cases q : j < n
          · rw [if_pos q, if_pos (by omega)]
          · rw [if_neg q, if_neg (by omega)]
        rw [a1, a2]
        omega
theorem fs_two {T : Nat → Nat → Int32} : ∀ {n : Nat}, 2 ≤ fs T (fun _ => 1) n → ∃ i j, i < j ∧ j < n ∧ T 2 i = -1 ∧ T 2 j = -1
  | 0, h => absurd h (by unfold fs; omega)
  | n + 1, h => by
    unfold fs at h
    by_cases e : T 2 n = -1
    · rw [if_pos e] at h
      have one : ∀ {m : Nat}, 1 ≤ fs T (fun _ => 1) m → ∃ i, i < m ∧ T 2 i = -1 := by
        intro m
        induction m with
        | zero => intro h; unfold fs at h; omega
        | succ m ih =>
          intro h
          unfold fs at h
          by_cases e : T 2 m = -1
          · exact ⟨m, by omega, e⟩
          · rw [if_neg e] at h
            obtain ⟨i, h1, h2⟩ := ih (by omega)
            exact ⟨i, by omega, h2⟩
      obtain ⟨i, h1, h2⟩ := one (m := n) (by omega)
      exact ⟨i, n, h1, by omega, h2, e⟩
    · rw [if_neg e] at h
      obtain ⟨i, j, h1, h2, h3, h4⟩ := fs_two (n := n) (by omega)
      exact ⟨i, j, h1, by omega, h3, h4⟩
def TI (T : Nat → Nat → Int32) (lc rc w : Nat → Nat) (lv n : Nat) : Prop :=
  (∀ k, k < n → nB T k) ∧
  (∀ k, k < n → T 2 k = -1 ∨ ∃ m, k < m ∧ lv ≤ m ∧ m < n ∧ T 2 k = nI m ∧ (k = lc m ∨ k = rc m)) ∧
  (∀ m, lv ≤ m → m < n → lc m < m ∧ rc m < m ∧ T 0 m = nI (lc m) ∧ T 1 m = nI (rc m) ∧ T 2 (lc m) = nI m ∧ T 2 (rc m) = nI m ∧ w m = w (lc m) + w (rc m)) ∧
  (∀ k, k < lv → w k = 1) ∧
  (∀ k, k < n → 1 ≤ w k ∧ w k ≤ lv) ∧
  (∀ k, k < n → T 2 k ≠ -1 → 0 ≤ (T 8 k).toInt ∧ (T 8 k).toInt ≤ 409600) ∧
  fs T w n = lv ∧ fs T (fun _ => 1) n + n = 2 * lv ∧ lv ≤ n
theorem updN_us {f : Nat → Nat} {k v : Nat} : updN f k v k = v := if_pos rfl
theorem updN_ne {f : Nat → Nat} {k v j : Nat} (h : j ≠ k) : updN f k v j = f j := if_neg h
section
variable {T : Nat → Nat → Int32} {n i j : Nat}
theorem jT2_n (h1 : n ≠ i) (h2 : n ≠ j) : joinT T n i j 2 n = -1 := by
  show upd (upd (upd (T 2) n (-1)) i (nI n)) j (nI n) n = -1
  rw [pk_un h2, pk_un h1, pk_us]
theorem jT2_i (h2 : i ≠ j) : joinT T n i j 2 i = nI n := by
  show upd (upd (upd (T 2) n (-1)) i (nI n)) j (nI n) i = nI n
  rw [pk_un h2, pk_us]
theorem jT2_j : joinT T n i j 2 j = nI n := by
  show upd (upd (upd (T 2) n (-1)) i (nI n)) j (nI n) j = nI n
  rw [pk_us]
theorem jT2_o {k : Nat} (h0 : k ≠ n) (h1 : k ≠ i) (h2 : k ≠ j) : joinT T n i j 2 k = T 2 k := by
  show upd (upd (upd (T 2) n (-1)) i (nI n)) j (nI n) k = T 2 k
  rw [pk_un h2, pk_un h1, pk_un h0]
theorem nB_keep {k : Nat} (h : k ≠ n) (hb : nB T k) : nB (joinT T n i j) k := by
  have e3 : joinT T n i j 3 k = T 3 k := pk_un h
  have e4 : joinT T n i j 4 k = T 4 k := pk_un h
  have e5 : joinT T n i j 5 k = T 5 k := pk_un h
  have e6 : joinT T n i j 6 k = T 6 k := pk_un h
  have e7 : joinT T n i j 7 k = T 7 k := pk_un h
  unfold nB
  rw [e3, e4, e5, e6, e7]
  exact hb
theorem TI_join {lc rc w : Nat → Nat} {lv : Nat} (h : TI T lc rc w lv n) (hn : n < 900) (hi : i < n) (hj : j < n) (hij : i ≠ j) (fi : T 2 i = -1) (fj : T 2 j = -1) :
    TI (joinT T n i j) (updN lc n i) (updN rc n j) (updN w n (w i + w j)) lv (n + 1) := by
  obtain ⟨b, p, c, w1, w2, wr, f1, f2, hl⟩ := h
  have ni : n ≠ i := by omega
  have nj : n ≠ j := by omega
  have wij := fs_ge2 (w := w) fi fj hij hi hj
  have hm1 : nI n ≠ -1 := nI_m1 (by omega)
  have d1 := fs_del (T' := joinT T n i j) (w := w) (w' := updN w n (w i + w j)) fi fj hij (by rw [jT2_i hij]; exact hm1) (by rw [jT2_j]; exact hm1) (n := n) (fun k hk h1 h2 => jT2_o (by omega) h1 h2) (fun k hk => updN_ne (by omega))
  have d2 := fs_del (T' := joinT T n i j) (w := fun _ => 1) (w' := fun _ => 1) fi fj hij (by rw [jT2_i hij]; exact hm1) (by rw [jT2_j]; exact hm1) (n := n) (fun k hk h1 h2 => jT2_o (by omega) h1 h2) (fun k hk => rfl)
  rw [if_pos hi, if_pos hj] at d1 d2
  refine ⟨fun k hk => ?_, fun k hk => ?_, fun m h1 h2 => ?_, fun k hk => ?_, fun k hk => ?_, fun k hk hf => ?_, ?_, ?_, by omega⟩
  · by_cases e : k = n
    · subst e; exact nB_join (b i hi) (b j hj) _
    · exact nB_keep e (b k (by omega))
  · by_cases e : k = n
    · subst e; exact Or.inl (jT2_n ni nj)
    · by_cases e1 : k = i
      · subst e1; exact Or.inr ⟨n, hi, hl, by omega, jT2_i hij, Or.inl updN_us.symm⟩
      · by_cases e2 : k = j
        · subst e2; exact Or.inr ⟨n, hj, hl, by omega, jT2_j, Or.inr updN_us.symm⟩
        · rw [jT2_o e e1 e2]
          rcases p k (by omega) with h | ⟨m, h1, h2, h3, h4, h5⟩
          · exact Or.inl h
          · exact Or.inr ⟨m, h1, h2, by omega, h4, by rw [updN_ne (by omega), updN_ne (by omega)]; exact h5⟩
  · by_cases e : m = n
    · subst e
      have e0 : joinT T m i j 0 m = nI i := pk_us
      have e1 : joinT T m i j 1 m = nI j := pk_us
      rw [updN_us, updN_us, updN_us, updN_ne (by omega), updN_ne (by omega)]
      exact ⟨hi, hj, e0, e1, jT2_i hij, jT2_j, rfl⟩
    · obtain ⟨c1, c2, c3, c4, c5, c6, c7⟩ := c m h1 (by omega)
      have e0 : joinT T n i j 0 m = T 0 m := pk_un e
      have e1 : joinT T n i j 1 m = T 1 m := pk_un e
      have hmm : nI m ≠ -1 := nI_m1 (by omega)
      have q1 : lc m ≠ i := fun z => hmm (by rw [← c5, z]; exact fi)
      have q2 : lc m ≠ j := fun z => hmm (by rw [← c5, z]; exact fj)
      have q3 : rc m ≠ i := fun z => hmm (by rw [← c6, z]; exact fi)
      have q4 : rc m ≠ j := fun z => hmm (by rw [← c6, z]; exact fj)
      rw [updN_ne e, updN_ne e, updN_ne e, updN_ne (by omega), updN_ne (by omega), e0, e1, jT2_o (by omega) q1 q2, jT2_o (by omega) q3 q4]
      exact ⟨c1, c2, c3, c4, c5, c6, c7⟩
  · rw [updN_ne (by omega)]; exact w1 k hk
  · by_cases e : k = n
    · subst e
      rw [updN_us]
      have := w2 i hi
      omega
    · rw [updN_ne e]; exact w2 k (by omega)
  · have e8 : joinT T n i j 8 = upd (upd (T 8) i (wA T i j (dist T i j))) j (wB T i j (dist T i j)) := rfl
    rw [e8]
    by_cases e : k = n
    · subst e; exact absurd (jT2_n ni nj) hf
    · by_cases e2 : k = j
      · subst e2; rw [pk_us]; exact wB_le (b i hi) (b k hj)
      · rw [pk_un e2]
        by_cases e1 : k = i
        · subst e1; rw [pk_us]; exact wA_le (b k hi) (b j hj)
        · rw [pk_un e1]
          exact wr k (by omega) (by rw [jT2_o e e1 e2] at hf; exact hf)
  · unfold fs
    rw [jT2_n ni nj, if_pos rfl, updN_us]
    omega
  · unfold fs
    rw [jT2_n ni nj, if_pos rfl]
    omega
end
