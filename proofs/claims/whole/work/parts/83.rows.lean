/-! rows of sinks: sorted rows are permutations -/
def PR (g g' : Nat → Nat) (f t : Nat) : Prop := ∃ σ : Nat → Nat, (∀ k, g' k = g (σ k)) ∧ (∀ k, f ≤ k → k < t → f ≤ σ k ∧ σ k < t) ∧ (∀ k, ¬ (f ≤ k ∧ k < t) → σ k = k) ∧ ∀ a b, σ a = σ b → a = b
theorem PR.rf {g : Nat → Nat} {f t : Nat} : PR g g f t := ⟨fun k => k, fun _ => rfl, fun _ h1 h2 => ⟨h1, h2⟩, fun _ _ => rfl, fun _ _ h => h⟩
theorem PR.tr {g g1 g2 : Nat → Nat} {f t : Nat} (h1 : PR g g1 f t) (h2 : PR g1 g2 f t) : PR g g2 f t := by
  obtain ⟨s1, a1, b1, c1, d1⟩ := h1
  obtain ⟨s2, a2, b2, c2, d2⟩ := h2
  refine ⟨fun k => s1 (s2 k), fun k => by rw [a2, a1], fun k h1 h2 => ?_, fun k h => ?_, fun a b h => d2 a b (d1 _ _ h)⟩
  · obtain ⟨q1, q2⟩ := b2 k h1 h2
    exact b1 _ q1 q2
  · show s1 (s2 k) = k
    rw [c2 k h, c1 k h]
theorem PR.wd {g g1 : Nat → Nat} {f t f' t' : Nat} (h1 : PR g g1 f t) (hf : f' ≤ f) (ht : t ≤ t') : PR g g1 f' t' := by
  obtain ⟨s1, a1, b1, c1, d1⟩ := h1
  refine ⟨s1, a1, fun k h1 h2 => ?_, fun k h => c1 k (fun q => h ⟨by omega, by omega⟩), d1⟩
  by_cases q : f ≤ k ∧ k < t
  · have := b1 k q.1 q.2; omega
  · rw [c1 k q]; exact ⟨h1, h2⟩
theorem PR.out {g g1 : Nat → Nat} {f t k : Nat} (h : PR g g1 f t) (hk : ¬ (f ≤ k ∧ k < t)) : g1 k = g k := by
  obtain ⟨s1, a1, b1, c1, d1⟩ := h
  rw [a1, c1 k hk]
theorem PR.into {g g1 : Nat → Nat} {f t k : Nat} (h : PR g g1 f t) (h1 : f ≤ k) (h2 : k < t) : ∃ k', f ≤ k' ∧ k' < t ∧ g1 k = g k' := by
  obtain ⟨s1, a1, b1, c1, d1⟩ := h
  exact ⟨s1 k, (b1 k h1 h2).1, (b1 k h1 h2).2, a1 k⟩
theorem PR.inj {g g1 : Nat → Nat} {f t : Nat} (h : PR g g1 f t) (hi : ∀ a b, f ≤ a → a < t → f ≤ b → b < t → g a = g b → a = b) : ∀ a b, f ≤ a → a < t → f ≤ b → b < t → g1 a = g1 b → a = b := by
  obtain ⟨s1, a1, b1, c1, d1⟩ := h
  intro a b p1 p2 p3 p4 e
  rw [a1, a1] at e
  exact d1 a b (hi _ _ (b1 a p1 p2).1 (b1 a p1 p2).2 (b1 b p3 p4).1 (b1 b p3 p4).2 e)
theorem PR_swap {g : Nat → Nat} {f t q mv : Nat} (h1 : f ≤ q) (h2 : q + 1 < t) : PR (updN g (q + 1) mv) (updN (updN g (q + 1) (g q)) q mv) f t := by
  refine ⟨fun k => if k = q then q + 1 else if k = q + 1 then q else k, fun k => ?_, fun k a b => ?_, fun k h => ?_, fun a b h => ?_⟩
  · by_cases e : k = q
    · simp [e, updN]
    · by_cases e2 : k = q + 1
      · simp [e2, updN]
      · simp [e, e2, updN]
  · show f ≤ (if k = q then q + 1 else if k = q + 1 then q else k) ∧ (if k = q then q + 1 else if k = q + 1 then q else k) < t
    split
    · omega
    · split <;> omega
  · show (if k = q then q + 1 else if k = q + 1 then q else k) = k
    split
    · omega
    · split <;> omega
  · have h : (if a = q then q + 1 else if a = q + 1 then q else a) = (if b = q then q + 1 else if b = q + 1 then q else b) := h
    split at h <;> split at h <;> (try split at h) <;> (try split at h) <;> omega
theorem insF_PR {b : Nat → Nat → Bool} {mv f t : Nat} : ∀ {q : Nat} {g : Nat → Nat}, f ≤ q → q < t → PR (updN g q mv) (insF b mv f q g) f t
  | 0, _, _, _ => PR.rf
  | q + 1, g, h1, h2 => by
    unfold insF
    split
    · rename_i hc
      exact (PR_swap (by omega) h2).tr (insF_PR (q := q) (g := updN g (q + 1) (g q)) (by omega) (by omega))
    · exact PR.rf
theorem updN_id {g : Nat → Nat} {k : Nat} : updN g k (g k) = g := by
  funext j
  unfold updN
  by_cases h : j = k
  · rw [if_pos h, h]
  · rw [if_neg h]
theorem srtF_PR {b : Nat → Nat → Bool} {f t : Nat} : ∀ {n i : Nat} {g : Nat → Nat}, f ≤ i → i + n ≤ t → PR g (srtF b f n i g) f t
  | 0, _, _, _, _ => PR.rf
  | n + 1, i, g, h1, h2 => by
    have h := insF_PR (b := b) (mv := g i) (f := f) (t := t) (q := i) (g := g) h1 (by omega)
    rw [updN_id] at h
    exact h.tr (srtF_PR (n := n) (by omega) (by omega))
theorem rowN_out {x : Nat} : ∀ {n k : Nat} {g : Nat → Nat}, x < k → rowN n k g x = g x
  | 0, _, _, _ => rfl
  | n + 1, k, g, h => by
    show rowN n (k + 1) (updN g k k) x = g x
    rw [rowN_out (by omega), updN_ne (by omega)]
theorem rowN_at {x : Nat} : ∀ {n k : Nat} {g : Nat → Nat}, k ≤ x → x < k + n → rowN n k g x = x
  | 0, _, _, h1, h2 => absurd h2 (by omega)
  | n + 1, k, g, h1, h2 => by
    show rowN n (k + 1) (updN g k k) x = x
    by_cases e : x = k
    · subst e; rw [rowN_out (by omega), updN_us]
    · exact rowN_at (by omega) (by omega)
/-- what joining a part of the row wants -/
def JH (T : Nat → Nat → Int32) (lc rc w : Nat → Nat) (lv n : Nat) (g : Nat → Nat) (f t : Nat) : Prop :=
  TI T lc rc w lv n ∧ f < t ∧ t ≤ lv ∧ lv ≤ 10 ∧ n + (t - f) ≤ 20 ∧ (∀ k, f ≤ k → k < t → g k < lv ∧ T 2 (g k) = -1) ∧ (∀ a b, f ≤ a → a < t → f ≤ b → b < t → g a = g b → a = b) ∧ ∀ k, g k < 10
def JR (T : Nat → Nat → Int32) (lv n : Nat) (g : Nat → Nat) (f t : Nat) (Z : (Nat → Nat → Int32) × Nat × (Nat → Nat) × Nat) : Prop :=
  (∃ lc rc w : Nat → Nat, TI Z.1 lc rc w lv Z.2.1) ∧ Z.2.1 = n + (t - f - 1) ∧ Z.2.2.2 < Z.2.1 ∧ Z.1 2 Z.2.2.2 = -1 ∧ PR g Z.2.2.1 f t ∧ (∀ x, x < n → (∀ k, f ≤ k → k < t → x ≠ g k) → Z.1 2 x = T 2 x) ∧ ((∃ k, f ≤ k ∧ k < t ∧ Z.2.2.2 = g k) ∨ n ≤ Z.2.2.2) ∧ Z.1 11 = T 11 ∧ ∀ k, Z.2.2.1 k < 10
section
variable {T : Nat → Nat → Int32} {lc rc w : Nat → Nat} {lv n : Nat} {g g1 : Nat → Nat} {f t m : Nat}
theorem JR_leaf (h : JH T lc rc w lv n g f t) (ht : t - f < 2) : JR T lv n g f t (T, n, g, g f) := by
  obtain ⟨a1, a2, a3, a4, a5, a6, a7, a8⟩ := h
  have hl : lv ≤ n := a1.2.2.2.2.2.2.2.2
  have := a6 f (Nat.le_refl _) a2
  exact ⟨⟨lc, rc, w, a1⟩, by show n = n + (t - f - 1); omega, by show g f < n; omega, this.2, PR.rf, fun _ _ _ => rfl, Or.inl ⟨f, Nat.le_refl _, a2, rfl⟩, rfl, a8⟩
theorem JH_left (h : JH T lc rc w lv n g f t) (hp : PR g g1 f t) (h10 : ∀ k, g1 k < 10) (hm1 : f < m) (hm2 : m < t) : JH T lc rc w lv n g1 f m := by
  obtain ⟨a1, a2, a3, a4, a5, a6, a7, a8⟩ := h
  refine ⟨a1, hm1, by omega, a4, by omega, fun k h1 h2 => ?_, fun a b p1 p2 p3 p4 => hp.inj a7 a b p1 (by omega) p3 (by omega), h10⟩
  obtain ⟨k', q1, q2, q3⟩ := hp.into h1 (show k < t by omega)
  rw [q3]
  exact a6 k' q1 q2
theorem JH_right (h : JH T lc rc w lv n g f t) (hp : PR g g1 f t) (hm1 : f < m) (hm2 : m < t) {A : (Nat → Nat → Int32) × Nat × (Nat → Nat) × Nat} (hA : JR T lv n g1 f m A) : ∃ lc' rc' w', JH A.1 lc' rc' w' lv A.2.1 A.2.2.1 m t := by
  obtain ⟨a1, a2, a3, a4, a5, a6, a7, a8⟩ := h
  obtain ⟨⟨lc', rc', w', b1⟩, b2, b3, b4, b5, b6, b7, b8, b9⟩ := hA
  have hl : lv ≤ n := a1.2.2.2.2.2.2.2.2
  have out : ∀ k, m ≤ k → k < t → A.2.2.1 k = g1 k := fun k h1 h2 => b5.out (by omega)
  refine ⟨lc', rc', w', b1, hm2, a3, a4, by omega, fun k h1 h2 => ?_, fun a b p1 p2 p3 p4 e => ?_, b9⟩
  · rw [out k h1 h2]
    obtain ⟨k', q1, q2, q3⟩ := hp.into (show f ≤ k by omega) h2
    have q4 := a6 k' q1 q2
    rw [← q3] at q4
    refine ⟨q4.1, ?_⟩
    rw [b6 (g1 k) (by omega) (fun x x1 x2 z => ?_)]
    · exact q4.2
    · have := hp.inj a7 k x (by omega) h2 x1 (by omega) z
      omega
  · rw [out a p1 p2, out b p3 p4] at e
    exact hp.inj a7 a b (by omega) p2 (by omega) p4 e
theorem JR_join (h : JH T lc rc w lv n g f t) (hp : PR g g1 f t) (hm1 : f < m) (hm2 : m < t) {A B : (Nat → Nat → Int32) × Nat × (Nat → Nat) × Nat} (hA : JR T lv n g1 f m A) (hB : JR A.1 lv A.2.1 A.2.2.1 m t B) :
    JR T lv n g f t (joinT B.1 B.2.1 A.2.2.2 B.2.2.2, B.2.1 + 1, B.2.2.1, B.2.1) ∧ A.2.2.2 < 19 ∧ B.2.2.2 < 19 ∧ A.2.2.2 ≠ B.2.2.2 ∧ B.2.1 < 19 := by
  obtain ⟨a1, a2, a3, a4, a5, a6, a7, a8⟩ := h
  obtain ⟨⟨lc', rc', w', b1⟩, b2, b3, b4, b5, b6, b7, b8, b9⟩ := hA
  obtain ⟨⟨lc2, rc2, w2, c1⟩, c2, c3, c4, c5, c6, c7, c8, c9⟩ := hB
  have hl : lv ≤ n := a1.2.2.2.2.2.2.2.2
  have out : ∀ k, m ≤ k → k < t → A.2.2.1 k = g1 k := fun k h1 h2 => b5.out (by omega)
  have glt : ∀ k, f ≤ k → k < t → g1 k < lv := fun k h1 h2 => by
    obtain ⟨k', q1, q2, q3⟩ := hp.into h1 h2
    rw [q3]; exact (a6 k' q1 q2).1
  have ne : ∀ k, m ≤ k → k < t → A.2.2.2 ≠ A.2.2.1 k := fun k h1 h2 z => by
    rw [out k h1 h2] at z
    rcases b7 with ⟨x, x1, x2, x3⟩ | x
    · have := hp.inj a7 x k x1 (by omega) (by omega) h2 (x3.symm.trans z)
      omega
    · have := glt k (by omega) h2
      omega
  have fA : B.1 2 A.2.2.2 = -1 := by rw [c6 _ b3 ne]; exact b4
  have hne : A.2.2.2 ≠ B.2.2.2 := by
    rcases c7 with ⟨x, x1, x2, x3⟩ | x
    · rw [x3]; exact ne x x1 x2
    · omega
  have num : B.2.1 < 900 ∧ A.2.2.2 < B.2.1 ∧ A.2.2.2 < 19 ∧ B.2.2.2 < 19 ∧ B.2.1 < 19 ∧ B.2.1 + 1 = n + (t - f - 1) ∧ n ≤ B.2.1 := by
    clear b7 c7
    omega
  obtain ⟨n1, n2, n3, n4, n5, n6, n7⟩ := num
  have hI := TI_join c1 n1 n2 c3 hne fA c4
  refine ⟨⟨⟨_, _, _, hI⟩, n6, Nat.lt_succ_self _, jT2_n (Nat.ne_of_gt n2) (Nat.ne_of_gt c3), ?_, ?_, ?_, ?_, c9⟩, n3, n4, hne, n5⟩
  · exact hp.tr ((b5.wd (Nat.le_refl _) (by omega)).tr (c5.wd (by omega) (Nat.le_refl _)))
  · intro x hx hk
    have k1 : ∀ k, f ≤ k → k < t → x ≠ g1 k := fun k h1 h2 z => by
      obtain ⟨k', q1, q2, q3⟩ := hp.into h1 h2
      exact hk k' q1 q2 (z.trans q3)
    have xA : x ≠ A.2.2.2 := by
      rcases b7 with ⟨y, y1, y2, y3⟩ | y
      · rw [y3]; exact k1 y y1 (by omega)
      · omega
    have xB : x ≠ B.2.2.2 := by
      rcases c7 with ⟨y, y1, y2, y3⟩ | y
      · rw [y3, out y y1 y2]; exact k1 y (by omega) y2
      · omega
    show joinT B.1 B.2.1 A.2.2.2 B.2.2.2 2 x = T 2 x
    have x1 : x < A.2.1 := by clear b7 c7; omega
    have x2 : x ≠ B.2.1 := by clear b7 c7; omega
    rw [jT2_o x2 xA xB, c6 x x1 (fun k h1 h2 => by rw [out k h1 h2]; exact k1 k (Nat.le_trans (Nat.le_of_lt hm1) h1) h2), b6 x hx (fun k h1 h2 => k1 k h1 (Nat.lt_trans h2 hm2))]
  · exact Or.inr n7
  · show joinT B.1 B.2.1 A.2.2.2 B.2.2.2 11 = T 11
    exact c8.trans b8
end
theorem mid_ok {f t d : Nat} (h : 2 ≤ t - f) (hd : t - f ≤ 2 ^ (d + 1)) : f < f + (t - f + 1) / 2 ∧ f + (t - f + 1) / 2 < t ∧ f + (t - f + 1) / 2 - f ≤ 2 ^ d ∧ t - (f + (t - f + 1) / 2) ≤ 2 ^ d := by
  have : 2 ^ (d + 1) = 2 * 2 ^ d := by rw [Nat.pow_succ, Nat.mul_comm]
  omega
/-- the class's cutting -/
theorem jr_ok {S : Nat → Nat → Int32} {lv : Nat} : ∀ {d n : Nat} {T : Nat → Nat → Int32} {lc rc w g : Nat → Nat} {f t : Nat}, JH T lc rc w lv n g f t → t - f ≤ 2 ^ d → JR T lv n g f t (jrF S d T n g f t) ∧ jrOk S d T n g f t
  | 0, n, T, lc, rc, w, g, f, t, h, hd => ⟨JR_leaf h (by have : 2 ^ 0 = 1 := rfl; omega), trivial⟩
  | d + 1, n, T, lc, rc, w, g, f, t, h, hd => by
    by_cases ht : t - f < 2
    · unfold jrF jrOk
      rw [if_pos ht]
      exact ⟨JR_leaf h ht, Or.inl ht⟩
    · have hp : PR g (srt1 S (d + 1) f t g) f t := srtF_PR (by omega) (by have := h.2.1; omega)
      have h10 : ∀ k, srt1 S (d + 1) f t g k < 10 := srtF_lt h.2.2.2.2.2.2.2
      obtain ⟨m1, m2, m3, m4⟩ := mid_ok (by omega) hd
      have hA := jr_ok (S := S) (d := d) (JH_left h hp h10 m1 m2) m3
      obtain ⟨lc', rc', w', hB0⟩ := JH_right h hp m1 m2 hA.1
      have hB := jr_ok (S := S) (d := d) hB0 m4
      have hJ := JR_join h hp m1 m2 hA.1 hB.1
      unfold jrF jrOk
      rw [if_neg ht]
      refine ⟨hJ.1, Or.inr (fun A B eA eB => ?_)⟩
      subst eA
      subst eB
      exact ⟨hA.2, hB.2, hJ.2⟩
