/-! the model's stack does what the recursion does -/
theorem i3_d0 (a b : Int32) : a - b = 0 ↔ a = b := by
  constructor
  · intro h
    have e := Int32.sub_add_cancel a b
    rw [h, Int32.zero_add] at e
    exact e.symm
  · intro h; rw [h]; exact Int32.sub_self b
theorem bef_same {S : Nat → Nat → Int32} (hS : SB S) (bx : Bool) : befM (kA S bx) (kB S bx) = befB (kA S bx) (kB S bx) := by
  have hb : ∀ k, (0 ≤ (kA S bx k).toInt ∧ (kA S bx k).toInt ≤ 200) ∧ (0 ≤ (kB S bx k).toInt ∧ (kB S bx k).toInt ≤ 200) := fun k => by
    unfold kA kB
    cases bx
    · exact ⟨(hS k).2.1, (hS k).1⟩
    · exact ⟨(hS k).1, (hS k).2.1⟩
  funext i j
  unfold befM befB
  have hi := hb i
  have hj := hb j
  have l1 : (kA S bx i - kA S bx j < 0) = (kA S bx i < kA S bx j) := by
    have e0 : (0 : Int32).toInt = 0 := by decide
    rw [i3_lt, i3_lt, i3_sub (by omega) (by omega), e0]
    exact propext (by omega)
  have l2 : (kB S bx i - kB S bx j < 0) = (kB S bx i < kB S bx j) := by
    have e0 : (0 : Int32).toInt = 0 := by decide
    rw [i3_lt, i3_lt, i3_sub (by omega) (by omega), e0]
    exact propext (by omega)
  simp only [i3_d0, l1, l2]
def cmR (S : Nat → Nat → Int32) (u v : CS) : Prop := ∃ N, ∀ M, cmOk S M v → cmOk S (N + M) u ∧ cmF S (N + M) u = cmF S M v
theorem cmR.tr {S : Nat → Nat → Int32} {u v x : CS} (h1 : cmR S u v) (h2 : cmR S v x) : cmR S u x := by
  obtain ⟨n1, a1⟩ := h1
  obtain ⟨n2, a2⟩ := h2
  refine ⟨n1 + n2, fun M hM => ?_⟩
  obtain ⟨b1, b2⟩ := a2 M hM
  obtain ⟨c1, c2⟩ := a1 (n2 + M) b1
  rw [Nat.add_assoc]
  exact ⟨c1, c2.trans b2⟩
theorem cmR.st {S : Nat → Nat → Int32} {u : CS} (h1 : u.2.2.2.2.2.1 ≠ 0) (h2 : cmSok u) : cmR S u (cmS S u) := by
  refine ⟨1, fun M hM => ?_⟩
  rw [Nat.add_comm]
  refine ⟨Or.inr ⟨h2, hM⟩, ?_⟩
  show (if u.2.2.2.2.2.1 = 0 then u else cmF S M (cmS S u)) = _
  rw [if_neg h1]
section
variable {S T Z : Nat → Nat → Int32} {n tp got : Nat} {g : Nat → Nat} {q : Nat → Nat → Nat}
theorem cmS_0 (h : q 1 tp - q 0 tp = 1) : cmS S (T, Z, n, g, q, tp + 1, got) = (T, Z, n, g, q, tp, g (q 0 tp)) := by
  unfold cmS
  simp only [Nat.add_sub_cancel]
  rw [if_pos h]
theorem cmS_1 (h : ¬ q 1 tp - q 0 tp = 1) (h3 : q 3 tp = 0) : cmS S (T, Z, n, g, q, tp + 1, got) = (T, Z, n, srtF (befM (kA S (q 2 tp % 2 == 0)) (kB S (q 2 tp % 2 == 0))) (q 0 tp) (q 1 tp - (q 0 tp + 1)) (q 0 tp + 1) g, pushK (tS q 3 (updN (q 3) tp 1)) (tp + 1) (q 0 tp) (q 0 tp + (q 1 tp - q 0 tp + 1) / 2) (q 2 tp + 1), tp + 1 + 1, got) := by
  unfold cmS
  simp only [Nat.add_sub_cancel]
  rw [if_neg h, if_pos h3]
theorem cmS_2 (h : ¬ q 1 tp - q 0 tp = 1) (h3 : q 3 tp = 1) : cmS S (T, Z, n, g, q, tp + 1, got) = (T, Z, n, g, pushK (tS (tS q 4 (updN (q 4) tp got)) 3 (updN (q 3) tp 2)) (tp + 1) (q 0 tp + (q 1 tp - q 0 tp + 1) / 2) (q 1 tp) (q 2 tp + 1), tp + 1 + 1, got) := by
  unfold cmS
  simp only [Nat.add_sub_cancel]
  rw [if_neg h, if_neg (by omega), if_pos h3]
theorem cmS_3 (h : ¬ q 1 tp - q 0 tp = 1) (h3 : q 3 tp = 2) : cmS S (T, Z, n, g, q, tp + 1, got) = (joinT T n (q 4 tp) got, joinZ Z n (q 4 tp) got, n + 1, g, q, tp, n) := by
  unfold cmS
  simp only [Nat.add_sub_cancel]
  rw [if_neg h, if_neg (by omega), if_neg (by omega)]
end
section
variable {q : Nat → Nat → Nat} {tp a b d : Nat}
theorem pushK_lt {k x : Nat} (hx : x ≠ tp) : pushK q tp a b d k x = q k x := by
  unfold pushK
  by_cases h3 : k = 3
  · subst h3; rw [tS_self, updN_ne hx]
  · rw [tS_ne _ _ h3]
    by_cases h2 : k = 2
    · subst h2; rw [tS_self, updN_ne hx]
    · rw [tS_ne _ _ h2]
      by_cases h1 : k = 1
      · subst h1; rw [tS_self, updN_ne hx]
      · rw [tS_ne _ _ h1]
        by_cases h0 : k = 0
        · subst h0; rw [tS_self, updN_ne hx]
        · rw [tS_ne _ _ h0]
theorem pushK_0 : pushK q tp a b d 0 tp = a := by
  unfold pushK
  rw [tS_ne _ _ (by decide), tS_ne _ _ (by decide), tS_ne _ _ (by decide), tS_self, updN_us]
theorem pushK_1 : pushK q tp a b d 1 tp = b := by
  unfold pushK
  rw [tS_ne _ _ (by decide), tS_ne _ _ (by decide), tS_self, updN_us]
theorem pushK_2 : pushK q tp a b d 2 tp = d := by
  unfold pushK
  rw [tS_ne _ _ (by decide), tS_self, updN_us]
theorem pushK_3 : pushK q tp a b d 3 tp = 0 := by
  unfold pushK
  rw [tS_self, updN_us]
end
theorem jrF_step {S T : Nat → Nat → Int32} {d n f t : Nat} {g : Nat → Nat} (h : ¬ t - f < 2) : jrF S (d + 1) T n g f t = (joinT (jrF S d (jrF S d T n (srt1 S (d + 1) f t g) f (f + (t - f + 1) / 2)).1 (jrF S d T n (srt1 S (d + 1) f t g) f (f + (t - f + 1) / 2)).2.1 (jrF S d T n (srt1 S (d + 1) f t g) f (f + (t - f + 1) / 2)).2.2.1 (f + (t - f + 1) / 2) t).1 (jrF S d (jrF S d T n (srt1 S (d + 1) f t g) f (f + (t - f + 1) / 2)).1 (jrF S d T n (srt1 S (d + 1) f t g) f (f + (t - f + 1) / 2)).2.1 (jrF S d T n (srt1 S (d + 1) f t g) f (f + (t - f + 1) / 2)).2.2.1 (f + (t - f + 1) / 2) t).2.1 (jrF S d T n (srt1 S (d + 1) f t g) f (f + (t - f + 1) / 2)).2.2.2 (jrF S d (jrF S d T n (srt1 S (d + 1) f t g) f (f + (t - f + 1) / 2)).1 (jrF S d T n (srt1 S (d + 1) f t g) f (f + (t - f + 1) / 2)).2.1 (jrF S d T n (srt1 S (d + 1) f t g) f (f + (t - f + 1) / 2)).2.2.1 (f + (t - f + 1) / 2) t).2.2.2, (jrF S d (jrF S d T n (srt1 S (d + 1) f t g) f (f + (t - f + 1) / 2)).1 (jrF S d T n (srt1 S (d + 1) f t g) f (f + (t - f + 1) / 2)).2.1 (jrF S d T n (srt1 S (d + 1) f t g) f (f + (t - f + 1) / 2)).2.2.1 (f + (t - f + 1) / 2) t).2.1 + 1, (jrF S d (jrF S d T n (srt1 S (d + 1) f t g) f (f + (t - f + 1) / 2)).1 (jrF S d T n (srt1 S (d + 1) f t g) f (f + (t - f + 1) / 2)).2.1 (jrF S d T n (srt1 S (d + 1) f t g) f (f + (t - f + 1) / 2)).2.2.1 (f + (t - f + 1) / 2) t).2.2.1, (jrF S d (jrF S d T n (srt1 S (d + 1) f t g) f (f + (t - f + 1) / 2)).1 (jrF S d T n (srt1 S (d + 1) f t g) f (f + (t - f + 1) / 2)).2.1 (jrF S d T n (srt1 S (d + 1) f t g) f (f + (t - f + 1) / 2)).2.2.1 (f + (t - f + 1) / 2) t).2.1) := by
  show (if t - f < 2 then _ else _) = _
  rw [if_neg h]
theorem stack_ok {S : Nat → Nat → Int32} (hS : SB S) {lv : Nat} : ∀ {d n : Nat} {T Z : Nat → Nat → Int32} {lc rc w g : Nat → Nat} {f t : Nat} {q : Nat → Nat → Nat} {tp got : Nat}, JH T lc rc w lv n g f t → t - f ≤ 2 ^ d → q 0 tp = f → q 1 tp = t → q 2 tp + d = 4 → q 3 tp = 0 → tp + d ≤ 10 → got < 19 →
    ∃ (Z' : Nat → Nat → Int32) (q' : Nat → Nat → Nat), cmR S (T, Z, n, g, q, tp + 1, got) ((jrF S d T n g f t).1, Z', (jrF S d T n g f t).2.1, (jrF S d T n g f t).2.2.1, q', tp, (jrF S d T n g f t).2.2.2) ∧ (∀ a k, k < tp → q' a k = q a k) ∧ (ZS Z lv n → ZS Z' lv (jrF S d T n g f t).2.1)
  | 0, n, T, Z, lc, rc, w, g, f, t, q, tp, got, h, hd, e0, e1, e2, e3, htp, hg => by
    obtain ⟨a1, a2, a3, a4, a5, a6, a7, a8⟩ := h
    have h1 : q 1 tp - q 0 tp = 1 := by have : 2 ^ 0 = 1 := rfl; omega
    have hs : cmR S (T, Z, n, g, q, tp + 1, got) (cmS S (T, Z, n, g, q, tp + 1, got)) := cmR.st (Nat.succ_ne_zero tp) (by
      show tp + 1 ≤ 12 ∧ q 0 (tp + 1 - 1) < q 1 (tp + 1 - 1) ∧ _
      simp only [Nat.add_sub_cancel]
      exact ⟨by omega, by omega, by omega, a8, by omega, by omega, hg, Or.inl h1⟩)
    rw [cmS_0 h1, e0] at hs
    exact ⟨Z, q, hs, fun _ _ _ => rfl, fun h => h⟩
  | d + 1, n, T, Z, lc, rc, w, g, f, t, q, tp, got, h, hd, e0, e1, e2, e3, htp, hg => by
    have hh := h
    obtain ⟨a1, a2, a3, a4, a5, a6, a7, a8⟩ := hh
    by_cases ht : t - f < 2
    · have h1 : q 1 tp - q 0 tp = 1 := by omega
      have hs : cmR S (T, Z, n, g, q, tp + 1, got) (cmS S (T, Z, n, g, q, tp + 1, got)) := cmR.st (Nat.succ_ne_zero tp) (by
        show tp + 1 ≤ 12 ∧ q 0 (tp + 1 - 1) < q 1 (tp + 1 - 1) ∧ _
        simp only [Nat.add_sub_cancel]
        exact ⟨by omega, by omega, by omega, a8, by omega, by omega, hg, Or.inl h1⟩)
      rw [cmS_0 h1, e0] at hs
      unfold jrF
      rw [if_pos ht]
      exact ⟨Z, q, hs, fun _ _ _ => rfl, fun h => h⟩
    · have hn1 : ¬ q 1 tp - q 0 tp = 1 := by omega
      have hp : PR g (srt1 S (d + 1) f t g) f t := srtF_PR (by omega) (by omega)
      have h10 : ∀ k, srt1 S (d + 1) f t g k < 10 := srtF_lt a8
      obtain ⟨m1, m2, m3, m4⟩ := mid_ok (by omega) hd
      have hA0 := JH_left h hp h10 m1 m2
      have hA := jr_ok (S := S) (d := d) hA0 m3
      obtain ⟨lc', rc', w', hB0⟩ := JH_right h hp m1 m2 hA.1
      have hB := jr_ok (S := S) (d := d) hB0 m4
      have hJ := JR_join h hp m1 m2 hA.1 hB.1
      -- the first step
      have hs : cmR S (T, Z, n, g, q, tp + 1, got) (cmS S (T, Z, n, g, q, tp + 1, got)) := cmR.st (Nat.succ_ne_zero tp) (by
        show tp + 1 ≤ 12 ∧ q 0 (tp + 1 - 1) < q 1 (tp + 1 - 1) ∧ _
        simp only [Nat.add_sub_cancel]
        exact ⟨by omega, by omega, by omega, a8, by omega, by omega, hg, Or.inr (Or.inl ⟨by omega, by omega⟩)⟩)
      rw [cmS_1 hn1 e3, bef_same hS, e0, e1, show q 2 tp = 4 - (d + 1) by omega] at hs
      obtain ⟨Z1, q1, r1, k1, z1⟩ := stack_ok hS (d := d) (Z := Z) (q := pushK (tS q 3 (updN (q 3) tp 1)) (tp + 1) f (f + (t - f + 1) / 2) (4 - (d + 1) + 1)) (tp := tp + 1) (got := got) hA0 m3 pushK_0 pushK_1 (by rw [pushK_2]; omega) pushK_3 (by omega) hg
      have c0 : q1 0 tp = f := by rw [k1 0 tp (by omega), pushK_lt (by omega), tS_ne _ _ (by decide)]; exact e0
      have c1 : q1 1 tp = t := by rw [k1 1 tp (by omega), pushK_lt (by omega), tS_ne _ _ (by decide)]; exact e1
      have c2 : q1 2 tp = 4 - (d + 1) := by rw [k1 2 tp (by omega), pushK_lt (by omega), tS_ne _ _ (by decide)]; omega
      have c3 : q1 3 tp = 1 := by rw [k1 3 tp (by omega), pushK_lt (by omega), tS_self, updN_us]
      have hw : f + (t - f + 1) / 2 < t := m2
      rw [jrF_step ht]
      have hs1 : cmR S (T, Z, n, g, q, tp + 1, got) ((jrF S d T n (srt1 S (d + 1) f t g) f (f + (t - f + 1) / 2)).1, Z1, (jrF S d T n (srt1 S (d + 1) f t g) f (f + (t - f + 1) / 2)).2.1, (jrF S d T n (srt1 S (d + 1) f t g) f (f + (t - f + 1) / 2)).2.2.1, q1, tp + 1, (jrF S d T n (srt1 S (d + 1) f t g) f (f + (t - f + 1) / 2)).2.2.2) := hs.tr r1
      generalize jrF S d T n (srt1 S (d + 1) f t g) f (f + (t - f + 1) / 2) = A at *
      clear r1 hs
      -- the second step
      have hs : cmR S (A.1, Z1, A.2.1, A.2.2.1, q1, tp + 1, A.2.2.2) (cmS S (A.1, Z1, A.2.1, A.2.2.1, q1, tp + 1, A.2.2.2)) := cmR.st (Nat.succ_ne_zero tp) (by
        show tp + 1 ≤ 12 ∧ q1 0 (tp + 1 - 1) < q1 1 (tp + 1 - 1) ∧ _
        simp only [Nat.add_sub_cancel]
        exact ⟨by omega, by omega, by omega, hA.1.2.2.2.2.2.2.2.2, by omega, by omega, hJ.2.1, Or.inr (Or.inl ⟨by omega, by omega⟩)⟩)
      rw [cmS_2 (by omega) c3, c0, c1, c2] at hs
      have hs2 := hs1.tr hs
      clear hs hs1
      obtain ⟨Z2, q2, r2, k2, z2⟩ := stack_ok hS (d := d) (Z := Z1) (q := pushK (tS (tS q1 4 (updN (q1 4) tp A.2.2.2)) 3 (updN (q1 3) tp 2)) (tp + 1) (f + (t - f + 1) / 2) t (4 - (d + 1) + 1)) (tp := tp + 1) (got := A.2.2.2) hB0 m4 pushK_0 pushK_1 (by rw [pushK_2]; omega) pushK_3 (by omega) hJ.2.1
      have b0 : q2 0 tp = f := by rw [k2 0 tp (by omega), pushK_lt (by omega), tS_ne _ _ (by decide), tS_ne _ _ (by decide)]; exact c0
      have b1 : q2 1 tp = t := by rw [k2 1 tp (by omega), pushK_lt (by omega), tS_ne _ _ (by decide), tS_ne _ _ (by decide)]; exact c1
      have b2 : q2 2 tp = 4 - (d + 1) := by rw [k2 2 tp (by omega), pushK_lt (by omega), tS_ne _ _ (by decide), tS_ne _ _ (by decide)]; exact c2
      have b3 : q2 3 tp = 2 := by rw [k2 3 tp (by omega), pushK_lt (by omega), tS_self, updN_us]
      have b4 : q2 4 tp = A.2.2.2 := by rw [k2 4 tp (by omega), pushK_lt (by omega), tS_ne _ _ (by decide), tS_self, updN_us]
      have hs3 := hs2.tr r2
      clear hs2 r2
      generalize jrF S d A.1 A.2.1 A.2.2.1 (f + (t - f + 1) / 2) t = B at *
      -- the third
      have hs : cmR S (B.1, Z2, B.2.1, B.2.2.1, q2, tp + 1, B.2.2.2) (cmS S (B.1, Z2, B.2.1, B.2.2.1, q2, tp + 1, B.2.2.2)) := cmR.st (Nat.succ_ne_zero tp) (by
        show tp + 1 ≤ 12 ∧ q2 0 (tp + 1 - 1) < q2 1 (tp + 1 - 1) ∧ _
        simp only [Nat.add_sub_cancel]
        exact ⟨by omega, by omega, by omega, hB.1.2.2.2.2.2.2.2.2, by omega, by omega, hJ.2.2.1, Or.inr (Or.inr ⟨b3, by rw [b4]; exact hJ.2.1, hJ.2.2.2.2⟩)⟩)
      rw [cmS_3 (by omega) b3, b4] at hs
      refine ⟨_, q2, hs3.tr hs, fun a k hk => ?_, fun hz => ZS_join (z2 (z1 hz))⟩
      rw [k2 a k (by omega), pushK_lt (by omega)]
      have e4 : tS (tS q1 4 (updN (q1 4) tp A.2.2.2)) 3 (updN (q1 3) tp 2) a k = q1 a k := by
        by_cases h3 : a = 3
        · subst h3; rw [tS_self, updN_ne (by omega)]
        · rw [tS_ne _ _ h3]
          by_cases h4 : a = 4
          · subst h4; rw [tS_self, updN_ne (by omega)]
          · rw [tS_ne _ _ h4]
      rw [e4, k1 a k (by omega), pushK_lt (by omega)]
      by_cases h3 : a = 3
      · subst h3; rw [tS_self, updN_ne (by omega)]
      · rw [tS_ne _ _ h3]
