/-! planting, and the choice of a pair -/
def SB (S : Nat → Nat → Int32) : Prop := ∀ k, (0 ≤ (S 0 k).toInt ∧ (S 0 k).toInt ≤ 200) ∧ (0 ≤ (S 1 k).toInt ∧ (S 1 k).toInt ≤ 200) ∧ (0 ≤ (S 2 k).toInt ∧ (S 2 k).toInt ≤ 100) ∧ (0 ≤ (S 3 k).toInt ∧ (S 3 k).toInt ≤ 1000000000)
def pv (S : Nat → Nat → Int32) (f x : Nat) : Int32 := match f with
  | 0 => -1
  | 1 => -1
  | 2 => -1
  | 3 => nI 1024 * (S 0 x + S 1 x)
  | 4 => nI 1024 * (S 0 x + S 1 x)
  | 5 => nI 1024 * (S 0 x - S 1 x)
  | 6 => nI 1024 * (S 0 x - S 1 x)
  | _ => nI 0
section
variable {S T : Nat → Nat → Int32}
theorem plantK_at {f x : Nat} (hf : f < 8) : plantK S T x f x = pv S f x := by
  rcases (show f = 0 ∨ f = 1 ∨ f = 2 ∨ f = 3 ∨ f = 4 ∨ f = 5 ∨ f = 6 ∨ f = 7 by omega) with rfl | rfl | rfl | rfl | rfl | rfl | rfl | rfl <;> exact pk_us
theorem plantK_ne {f x k : Nat} (hf : f < 8) (h : x ≠ k) : plantK S T k f x = T f x := by
  rcases (show f = 0 ∨ f = 1 ∨ f = 2 ∨ f = 3 ∨ f = 4 ∨ f = 5 ∨ f = 6 ∨ f = 7 by omega) with rfl | rfl | rfl | rfl | rfl | rfl | rfl | rfl <;> exact pk_un h
theorem plantF_out {f x : Nat} (hf : f < 8) : ∀ {n k : Nat} {T : Nat → Nat → Int32}, x < k → plantF S n k T f x = T f x
  | 0, _, _, _ => rfl
  | n + 1, k, T, h => by
    show plantF S n (k + 1) (plantK S T k) f x = T f x
    rw [plantF_out hf (by omega), plantK_ne hf (by omega)]
theorem plantF_at {f x : Nat} (hf : f < 8) : ∀ {n k : Nat} {T : Nat → Nat → Int32}, k ≤ x → x < k + n → plantF S n k T f x = pv S f x
  | 0, k, _, h1, h2 => absurd h2 (by omega)
  | n + 1, k, T, h1, h2 => by
    show plantF S n (k + 1) (plantK S T k) f x = pv S f x
    by_cases e : x = k
    · subst e; rw [plantF_out hf (by omega), plantK_at hf]
    · exact plantF_at hf (by omega) (by omega)
theorem fs_all {w : Nat → Nat} (hw : ∀ k, w k = 1) : ∀ {n : Nat}, (∀ k, k < n → T 2 k = -1) → fs T w n = n
  | 0, _ => rfl
  | n + 1, h => by
    unfold fs
    rw [fs_all hw (fun k hk => h k (by omega)), if_pos (h n (by omega)), hw]
theorem TI_plant (hS : SB S) (lc rc : Nat → Nat) (lv : Nat) : TI (plantF S lv 0 T) lc rc (fun _ => 1) lv lv := by
  have at' : ∀ f k, f < 8 → k < lv → plantF S lv 0 T f k = pv S f k := fun f k hf hk => plantF_at hf (Nat.zero_le _) (by omega)
  refine ⟨fun k hk => ?_, fun k hk => Or.inl (at' 2 k (by decide) hk), fun m h1 h2 => absurd h2 (by omega), fun _ _ => rfl, fun k hk => ⟨Nat.le_refl 1, by show 1 ≤ lv; omega⟩, fun k hk hf => absurd (at' 2 k (by decide) hk) hf, fs_all (fun _ => rfl) (fun k hk => at' 2 k (by decide) hk), ?_, Nat.le_refl _⟩
  · unfold nB
    rw [at' 3 k (by decide) hk, at' 4 k (by decide) hk, at' 5 k (by decide) hk, at' 6 k (by decide) hk, at' 7 k (by decide) hk]
    obtain ⟨h0, h1, -, -⟩ := hS k
    have e7 : (pv S 7 k).toInt = 0 := i3_n0
    have n1 : (nI 1024).toInt = 1024 := by decide
    have ea : (S 0 k + S 1 k).toInt = (S 0 k).toInt + (S 1 k).toInt := i3_add (by omega) (by omega)
    have es : (S 0 k - S 1 k).toInt = (S 0 k).toInt - (S 1 k).toInt := i3_sub (by omega) (by omega)
    have e3 : (pv S 3 k).toInt = 1024 * ((S 0 k).toInt + (S 1 k).toInt) := by
      show (nI 1024 * (S 0 k + S 1 k)).toInt = _
      rw [i3_mul (by rw [n1, ea]; omega) (by rw [n1, ea]; omega), n1, ea]
    have e4 : (pv S 4 k).toInt = 1024 * ((S 0 k).toInt + (S 1 k).toInt) := e3
    have e5 : (pv S 5 k).toInt = 1024 * ((S 0 k).toInt - (S 1 k).toInt) := by
      show (nI 1024 * (S 0 k - S 1 k)).toInt = _
      rw [i3_mul (by rw [n1, es]; omega) (by rw [n1, es]; omega), n1, es]
    have e6 : (pv S 6 k).toInt = 1024 * ((S 0 k).toInt - (S 1 k).toInt) := e5
    rw [e3, e4, e5, e6, e7]
    omega
  · rw [fs_all (fun _ => rfl) (fun k hk => at' 2 k (by decide) hk)]
    omega
end
/-! the model's flags -/
def ZI (T Z : Nat → Nat → Int32) (n : Nat) : Prop := ∀ k, k < n → (Z 1 k = 0 ↔ T 2 k = -1)
def ZS (Z : Nat → Nat → Int32) (lv n : Nat) : Prop := ∀ k, lv ≤ k → k < n → Z 0 k = nI 0
theorem begF_out {f x : Nat} (hf : f < 2) : ∀ {n k : Nat} {Z : Nat → Nat → Int32}, x < k → begF n k Z f x = Z f x
  | 0, _, _, _ => rfl
  | n + 1, k, Z, h => by
    show begF n (k + 1) (begZ Z k) f x = Z f x
    rw [begF_out hf (by omega)]
    rcases (show f = 0 ∨ f = 1 by omega) with rfl | rfl <;> exact pk_un (by omega)
theorem begF_at {f x : Nat} (hf : f < 2) : ∀ {n k : Nat} {Z : Nat → Nat → Int32}, k ≤ x → x < k + n → begF n k Z f x = nI 0
  | 0, k, _, h1, h2 => absurd h2 (by omega)
  | n + 1, k, Z, h1, h2 => by
    show begF n (k + 1) (begZ Z k) f x = nI 0
    by_cases e : x = k
    · subst e
      rw [begF_out hf (by omega)]
      rcases (show f = 0 ∨ f = 1 by omega) with rfl | rfl <;> exact pk_us
    · exact begF_at hf (by omega) (by omega)
theorem ZI_beg {S T Z : Nat → Nat → Int32} {lv : Nat} : ZI (plantF S lv 0 T) (begF lv 0 Z) lv := fun k hk => by
  rw [begF_at (by decide) (Nat.zero_le _) (by omega), plantF_at (by decide) (Nat.zero_le _) (by omega)]
  exact ⟨fun _ => rfl, fun _ => by decide⟩
theorem ZI_join {T Z : Nat → Nat → Int32} {n i j : Nat} (h : ZI T Z n) (hn : n < 900) (hi : i < n) (hj : j < n) (hij : i ≠ j) : ZI (joinT T n i j) (joinZ Z n i j) (n + 1) := by
  intro k hk
  have e : joinZ Z n i j 1 = upd (upd (upd (Z 1) i (nI 1)) j (nI 1)) n (nI 0) := rfl
  rw [e]
  have h1 : ¬ nI 1 = 0 := by decide
  by_cases e0 : k = n
  · subst e0
    rw [pk_us, jT2_n (by omega) (by omega)]
    exact ⟨fun _ => rfl, fun _ => by decide⟩
  · rw [pk_un e0]
    by_cases e2 : k = j
    · subst e2
      rw [pk_us, jT2_j]
      exact ⟨fun q => absurd q h1, fun q => absurd q (nI_m1 (by omega))⟩
    · rw [pk_un e2]
      by_cases e1 : k = i
      · subst e1
        rw [pk_us, jT2_i hij]
        exact ⟨fun q => absurd q h1, fun q => absurd q (nI_m1 (by omega))⟩
      · rw [pk_un e1, jT2_o e0 e1 e2]
        exact h k (by omega)
theorem ZS_join {Z : Nat → Nat → Int32} {lv n i j : Nat} (h : ZS Z lv n) : ZS (joinZ Z n i j) lv (n + 1) := by
  intro k h1 h2
  have e : joinZ Z n i j 0 = upd (Z 0) n (nI 0) := rfl
  rw [e]
  by_cases e0 : k = n
  · subst e0; exact pk_us
  · rw [pk_un e0]; exact h k h1 (by omega)
/-! the choice -/
def selR (T : Nat → Nat → Int32) (N : Nat) (u : Int32 × Int32 × Int32) (o : Option (Nat × Nat)) : Prop := match o with
  | none => u = (-1, -1, nI 2147483647)
  | some v => u = (nI v.1, nI v.2, dist T v.1 v.2) ∧ v.1 < v.2 ∧ v.2 < N ∧ T 2 v.1 = -1 ∧ T 2 v.2 = -1
section
variable {T Z : Nat → Nat → Int32} {N : Nat}
theorem selR_step (hd : ∀ i j, i < N → j < N → dist T i j < nI 2147483647) (hZ : ZI T Z N) {i j : Nat} (hij : i < j) (hj : j < N) {u : Int32 × Int32 × Int32} {o : Option (Nat × Nat)} (h : selR T N u o) :
    selR T N (if (if T 2 i = -1 ∧ T 2 j = -1 then dist T i j else nI 2147483647) < u.2.2 then (nI i, nI j, if T 2 i = -1 ∧ T 2 j = -1 then dist T i j else nI 2147483647) else u) (if (Z 1 i = 0 ∧ Z 1 j = 0) ∧ mBet T i j o = true then some (i, j) else o) := by
  have z1 := hZ i (by omega)
  have z2 := hZ j hj
  by_cases hf : T 2 i = -1 ∧ T 2 j = -1
  · rw [if_pos hf]
    have hz : Z 1 i = 0 ∧ Z 1 j = 0 := ⟨z1.mpr hf.1, z2.mpr hf.2⟩
    cases o with
    | none =>
      have hu : u = (-1, -1, nI 2147483647) := h
      rw [if_pos (show dist T i j < u.2.2 by rw [hu]; exact hd i j (by omega) hj), if_pos ⟨hz, rfl⟩]
      exact ⟨rfl, hij, hj, hf.1, hf.2⟩
    | some v =>
      obtain ⟨hu, h1, h2, h3, h4⟩ := h
      by_cases hl : dist T i j < dist T v.1 v.2
      · rw [if_pos (show dist T i j < u.2.2 by rw [hu]; exact hl), if_pos ⟨hz, decide_eq_true hl⟩]
        exact ⟨rfl, hij, hj, hf.1, hf.2⟩
      · rw [if_neg (show ¬ dist T i j < u.2.2 by rw [hu]; exact hl), if_neg (fun q => hl (of_decide_eq_true q.2))]
        exact ⟨hu, h1, h2, h3, h4⟩
  · rw [if_neg hf]
    have hle : ¬ nI 2147483647 < u.2.2 := by
      cases o with
      | none =>
        have hu : u = (-1, -1, nI 2147483647) := h
        rw [hu]; exact Int32.lt_irrefl
      | some v =>
        obtain ⟨hu, h1, h2, h3, h4⟩ := h
        rw [hu]
        exact fun q => Int32.lt_irrefl (Int32.lt_trans q (hd v.1 v.2 (by omega) h2))
    rw [if_neg hle, if_neg (show ¬ ((Z 1 i = 0 ∧ Z 1 j = 0) ∧ mBet T i j o = true) from fun q => hf ⟨z1.mp q.1.1, z2.mp q.1.2⟩)]
    exact h
theorem selR_in (hd : ∀ i j, i < N → j < N → dist T i j < nI 2147483647) (hZ : ZI T Z N) {i : Nat} : ∀ {n j : Nat} {u : Int32 × Int32 × Int32} {o : Option (Nat × Nat)}, i < j → j + n = N → selR T N u o → selR T N (cIn T i n j u) (mIn T Z i n j o)
  | 0, _, _, _, _, _, h => h
  | n + 1, j, u, o, hij, hn, h => selR_in hd hZ (n := n) (by omega) (by omega) (selR_step hd hZ hij (by omega) h)
theorem selR_out (hd : ∀ i j, i < N → j < N → dist T i j < nI 2147483647) (hZ : ZI T Z N) (nd : Nat) : ∀ {n i : Nat} {u : Int32 × Int32 × Int32} {o : Option (Nat × Nat)}, i + n = N → selR T N u o → selR T N (cOut T nd n i u) (mOut T Z n i o)
  | 0, _, _, _, _, h => h
  | n + 1, i, u, o, hn, h => selR_out hd hZ nd (n := n) (by omega) (selR_in hd hZ (by omega) (by omega) h)
theorem mIn_none {i : Nat} : ∀ {n j : Nat} {o : Option (Nat × Nat)}, mIn T Z i n j o = none → o = none ∧ ∀ q, j ≤ q → q < j + n → ¬ (Z 1 i = 0 ∧ Z 1 q = 0)
  | 0, _, _, h => ⟨h, fun q h1 h2 => absurd h2 (by omega)⟩
  | n + 1, j, o, h => by
    obtain ⟨h1, h2⟩ := mIn_none (n := n) h
    by_cases hc : (Z 1 i = 0 ∧ Z 1 j = 0) ∧ mBet T i j o = true
    · rw [if_pos hc] at h1; cases h1
    · rw [if_neg hc] at h1
      refine ⟨h1, fun q g1 g2 => ?_⟩
      by_cases e : q = j
      · subst e; exact fun z => hc ⟨z, by rw [h1]; rfl⟩
      · exact h2 q (by omega) (by omega)
theorem mOut_none : ∀ {n i : Nat} {o : Option (Nat × Nat)}, mOut T Z n i o = none → o = none ∧ ∀ p q, i ≤ p → p < q → q < i + n → ¬ (Z 1 p = 0 ∧ Z 1 q = 0)
  | 0, _, _, h => ⟨h, fun p q h1 h2 h3 => absurd h3 (by omega)⟩
  | n + 1, i, o, h => by
    obtain ⟨h1, h2⟩ := mOut_none (n := n) h
    obtain ⟨h3, h4⟩ := mIn_none h1
    refine ⟨h3, fun p q g1 g2 g3 => ?_⟩
    by_cases e : p = i
    · subst e; exact h4 q (by omega) (by omega)
    · exact h2 p q (by omega) g2 (by omega)
theorem sel_ok {lc rc w : Nat → Nat} {lv : Nat} (hT : TI T lc rc w lv N) (hZ : ZI T Z N) (hN : N < 19) (h2 : N + 2 ≤ 2 * lv) : ∃ i j, i < j ∧ j < N ∧ T 2 i = -1 ∧ T 2 j = -1 ∧ cSelI T N = i ∧ cSelJ T N = j ∧ mSelI T Z N = i ∧ mSelJ T Z N = j ∧ cOk T N ∧ mSok T Z N := by
  have hd : ∀ i j, i < N → j < N → dist T i j < nI 2147483647 := fun i j hi hj => by
    have := dist_le (hT.1 i hi) (hT.1 j hj)
    have e : (nI 2147483647).toInt = 2147483647 := by decide
    rw [i3_lt, e]; omega
  have hR := selR_out hd hZ N (n := N) (i := 0) (u := (-1, -1, nI 2147483647)) (o := none) (by omega) rfl
  obtain ⟨p, q, g1, g2, g3, g4⟩ := fs_two (T := T) (n := N) (by have := hT.2.2.2.2.2.2.2.1; omega)
  cases ho : mOut T Z N 0 none with
  | none =>
    have := (mOut_none ho).2 p q (Nat.zero_le _) g1 (by omega)
    exact absurd ⟨(hZ p (by omega)).mpr g3, (hZ q g2).mpr g4⟩ this
  | some v =>
    rw [ho] at hR
    obtain ⟨hu, h1, h3, h4, h5⟩ := hR
    have hs : cSel T N = (nI v.1, nI v.2, dist T v.1 v.2) := hu
    have eI : cSelI T N = v.1 := by unfold cSelI; rw [hs]; exact nI_clamp (by omega)
    have eJ : cSelJ T N = v.2 := by unfold cSelJ; rw [hs]; exact nI_clamp (by omega)
    have mI : mSelI T Z N = v.1 := by unfold mSelI; rw [ho]
    have mJ : mSelJ T Z N = v.2 := by unfold mSelJ; rw [ho]
    refine ⟨v.1, v.2, h1, h3, h4, h5, eI, eJ, mI, mJ, ?_, ?_⟩
    · unfold cOk
      rw [eI, eJ, hs]
      exact ⟨rfl, rfl, by omega, by omega, by omega, hN⟩
    · unfold mSok
      rw [mI, mJ, ho]
      exact ⟨rfl, hN⟩
end
/-- the joins by distance, the class's and the model's -/
theorem joins_ok {lv : Nat} (hlv : lv ≤ 10) : ∀ {m n : Nat} {T Z : Nat → Nat → Int32} {lc rc w : Nat → Nat}, TI T lc rc w lv n → ZI T Z n → ZS Z lv n → n + m + 1 = 2 * lv → cJoinsOk m n T ∧ mJoinsOk m n T Z ∧ ∃ (Z2 : Nat → Nat → Int32) (lc' rc' w' : Nat → Nat), mJoins m n T Z = (cJoins m n T, Z2) ∧ TI (cJoins m n T) lc' rc' w' lv (n + m) ∧ ZS Z2 lv (n + m) ∧ cJoins m n T 11 = T 11
  | 0, n, T, Z, lc, rc, w, h, hZ, hs, hm => ⟨trivial, trivial, Z, lc, rc, w, rfl, h, hs, rfl⟩
  | m + 1, n, T, Z, lc, rc, w, h, hZ, hs, hm => by
    obtain ⟨i, j, h1, h2, h3, h4, e1, e2, e3, e4, hc, hmk⟩ := sel_ok h hZ (by omega) (by omega)
    have hI := TI_join h (by omega) (by omega) h2 (by omega) h3 h4
    obtain ⟨a1, a2, Z2, lc', rc', w', a3, a4, a5, a6⟩ := joins_ok hlv (m := m) hI (ZI_join hZ (by omega) (by omega) h2 (by omega)) (ZS_join (i := i) (j := j) hs) (by omega)
    unfold cJoinsOk mJoinsOk cJoins mJoins
    rw [e1, e2, e3, e4]
    exact ⟨⟨hc, a1⟩, ⟨hmk, a2⟩, Z2, lc', rc', w', a3, by rw [show n + (m + 1) = n + 1 + m by omega]; exact a4, by rw [show n + (m + 1) = n + 1 + m by omega]; exact a5, a6⟩
