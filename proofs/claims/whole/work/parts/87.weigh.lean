/-! up the tree; weighing -/
theorem uL_us {f : Nat → Int64} {j : Nat} {x : Int64} : vp_updL f j x j = x := if_pos rfl
theorem uL_ne {f : Nat → Int64} {j k : Nat} {x : Int64} (h : k ≠ j) : vp_updL f j x k = f k := if_neg h
section
variable {T : Nat → Nat → Int32} {lc rc w : Nat → Nat} {lv n : Nat}
theorem BT_po (h : BT T lc rc w lv n) {k : Nat} (hk : k < n) : (k + 1 = n ∧ pO T k = none) ∨ ∃ m, k < m ∧ lv ≤ m ∧ m < n ∧ T 2 k = nI m ∧ pO T k = some m ∧ (k = lc m ∨ k = rc m) := by
  rcases h.2.1 k hk with ⟨q1, q2⟩ | ⟨m, q1, q2, q3, q4, q5⟩
  · exact Or.inl ⟨q1, pO_none q2⟩
  · have := h.2.2.2.2.2
    exact Or.inr ⟨m, q1, q2, q3, q4, pO_some q4 (by omega), q5⟩
theorem BT_cn (h : BT T lc rc w lv n) : ∀ {N k : Nat}, k < n → n ≤ k + N → cnOk (pO T) N (some k)
  | 0, k, h1, h2 => absurd h2 (by omega)
  | N + 1, k, h1, h2 => by
    have hn := h.2.2.2.2.2
    refine ⟨by omega, ?_⟩
    rcases BT_po h h1 with ⟨q1, q2⟩ | ⟨m, q1, q2, q3, q4, q5, -⟩
    · rw [q2]
      cases N with
      | zero => rfl
      | succ N => trivial
    · rw [q5]
      exact BT_cn h q3 (by omega)
theorem BT_cn2 (h : BT T lc rc w lv n) {N k : Nat} (h1 : k < n) (h2 : n ≤ k + N + 1) : cnOk (pO T) N (pO T k) := (BT_cn h (N := N + 1) h1 (by omega)).2
theorem up_is (h : BT T lc rc w lv n) : ∀ {m j q N x : Nat}, j + m = n → q < n → (∀ p, pO T q = some p → j ≤ p) → m < N → upF T m j q x = chD (pO T) N (pO T q) x
  | 0, j, q, 0, x, _, _, _, hN => absurd hN (by omega)
  | 0, j, q, N + 1, x, hj, hq, hp, hN => by
    rcases BT_po h hq with ⟨q1, q2⟩ | ⟨p, q1, q2, q3, q4, q5, -⟩
    · rw [q2]; rfl
    · have := hp p q5; omega
  | m + 1, j, q, 0, x, _, _, _, hN => absurd hN (by omega)
  | m + 1, j, q, N + 1, x, hj, hq, hp, hN => by
    have hn := h.2.2.2.2.2
    show (if T 2 q = nI j then upF T m (j + 1) j (x + 1) else upF T m (j + 1) q x) = _
    rcases BT_po h hq with ⟨q1, q2⟩ | ⟨p, q1, q2, q3, q4, q5, -⟩
    · have hne : ¬ T 2 q = nI j := fun z => by
        rw [pO_some z (by omega)] at q2; cases q2
      rw [if_neg hne, up_is h (N := N + 1) (by omega) hq (fun p z => by rw [q2] at z; cases z) (by omega)]
    · by_cases e : p = j
      · subst e
        rw [if_pos q4, q5]
        show _ = chD (pO T) N (pO T p) (x + 1)
        exact up_is h (by omega) q3 (fun p2 z => by
          rcases BT_po h q3 with ⟨a1, a2⟩ | ⟨p3, a1, a2, a3, a4, a5, -⟩
          · rw [a2] at z; cases z
          · rw [a5] at z; cases z; omega) (by omega)
      · have hne : ¬ T 2 q = nI j := fun z => e (nI_inj (by omega) (by omega) (q4.symm.trans z))
        have := hp p q5
        rw [if_neg hne, up_is h (N := N + 1) (by omega) hq (fun p2 z => by rw [q5] at z; cases z; omega) (by omega)]
end
/-- what bears and shows are -/
def So (S : Nat → Nat → Int32) (F : Nat → Int32) (T : Nat → Nat → Int32) (lc rc : Nat → Nat) (lv V : Nat) (L : Nat → Nat → Int64) (n : Nat) : Prop :=
  ∀ k, k < n → (k < lv → L 0 k = 1024 * (S 2 k).toInt64 ∧ L 1 k = 1024 * (S 2 k).toInt64) ∧ (lv ≤ k → L 0 k = nbL F T L (lc k) (rc k) ∧ L 1 k = if V.testBit (k - lv) = true then 1024 * (F 9).toInt64 else L 0 k)
/-- what slack below is -/
def Sl (S : Nat → Nat → Int32) (F : Nat → Int32) (T : Nat → Nat → Int32) (lc rc : Nat → Nat) (lv V : Nat) (L : Nat → Nat → Int64) (n : Nat) : Prop :=
  ∀ k, k < n → (k < lv → L 2 k = 1048576 * (S 3 k).toInt64) ∧ (lv ≤ k → L 2 k = lmin (slL F T L (lc k)) (slL F T L (rc k)) - if V.testBit (k - lv) = true then bdL F L k else 0)
section
variable {S T : Nat → Nat → Int32} {F : Nat → Int32} {lc rc w : Nat → Nat} {lv n V : Nat} {L L' : Nat → Nat → Int64}
theorem nbL_eq {p q : Nat} (h1 : L 1 p = L' 1 p) (h2 : L 1 q = L' 1 q) : nbL F T L p q = nbL F T L' p q := by unfold nbL; rw [h1, h2]
theorem slL_eq {p : Nat} (h1 : L 1 p = L' 1 p) (h2 : L 2 p = L' 2 p) : slL F T L p = slL F T L' p := by unfold slL wdL; rw [h1, h2]
theorem So_same (hc : ∀ k, lv ≤ k → k < n → lc k < k ∧ rc k < k) (h : So S F T lc rc lv V L n) (h' : So S F T lc rc lv V L' n) : ∀ k, k < n → L 0 k = L' 0 k ∧ L 1 k = L' 1 k := by
  intro k
  induction k using Nat.strongRecOn with
  | _ k ih =>
    intro hk
    by_cases e : k < lv
    · obtain ⟨a1, a2⟩ := (h k hk).1 e
      obtain ⟨b1, b2⟩ := (h' k hk).1 e
      rw [a1, a2, b1, b2]
      exact ⟨rfl, rfl⟩
    · obtain ⟨c1, c2⟩ := hc k (by omega) hk
      obtain ⟨a1, a2⟩ := (h k hk).2 (by omega)
      obtain ⟨b1, b2⟩ := (h' k hk).2 (by omega)
      have e0 : L 0 k = L' 0 k := by
        rw [a1, b1]
        exact nbL_eq (ih _ c1 (by omega)).2 (ih _ c2 (by omega)).2
      exact ⟨e0, by rw [a2, b2, e0]⟩
/-- writing at n -/
theorem So_step (hc : ∀ k, lv ≤ k → k < n + 1 → lc k < k ∧ rc k < k) (h : So S F T lc rc lv V L n) (hs : ∀ k, k < n → L' 0 k = L 0 k ∧ L' 1 k = L 1 k)
    (h1 : n < lv → L' 0 n = 1024 * (S 2 n).toInt64 ∧ L' 1 n = 1024 * (S 2 n).toInt64) (h2 : lv ≤ n → L' 0 n = nbL F T L (lc n) (rc n) ∧ L' 1 n = if V.testBit (n - lv) = true then 1024 * (F 9).toInt64 else L' 0 n) : So S F T lc rc lv V L' (n + 1) := by
  intro k hk
  by_cases e : k = n
  · subst e
    refine ⟨h1, fun q => ?_⟩
    obtain ⟨a1, a2⟩ := h2 q
    refine ⟨?_, a2⟩
    rw [a1]
    exact nbL_eq (hs _ (hc k q hk).1).2.symm (hs _ (hc k q hk).2).2.symm
  · obtain ⟨e0, e1⟩ := hs k (by omega)
    obtain ⟨a1, a2⟩ := h k (by omega)
    rw [e0, e1]
    refine ⟨a1, fun q => ?_⟩
    obtain ⟨b1, b2⟩ := a2 q
    refine ⟨?_, b2⟩
    rw [b1]
    have := hc k q hk
    exact nbL_eq (hs _ (by omega)).2.symm (hs _ (by omega)).2.symm
theorem Sl_step (hc : ∀ k, lv ≤ k → k < n + 1 → lc k < k ∧ rc k < k) (h : Sl S F T lc rc lv V L n) (hs : ∀ k, k < n → L' 0 k = L 0 k ∧ L' 1 k = L 1 k ∧ L' 2 k = L 2 k)
    (h1 : n < lv → L' 2 n = 1048576 * (S 3 n).toInt64) (h2 : lv ≤ n → L' 2 n = lmin (slL F T L (lc n)) (slL F T L (rc n)) - if V.testBit (n - lv) = true then bdL F L' n else 0) : Sl S F T lc rc lv V L' (n + 1) := by
  intro k hk
  by_cases e : k = n
  · subst e
    refine ⟨h1, fun q => ?_⟩
    rw [h2 q, slL_eq (L := L) (L' := L') (hs _ (hc k q hk).1).2.1.symm (hs _ (hc k q hk).1).2.2.symm, slL_eq (L := L) (L' := L') (hs _ (hc k q hk).2).2.1.symm (hs _ (hc k q hk).2).2.2.symm]
  · obtain ⟨e0, e1, e2⟩ := hs k (by omega)
    obtain ⟨a1, a2⟩ := h k (by omega)
    rw [e2]
    refine ⟨a1, fun q => ?_⟩
    have := hc k q hk
    have b0 : bdL F L' k = bdL F L k := by unfold bdL; rw [e0]
    rw [a2 q, b0, slL_eq (L := L) (L' := L') (hs _ (by omega)).2.1.symm (hs _ (by omega)).2.2.symm, slL_eq (L := L) (L' := L') (hs _ (by omega)).2.1.symm (hs _ (by omega)).2.2.symm]
/-- the class: sinks -/
theorem ws_ok (hc : ∀ k, lv ≤ k → k < lv → lc k < k ∧ rc k < k) : ∀ {m k : Nat} {L : Nat → Nat → Int64}, k + m = lv → So S F T lc rc lv V L k → Sl S F T lc rc lv V L k → So S F T lc rc lv V (wsF S m k L) lv ∧ Sl S F T lc rc lv V (wsF S m k L) lv
  | 0, k, L, h, a, b => by
    have : k = lv := by omega
    subst this; exact ⟨a, b⟩
  | m + 1, k, L, h, a, b => by
    have e : ∀ x, x < k → wsK S L k 0 x = L 0 x ∧ wsK S L k 1 x = L 1 x ∧ wsK S L k 2 x = L 2 x := fun x hx => ⟨uL_ne (by omega), uL_ne (by omega), uL_ne (by omega)⟩
    exact ws_ok hc (m := m) (by omega) (So_step (L := L) (L' := wsK S L k) (fun x h1 h2 => by omega) a (fun x hx => ⟨(e x hx).1, (e x hx).2.1⟩) (fun _ => ⟨uL_us, uL_us⟩) (fun q => by omega))
      (Sl_step (L := L) (L' := wsK S L k) (fun x h1 h2 => by omega) b e (fun _ => uL_us) (fun q => by omega))
theorem wjL_o {j p q : Nat} {hb : Bool} {f x : Nat} (hf : f < 3) (hx : x ≠ j) : wjL F T L j p q hb f x = L f x := by
  unfold wjL wjT wjF w1L
  rcases (show f = 0 ∨ f = 1 ∨ f = 2 by omega) with rfl | rfl | rfl
  · split
    · rw [tS_ne _ _ (by decide), tS_ne _ _ (by decide), tS_self, uL_ne hx]
    · rw [tS_ne _ _ (by decide), tS_ne _ _ (by decide), tS_self, uL_ne hx]
  · split
    · rw [tS_ne _ _ (by decide), tS_self, uL_ne hx, uL_ne hx]
    · rw [tS_ne _ _ (by decide), tS_self, uL_ne hx]
  · split
    · rw [tS_self, uL_ne hx, uL_ne hx]
    · rw [tS_self, uL_ne hx]
theorem wjL_0 {j p q : Nat} {hb : Bool} : wjL F T L j p q hb 0 j = nbL F T L p q := by
  unfold wjL wjT wjF w1L
  split
  · rw [tS_ne _ _ (by decide), tS_ne _ _ (by decide), tS_self, uL_us]
  · rw [tS_ne _ _ (by decide), tS_ne _ _ (by decide), tS_self, uL_us]
theorem wjL_1 {j p q : Nat} {hb : Bool} : wjL F T L j p q hb 1 j = if hb = true then 1024 * (F 9).toInt64 else nbL F T L p q := by
  unfold wjL wjT wjF w1L
  split
  · rw [tS_ne _ _ (by decide), tS_self, uL_us]
  · rw [tS_ne _ _ (by decide), tS_self, uL_us]
theorem w1L_sl {j p q x : Nat} (hx : x ≠ j) : slL F T (w1L F T L j p q) x = slL F T L x := by
  refine slL_eq ?_ ?_
  · unfold w1L; rw [tS_self, uL_ne hx]
  · unfold w1L; rw [tS_ne _ _ (by decide), tS_ne _ _ (by decide)]
theorem wjL_2 {j p q : Nat} {hb : Bool} (hp : p ≠ j) (hq : q ≠ j) : wjL F T L j p q hb 2 j = lmin (slL F T L p) (slL F T L q) - if hb = true then bdL F (wjL F T L j p q hb) j else 0 := by
  have hm : mnL F T L j p q = lmin (slL F T L p) (slL F T L q) := by unfold mnL; rw [w1L_sl hp, w1L_sl hq]
  have hbd : bdL F (wjL F T L j p q hb) j = (F 11).toInt64 + 2 * (F 10).toInt64 * nbL F T L p q := by unfold bdL; rw [wjL_0]
  rw [hbd]
  unfold wjL wjT wjF w1L
  split
  · rw [tS_self, uL_us, uL_us, hm]
  · rw [tS_self, uL_us, hm, Int64.sub_zero]
theorem wj_ok (hc : ∀ k, lv ≤ k → k < n + 1 → lc k < k ∧ rc k < k) (hn : lv ≤ n) {hb : Bool} (hV : V.testBit (n - lv) = hb) (a : So S F T lc rc lv V L n) (b : Sl S F T lc rc lv V L n) : So S F T lc rc lv V (wjL F T L n (lc n) (rc n) hb) (n + 1) ∧ Sl S F T lc rc lv V (wjL F T L n (lc n) (rc n) hb) (n + 1) := by
  have hcn := hc n hn (by omega)
  refine ⟨So_step hc a (fun x hx => ⟨wjL_o (by decide) (by omega), wjL_o (by decide) (by omega)⟩) (fun q => by omega) (fun _ => ⟨wjL_0, ?_⟩), Sl_step hc b (fun x hx => ⟨wjL_o (by decide) (by omega), wjL_o (by decide) (by omega), wjL_o (by decide) (by omega)⟩) (fun q => by omega) (fun _ => ?_)⟩
  · rw [wjL_1, wjL_0, hV]
  · rw [wjL_2 (by omega) (by omega), hV]
theorem wg_ok {N : Nat} (hc : ∀ k, lv ≤ k → k < N → lc k < k ∧ rc k < k) (hN : N ≤ lv + 9) (hV : V < 512) : ∀ {m i : Nat} {L : Nat → Nat → Int64}, lv ≤ i → i + m = N → So S F T lc rc lv V L i → Sl S F T lc rc lv V L i → So S F T lc rc lv V (wgF F T lc rc lv (nI V) m i L) N ∧ Sl S F T lc rc lv V (wgF F T lc rc lv (nI V) m i L) N
  | 0, i, L, h1, h2, a, b => by
    have : i = N := by omega
    subst this; exact ⟨a, b⟩
  | m + 1, i, L, h1, h2, a, b => by
    obtain ⟨a', b'⟩ := wj_ok (n := i) (fun k q1 q2 => hc k q1 (by omega)) h1 (hb := hasB (nI V) (i - lv)) (hasB_is V hV _ (by omega)).symm a b
    exact wg_ok hc hN hV (m := m) (by omega) (by omega) a' b'
/-- the class, weighed -/
theorem weigh_ok (hb : BT T lc rc w lv n) (hV : V < 512) : So S F T lc rc lv V (wgF F T lc rc lv (nI V) (n - lv) lv (wsF S lv 0 L)) n ∧ Sl S F T lc rc lv V (wgF F T lc rc lv (nI V) (n - lv) lv (wsF S lv 0 L)) n := by
  have hn := hb.2.2.2.2.2
  obtain ⟨a, b⟩ := ws_ok (S := S) (F := F) (T := T) (lc := lc) (rc := rc) (lv := lv) (V := V) (L := L) (m := lv) (k := 0) (fun k q1 q2 => by omega) (by omega) (fun k q => by omega) (fun k q => by omega)
  exact wg_ok (fun k q1 q2 => ⟨(hb.1 k q1 q2).1, (hb.1 k q1 q2).2.1⟩) (by omega) hV (Nat.le_refl _) (by omega) a b
/-- the model -/
theorem wm_ok {N : Nat} (hc : ∀ k, lv ≤ k → k < N → lc k < k ∧ rc k < k) (hN : N ≤ lv + 9) (hV : V < 512) : ∀ {m k : Nat} {L : Nat → Nat → Int64}, k + m = N → So S F T lc rc lv V L k → So S F T lc rc lv V (wmF S F T lc rc lv (nI V) m k L) N
  | 0, k, L, h, a => by
    have : k = N := by omega
    subst this; exact a
  | m + 1, k, L, h, a => by
    refine wm_ok hc hN hV (m := m) (by omega) (So_step (fun x q1 q2 => hc x q1 (by omega)) a (fun x hx => ?_) (fun q => ?_) (fun q => ?_))
    · have e : ∀ y z : Int64, mkL L k y z 0 x = L 0 x ∧ mkL L k y z 1 x = L 1 x := fun y z => by
        unfold mkL
        rw [tS_ne _ _ (by decide), tS_self, tS_self, uL_ne (by omega), uL_ne (by omega)]
        exact ⟨rfl, rfl⟩
      unfold wmK
      split
      · exact e _ _
      · split
        · exact e _ _
        · exact e _ _
    · unfold wmK mkL
      rw [if_pos q, tS_ne _ _ (by decide), tS_self, tS_self, uL_us, uL_us]
      exact ⟨rfl, rfl⟩
    · unfold wmK mkL
      rw [if_neg (by omega), onM_is V hV _ (by omega)]
      split
      · rw [tS_ne _ _ (by decide), tS_self, tS_self, uL_us, uL_us]
        exact ⟨rfl, rfl⟩
      · rw [tS_ne _ _ (by decide), tS_self, tS_self, uL_us, uL_us]
        exact ⟨rfl, rfl⟩
theorem weighM_ok (hb : BT T lc rc w lv n) (hV : V < 512) : So S F T lc rc lv V (wmF S F T lc rc lv (nI V) n 0 L) n := by
  have hn := hb.2.2.2.2.2
  exact wm_ok (fun k q1 q2 => ⟨(hb.1 k q1 q2).1, (hb.1 k q1 q2).2.1⟩) (by omega) hV (by omega) (fun k q => by omega)
end
