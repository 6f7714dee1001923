/-! the best setting -/
def FQ (F F' : Nat → Int32) : Prop := ∀ k, 7 ≤ k → k ≤ 11 → F k = F' k
section
variable {S T : Nat → Nat → Int32} {F F' : Nat → Int32} {lc rc w : Nat → Nat} {lv n V : Nat} {L L' : Nat → Nat → Int64}
theorem cap_F (h : FQ F F') (k : Nat) : capL F T k = capL F' T k := by unfold capL; rw [h 8 (by decide) (by decide)]
theorem nb_F (h : FQ F F') (p q : Nat) : nbL F T L p q = nbL F' T L p q := by unfold nbL; rw [cap_F h, cap_F h]
theorem wd_F (h : FQ F F') (k : Nat) : wdL F T L k = wdL F' T L k := by unfold wdL; rw [cap_F h, h 7 (by decide) (by decide)]
theorem wmK_F (h : FQ F F') (v : Int32) (k : Nat) : wmK S F T lc rc lv v L k = wmK S F' T lc rc lv v L k := by unfold wmK; rw [nb_F h, h 9 (by decide) (by decide)]
theorem wmF_F (h : FQ F F') (v : Int32) : ∀ {m k : Nat} {L : Nat → Nat → Int64}, wmF S F T lc rc lv v m k L = wmF S F' T lc rc lv v m k L
  | 0, _, _ => rfl
  | m + 1, k, L => by
    show wmF S F T lc rc lv v m (k + 1) (wmK S F T lc rc lv v L k) = wmF S F' T lc rc lv v m (k + 1) (wmK S F' T lc rc lv v L k)
    rw [wmK_F h, wmF_F h v]
theorem dmK_F (h : FQ F F') (v : Int32) (k : Nat) (x : Int64) : dmK F T L lv v k x = dmK F' T L lv v k x := by unfold dmK; rw [wd_F h, h 10 (by decide) (by decide), h 11 (by decide) (by decide)]
theorem dmF_F (h : FQ F F') (v : Int32) {po : Nat → Option Nat} : ∀ {N : Nat} {o : Option Nat} {x : Int64}, dmF F T L po lv v N o x = dmF F' T L po lv v N o x
  | 0, _, _ => rfl
  | N + 1, none, _ => rfl
  | N + 1, some k, x => by
    show dmF F T L po lv v N (po k) (dmK F T L lv v k x) = dmF F' T L po lv v N (po k) (dmK F' T L lv v k x)
    rw [dmK_F h, dmF_F h v]
theorem sfM_F (h : FQ F F') (v : Int32) {po : Nat → Option Nat} {N : Nat} : ∀ {m k : Nat} {x : Int64}, sfM S F T L po lv N v m k x = sfM S F' T L po lv N v m k x
  | 0, _, _ => rfl
  | m + 1, k, x => by
    have e : dsM S F T L po lv N v k = dsM S F' T L po lv N v k := by unfold dsM; rw [dmF_F h]
    show sfM S F T L po lv N v m (k + 1) (if k = 0 ∨ dsM S F T L po lv N v k < x then dsM S F T L po lv N v k else x) = sfM S F' T L po lv N v m (k + 1) (if k = 0 ∨ dsM S F' T L po lv N v k < x then dsM S F' T L po lv N v k else x)
    rw [e, sfM_F h v]
theorem soL_F (h : FQ F F') (v : Int32) : soL S F T lc rc lv n v L = soL S F' T lc rc lv n v L := wmF_F h v
theorem soV_F (h : FQ F F') (v : Int32) {po : Nat → Option Nat} {N : Nat} : soV S F T lc rc po lv n N v L = soV S F' T lc rc po lv n N v L := by
  unfold soV; rw [soL_F h, sfM_F h]
theorem bsF_F (h : FQ F F') {po : Nat → Option Nat} {N : Nat} : ∀ {m k : Nat} {u : Nat × Int64 × (Nat → Nat → Int64)}, bsF S F T lc rc po lv n N m k u = bsF S F' T lc rc po lv n N m k u
  | 0, _, _ => rfl
  | m + 1, k, u => by
    show bsF S F T lc rc po lv n N m (k + 1) _ = bsF S F' T lc rc po lv n N m (k + 1) _
    rw [soV_F h, soL_F h, bsF_F h]
/-- the slack with the setting V -/
def sc (S : Nat → Nat → Int32) (F : Nat → Int32) (T : Nat → Nat → Int32) (lc rc : Nat → Nat) (lv n V : Nat) : Int64 := soV S F T lc rc (pO T) lv n 21 (nI V) (fun _ _ => 0)
theorem sc_c (hb : BT T lc rc w lv n) (hS : SB S) (hF : FB F) (hV : V < 512) (a : So S F T lc rc lv V L n) (b : Sl S F T lc rc lv V L n) : slL F T L (n - 1) = sc S F T lc rc lv n V := by
  have hn := hb.2.2.2.2.2
  exact slack_ok hb hS hF hV a b (So_same (fun k q1 q2 => ⟨(hb.1 k q1 q2).1, (hb.1 k q1 q2).2.1⟩) a (weighM_ok hb hV)) (M := 20) (by omega)
theorem sc_m (hb : BT T lc rc w lv n) (hS : SB S) (hF : FB F) (hV : V < 512) : soV S F T lc rc (pO T) lv n 21 (nI V) L = sc S F T lc rc lv n V := by
  have hn := hb.2.2.2.2.2
  obtain ⟨a, b⟩ := weigh_ok (S := S) (F := F) (L := L) hb hV
  rw [← sc_c hb hS hF hV a b]
  exact (slack_ok hb hS hF hV a b (So_same (fun k q1 q2 => ⟨(hb.1 k q1 q2).1, (hb.1 k q1 q2).2.1⟩) a (weighM_ok hb hV)) (M := 20) (by omega)).symm
def Bo (s : Nat → Int64) (P : Nat → Prop) (b : Int64 × Int32) : Prop := (b.2 = -1 ∧ ∀ V, ¬ P V) ∨ ∃ V, V < 512 ∧ P V ∧ b = (s V, nI V) ∧ ∀ V', P V' → (s V').toInt < (s V).toInt ∨ ((s V').toInt = (s V).toInt ∧ V ≤ V')
theorem kb_ok {s : Nat → Int64} {P P' : Nat → Prop} {b : Int64 × Int32} (h : Bo s P b) (hV : V < 512) (hP : ∀ V', P' V' ↔ (P V' ∨ V' = V)) : Bo s P' (kbF (s V) (nI V) b) := by
  unfold kbF
  rcases h with ⟨h1, h2⟩ | ⟨V0, h1, h2, h3, h4⟩
  · rw [if_pos (Or.inl h1)]
    refine Or.inr ⟨V, hV, (hP V).mpr (Or.inr rfl), rfl, fun V' q => ?_⟩
    rcases (hP V').mp q with q | q
    · exact absurd q (h2 V')
    · rw [q]; exact Or.inr ⟨rfl, Nat.le_refl _⟩
  · subst h3
    by_cases hc : (s V0, nI V0).2 = -1 ∨ s V > (s V0, nI V0).1 ∨ (s V = (s V0, nI V0).1 ∧ nI V < (s V0, nI V0).2)
    · rw [if_pos hc]
      have hc2 : (s V0).toInt < (s V).toInt ∨ ((s V).toInt = (s V0).toInt ∧ V < V0) := by
        rcases hc with hc | hc | hc
        · exact absurd hc (nI_m1 (by omega))
        · exact Or.inl (Int64.lt_iff_toInt_lt.mp hc)
        · exact Or.inr ⟨by rw [show s V = s V0 from hc.1], (nI_ltI (by omega) (by omega)).mp hc.2⟩
      refine Or.inr ⟨V, hV, (hP V).mpr (Or.inr rfl), rfl, fun V' q => ?_⟩
      rcases (hP V').mp q with q | q
      · have := h4 V' q; omega
      · rw [q]; exact Or.inr ⟨rfl, Nat.le_refl _⟩
    · rw [if_neg hc]
      have g1 : ¬ (s V0).toInt < (s V).toInt := fun q => hc (Or.inr (Or.inl (Int64.lt_iff_toInt_lt.mpr q)))
      have g2 : (s V).toInt = (s V0).toInt → ¬ V < V0 := fun q q2 => hc (Or.inr (Or.inr ⟨Int64.toInt_inj.mp q, (nI_ltI (by omega) (by omega)).mpr q2⟩))
      refine Or.inr ⟨V0, h1, (hP V0).mpr (Or.inl h2), rfl, fun V' q => ?_⟩
      rcases (hP V').mp q with q | q
      · exact h4 V' q
      · rw [q]
        by_cases e : (s V).toInt = (s V0).toInt
        · exact Or.inr ⟨e, Nat.le_of_not_lt (g2 e)⟩
        · exact Or.inl (by omega)
theorem So_rows (hc : ∀ k, lv ≤ k → k < n → lc k < k ∧ rc k < k) (hs : ∀ k, k < n → L' 0 k = L 0 k ∧ L' 1 k = L 1 k) (h : So S F T lc rc lv V L n) : So S F T lc rc lv V L' n := by
  intro k hk
  obtain ⟨e0, e1⟩ := hs k hk
  obtain ⟨a1, a2⟩ := h k hk
  rw [e0, e1]
  refine ⟨a1, fun q => ⟨?_, (a2 q).2⟩⟩
  have := hc k q hk
  rw [(a2 q).1]
  exact nbL_eq (hs _ (by omega)).2.symm (hs _ (by omega)).2.symm
theorem Sl_rows (hc : ∀ k, lv ≤ k → k < n → lc k < k ∧ rc k < k) (hs : ∀ k, k < n → L' 0 k = L 0 k ∧ L' 1 k = L 1 k ∧ L' 2 k = L 2 k) (h : Sl S F T lc rc lv V L n) : Sl S F T lc rc lv V L' n := by
  intro k hk
  obtain ⟨e0, e1, e2⟩ := hs k hk
  obtain ⟨a1, a2⟩ := h k hk
  rw [e2]
  refine ⟨a1, fun q => ?_⟩
  have := hc k q hk
  have b0 : bdL F L' k = bdL F L k := by unfold bdL; rw [e0]
  rw [a2 q, b0, slL_eq (L := L) (L' := L') (hs _ (by omega)).2.1.symm (hs _ (by omega)).2.2.symm, slL_eq (L := L) (L' := L') (hs _ (by omega)).2.1.symm (hs _ (by omega)).2.2.symm]
theorem So_bits {V' : Nat} (hv : ∀ i, i < n - lv → V'.testBit i = V.testBit i) (h : So S F T lc rc lv V L n) : So S F T lc rc lv V' L n := by
  intro k hk
  obtain ⟨a1, a2⟩ := h k hk
  refine ⟨a1, fun q => ?_⟩
  rw [hv _ (by omega)]
  exact a2 q
theorem Sl_bits {V' : Nat} (hv : ∀ i, i < n - lv → V'.testBit i = V.testBit i) (h : Sl S F T lc rc lv V L n) : Sl S F T lc rc lv V' L n := by
  intro k hk
  obtain ⟨a1, a2⟩ := h k hk
  refine ⟨a1, fun q => ?_⟩
  rw [hv _ (by omega)]
  exact a2 q
theorem or_add {v j : Nat} (h : v < 2 ^ j) : v ||| 2 ^ j = v + 2 ^ j := by
  have := Nat.two_pow_add_eq_or_of_lt h 1
  rw [Nat.mul_one] at this
  rw [Nat.or_comm, ← this, Nat.add_comm]
theorem Bo_eq {s : Nat → Int64} {P P' : Nat → Prop} {b : Int64 × Int32} (h : Bo s P b) (hP : ∀ V', P' V' ↔ P V') : Bo s P' b := by
  rcases h with ⟨h1, h2⟩ | ⟨V0, h1, h2, h3, h4⟩
  · exact Or.inl ⟨h1, fun V q => h2 V ((hP V).mp q)⟩
  · exact Or.inr ⟨V0, h1, (hP V0).mpr h2, h3, fun V' q => h4 V' ((hP V').mp q)⟩
theorem tf_ok (hb : BT T lc rc w lv n) (hS : SB S) (hF : FB F) : ∀ {m v : Nat} {u : (Nat → Nat → Int64) × Int64 × Int32} {P : Nat → Prop}, m ≤ n - lv → v < 2 ^ (n - lv - m) → So S F T lc rc lv v u.1 (n - m) → Sl S F T lc rc lv v u.1 (n - m) → Bo (sc S F T lc rc lv n) P u.2 →
    Bo (sc S F T lc rc lv n) (fun V => P V ∨ (V < 2 ^ (n - lv) ∧ V % 2 ^ (n - lv - m) = v)) (tfF F T lc rc lv n m (nI v) u).2 ∧ ∀ f k, f < 3 → k < n - m → (tfF F T lc rc lv n m (nI v) u).1 f k = u.1 f k
  | 0, v, u, P, hm, hv, a, b, hB => by
    have hn := hb.2.2.2.2.2
    have hv2 : v < 512 := pow_512 (by omega) hv
    refine ⟨?_, fun _ _ _ _ => rfl⟩
    show Bo _ _ (kbF (slL F T u.1 (n - 1)) (nI v) u.2)
    rw [sc_c hb hS hF hv2 a b]
    refine kb_ok hB hv2 (fun V' => ?_)
    have hv : v < 2 ^ (n - lv) := hv
    constructor
    · rintro (q | ⟨q1, q2⟩)
      · exact Or.inl q
      · rw [Nat.sub_zero, Nat.mod_eq_of_lt q1] at q2
        exact Or.inr q2
    · rintro (q | q)
      · exact Or.inl q
      · subst q
        exact Or.inr ⟨hv, by rw [Nat.sub_zero, Nat.mod_eq_of_lt hv]⟩
  | m + 1, v, u, P, hm, hv, a, b, hB => by
    have hn := hb.2.2.2.2.2
    have hch : ∀ k, lv ≤ k → k < n → lc k < k ∧ rc k < k := fun k q1 q2 => ⟨(hb.1 k q1 q2).1, (hb.1 k q1 q2).2.1⟩
    have ej : n - (m + 1) + 1 = n - m := by omega
    have ej2 : n - lv - m = (n - lv - (m + 1)) + 1 := by omega
    have ej3 : n - (m + 1) - lv = n - lv - (m + 1) := by omega
    have hp2 : 2 ^ (n - lv - m) = 2 ^ (n - lv - (m + 1)) + 2 ^ (n - lv - (m + 1)) := by rw [ej2, Nat.pow_succ]; omega
    have hv9 : v < 512 := pow_512 (by omega) hv
    have w1 := wj_ok (n := n - (m + 1)) (fun k q1 q2 => hch k q1 (by omega)) (by omega) (hb := false) (by rw [ej3]; exact Nat.testBit_lt_two_pow hv) a b
    rw [ej] at w1
    obtain ⟨A1, A2⟩ := tf_ok hb hS hF (m := m) (v := v) (u := (wjL F T u.1 (n - (m + 1)) (lc (n - (m + 1))) (rc (n - (m + 1))) false, u.2)) (P := P) (by omega) (by omega) w1.1 w1.2 hB
    show Bo _ _ (tfF F T lc rc lv n m (nI v ||| bitI (n - (m + 1) - lv)) (wjL F T (tfF F T lc rc lv n m (nI v) (wjL F T u.1 (n - (m + 1)) (lc (n - (m + 1))) (rc (n - (m + 1))) false, u.2)).1 (n - (m + 1)) (lc (n - (m + 1))) (rc (n - (m + 1))) true, (tfF F T lc rc lv n m (nI v) (wjL F T u.1 (n - (m + 1)) (lc (n - (m + 1))) (rc (n - (m + 1))) false, u.2)).2)).2 ∧ ∀ f k, f < 3 → k < n - (m + 1) → (tfF F T lc rc lv n m (nI v ||| bitI (n - (m + 1) - lv)) (wjL F T (tfF F T lc rc lv n m (nI v) (wjL F T u.1 (n - (m + 1)) (lc (n - (m + 1))) (rc (n - (m + 1))) false, u.2)).1 (n - (m + 1)) (lc (n - (m + 1))) (rc (n - (m + 1))) true, (tfF F T lc rc lv n m (nI v) (wjL F T u.1 (n - (m + 1)) (lc (n - (m + 1))) (rc (n - (m + 1))) false, u.2)).2)).1 f k = u.1 f k
    generalize tfF F T lc rc lv n m (nI v) (wjL F T u.1 (n - (m + 1)) (lc (n - (m + 1))) (rc (n - (m + 1))) false, u.2) = A at *
    have rows : ∀ f k, f < 3 → k < n - (m + 1) → A.1 f k = u.1 f k := fun f k q1 q2 => by
      rw [A2 f k q1 (by omega)]
      show wjL F T u.1 (n - (m + 1)) (lc (n - (m + 1))) (rc (n - (m + 1))) false f k = u.1 f k
      rw [wjL_o q1 (by omega)]
    rw [or_is v hv9 _ (by omega), ej3]
    have hbit : ∀ i, i < n - (m + 1) - lv → (v ||| 2 ^ (n - lv - (m + 1))).testBit i = v.testBit i := fun i hi => by
      rw [Nat.testBit_or, Nat.testBit_two_pow]
      simp [show ¬ n - lv - (m + 1) = i by omega]
    have w2 := wj_ok (n := n - (m + 1)) (V := v ||| 2 ^ (n - lv - (m + 1))) (L := A.1) (fun k q1 q2 => hch k q1 (by omega)) (by omega) (hb := true) (by rw [ej3, Nat.testBit_or, Nat.testBit_two_pow]; simp)
      (So_bits hbit (So_rows (fun k q1 q2 => hch k q1 (by omega)) (fun k hk => ⟨rows 0 k (by decide) hk, rows 1 k (by decide) hk⟩) a))
      (Sl_bits hbit (Sl_rows (fun k q1 q2 => hch k q1 (by omega)) (fun k hk => ⟨rows 0 k (by decide) hk, rows 1 k (by decide) hk, rows 2 k (by decide) hk⟩) b))
    rw [ej] at w2
    have hv' : v ||| 2 ^ (n - lv - (m + 1)) < 2 ^ (n - lv - m) := by rw [or_add hv]; omega
    obtain ⟨B1, B2⟩ := tf_ok hb hS hF (m := m) (v := v ||| 2 ^ (n - lv - (m + 1))) (u := (wjL F T A.1 (n - (m + 1)) (lc (n - (m + 1))) (rc (n - (m + 1))) true, A.2)) (by omega) hv' w2.1 w2.2 A1
    refine ⟨Bo_eq B1 (fun V => ?_), fun f k q1 q2 => ?_⟩
    · have hmod := mod_bit V (n - lv - (m + 1))
      rw [← ej2] at hmod
      have hx : V % 2 ^ (n - lv - (m + 1)) < 2 ^ (n - lv - (m + 1)) := Nat.mod_lt _ (Nat.two_pow_pos _)
      rw [or_add hx] at hmod
      rw [or_add hv]
      constructor
      · rintro (q | ⟨q1, q2⟩)
        · exact Or.inl (Or.inl q)
        · by_cases hbt : V.testBit (n - lv - (m + 1)) = true
          · rw [if_pos hbt] at hmod
            exact Or.inr ⟨q1, by omega⟩
          · rw [if_neg hbt] at hmod
            exact Or.inl (Or.inr ⟨q1, by omega⟩)
      · rintro ((q | ⟨q1, q2⟩) | ⟨q1, q2⟩)
        · exact Or.inl q
        · refine Or.inr ⟨q1, ?_⟩
          by_cases hbt : V.testBit (n - lv - (m + 1)) = true
          · rw [if_pos hbt] at hmod; omega
          · rw [if_neg hbt] at hmod; omega
        · refine Or.inr ⟨q1, ?_⟩
          by_cases hbt : V.testBit (n - lv - (m + 1)) = true
          · rw [if_pos hbt] at hmod; omega
          · rw [if_neg hbt] at hmod; omega
    · rw [B2 f k q1 (by omega)]
      show wjL F T A.1 (n - (m + 1)) (lc (n - (m + 1))) (rc (n - (m + 1))) true f k = u.1 f k
      rw [wjL_o q1 (by omega), rows f k q1 q2]
/-- the class's best -/
theorem best_c (hb : BT T lc rc w lv n) (hS : SB S) (hF : FB F) (bs : Int64) : ∃ B, B < 2 ^ (n - lv) ∧ (tfF F T lc rc lv n (n - lv) (nI 0) (wsF S lv 0 L, bs, -1)).2 = (sc S F T lc rc lv n B, nI B) ∧ ∀ V', V' < 2 ^ (n - lv) → (sc S F T lc rc lv n V').toInt < (sc S F T lc rc lv n B).toInt ∨ ((sc S F T lc rc lv n V').toInt = (sc S F T lc rc lv n B).toInt ∧ B ≤ V') := by
  have hn := hb.2.2.2.2.2
  obtain ⟨a, b⟩ := ws_ok (S := S) (F := F) (T := T) (lc := lc) (rc := rc) (lv := lv) (V := 0) (L := L) (m := lv) (k := 0) (fun k q1 q2 => by omega) (by omega) (fun k q => by omega) (fun k q => by omega)
  obtain ⟨h1, -⟩ := tf_ok hb hS hF (m := n - lv) (v := 0) (u := (wsF S lv 0 L, bs, -1)) (P := fun _ => False) (Nat.le_refl _) (Nat.two_pow_pos _) (by rw [show n - (n - lv) = lv by omega]; exact a) (by rw [show n - (n - lv) = lv by omega]; exact b) (Or.inl ⟨rfl, fun _ h => h⟩)
  have all : ∀ V', V' < 2 ^ (n - lv) → (False ∨ (V' < 2 ^ (n - lv) ∧ V' % 2 ^ (n - lv - (n - lv)) = 0)) := fun V' q => Or.inr ⟨q, by rw [Nat.sub_self, Nat.pow_zero, Nat.mod_one]⟩
  rcases h1 with ⟨-, g2⟩ | ⟨B, g1, g2, g3, g4⟩
  · exact absurd (all 0 (Nat.two_pow_pos _)) (g2 0)
  · rcases g2 with g2 | g2
    · exact absurd g2 id
    · exact ⟨B, g2.1, g3, fun V' q => g4 V' (all V' q)⟩
/-- the model's best -/
theorem bs_ok (hb : BT T lc rc w lv n) (hS : SB S) (hF : FB F) : ∀ {m k : Nat} {u : Nat × Int64 × (Nat → Nat → Int64)}, k + m ≤ 512 → u.1 < k → u.2.1 = sc S F T lc rc lv n u.1 → (∀ V', V' < k → (sc S F T lc rc lv n V').toInt < (sc S F T lc rc lv n u.1).toInt ∨ ((sc S F T lc rc lv n V').toInt = (sc S F T lc rc lv n u.1).toInt ∧ u.1 ≤ V')) →
    (bsF S F T lc rc (pO T) lv n 21 m k u).1 < k + m ∧ ∀ V', V' < k + m → (sc S F T lc rc lv n V').toInt < (sc S F T lc rc lv n (bsF S F T lc rc (pO T) lv n 21 m k u).1).toInt ∨ ((sc S F T lc rc lv n V').toInt = (sc S F T lc rc lv n (bsF S F T lc rc (pO T) lv n 21 m k u).1).toInt ∧ (bsF S F T lc rc (pO T) lv n 21 m k u).1 ≤ V')
  | 0, k, u, h1, h2, h3, h4 => ⟨h2, h4⟩
  | m + 1, k, u, h1, h2, h3, h4 => by
    have est : bsF S F T lc rc (pO T) lv n 21 (m + 1) k u = bsF S F T lc rc (pO T) lv n 21 m (k + 1) (if soV S F T lc rc (pO T) lv n 21 (nI k) u.2.2 > u.2.1 then (k, soV S F T lc rc (pO T) lv n 21 (nI k) u.2.2, soL S F T lc rc lv n (nI k) u.2.2) else (u.1, u.2.1, soL S F T lc rc lv n (nI k) u.2.2)) := rfl
    rw [est]
    rw [sc_m hb hS hF (show k < 512 by omega), h3, show k + (m + 1) = k + 1 + m by omega]
    by_cases hc : sc S F T lc rc lv n k > sc S F T lc rc lv n u.1
    · rw [if_pos hc]
      have hc2 := Int64.lt_iff_toInt_lt.mp hc
      refine bs_ok hb hS hF (m := m) (k := k + 1) (u := (k, sc S F T lc rc lv n k, soL S F T lc rc lv n (nI k) u.2.2)) (by omega) (Nat.lt_succ_self _) rfl (fun V' q => ?_)
      show _ < (sc S F T lc rc lv n k).toInt ∨ (_ = (sc S F T lc rc lv n k).toInt ∧ k ≤ V')
      by_cases e : V' = k
      · rw [e]; exact Or.inr ⟨rfl, Nat.le_refl _⟩
      · have := h4 V' (by omega); omega
    · rw [if_neg hc]
      have hc2 : ¬ (sc S F T lc rc lv n u.1).toInt < (sc S F T lc rc lv n k).toInt := fun q => hc (Int64.lt_iff_toInt_lt.mpr q)
      refine bs_ok hb hS hF (m := m) (k := k + 1) (u := (u.1, sc S F T lc rc lv n u.1, soL S F T lc rc lv n (nI k) u.2.2)) (by omega) (show u.1 < k + 1 by omega) rfl (fun V' q => ?_)
      show _ < (sc S F T lc rc lv n u.1).toInt ∨ (_ = (sc S F T lc rc lv n u.1).toInt ∧ u.1 ≤ V')
      by_cases e : V' = k
      · rw [e]; omega
      · exact h4 V' (by omega)
theorem best_ok (hb : BT T lc rc w lv n) (hS : SB S) (hF : FB F) (bs : Int64) {u : Nat × Int64 × (Nat → Nat → Int64)} (hu : u.1 = 0) (hu2 : u.2.1 = sc S F T lc rc lv n 0) :
    (bsF S F T lc rc (pO T) lv n 21 (2 ^ (n - lv) - 1) 1 u).1 < 2 ^ (n - lv) ∧ (tfF F T lc rc lv n (n - lv) (nI 0) (wsF S lv 0 L, bs, -1)).2 = (sc S F T lc rc lv n (bsF S F T lc rc (pO T) lv n 21 (2 ^ (n - lv) - 1) 1 u).1, nI (bsF S F T lc rc (pO T) lv n 21 (2 ^ (n - lv) - 1) 1 u).1) := by
  have hn := hb.2.2.2.2.2
  have hp : 0 < 2 ^ (n - lv) := Nat.two_pow_pos _
  have h9 : 2 ^ (n - lv) ≤ 512 := Nat.pow_le_pow_right (n := 2) (by decide) (show n - lv ≤ 9 by omega)
  obtain ⟨B, b1, b2, b3⟩ := best_c (L := L) hb hS hF bs
  obtain ⟨m1, m2⟩ := bs_ok hb hS hF (m := 2 ^ (n - lv) - 1) (k := 1) (u := u) (by omega) (by omega) (by rw [hu]; exact hu2) (fun V' q => by
    rw [hu, show V' = 0 by omega]; exact Or.inr ⟨rfl, Nat.le_refl _⟩)
  rw [show 1 + (2 ^ (n - lv) - 1) = 2 ^ (n - lv) by omega] at m1 m2
  generalize (bsF S F T lc rc (pO T) lv n 21 (2 ^ (n - lv) - 1) 1 u).1 = C at *
  have e : B = C := by
    have := b3 C m1
    have := m2 B b1
    omega
  rw [b2, e]
  exact ⟨m1, rfl⟩
end
