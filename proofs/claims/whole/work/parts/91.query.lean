/-! what is asked of the tree and of the circuit -/
theorem in_ge {x : Int32} {n : Nat} (h1 : 1 ≤ n) (h : n < 1000) : (¬ x < 0 ∧ ¬ nI n ≤ x) ↔ inW x (nI 0) (nI (n - 1)) := by
  rw [inW_int (by decide) (by omega), i3_le, i3_lt, nI_toInt (by omega), i3_z]
  omega
theorem in_lt {x : Int32} {n : Nat} (h1 : 1 ≤ n) (h : n < 1000) : (¬ x < 0 ∧ x < nI n) ↔ inW x (nI 0) (nI (n - 1)) := by
  rw [inW_int (by decide) (by omega), i3_lt, i3_lt, nI_toInt (by omega), i3_z]
  omega
theorem in_lm {x : Int32} {m n : Nat} (h1 : 1 ≤ n) (hm : m < 1000) (h : n < 1000) : (¬ x < nI m ∧ x < nI n) ↔ inW x (nI m) (nI (n - 1)) := by
  rw [inW_int (by omega) (by omega), i3_lt, i3_lt, nI_toInt (by omega), nI_toInt (by omega)]
  omega
theorem in_le {x : Int32} {n : Nat} (h : n < 1000) : (¬ x < 0 ∧ x ≤ nI n) ↔ inW x (nI 0) (nI n) := by
  rw [inW_int (by decide) (by omega), i3_lt, i3_le, nI_toInt (by omega), i3_z]
  omega
theorem xb_dec (P : Prop) [Decidable P] : xb P = xb (decide P = true) := xb_iff (by simp)
theorem xb_same {p q : Bool} : xb (p = true) = xb (q = true) ↔ p = q := by
  revert p q
  decide
section
variable {S T K Z : Nat → Nat → Int32} {L L' L2 L3 : Nat → Nat → Int64} {F F' : Nat → Int32} {bs bs2 : Int64} {lc rc w : Nat → Nat} {lv n V : Nat} {v : Int32}
theorem BT_pq (h : BT T lc rc w lv n) : ∀ i, lv ≤ i → i < n → T 0 i = nI (lc i) ∧ T 1 i = nI (rc i) ∧ lc i < 19 ∧ rc i < 19 := fun i h1 h2 => by
  have := h.1 i h1 h2
  have hn := h.2.2.2.2.2
  exact ⟨this.2.2.1, this.2.2.2.1, by omega, by omega⟩
theorem BT_ch (h : BT T lc rc w lv n) : ∀ k, lv ≤ k → k < n → lc k < k ∧ rc k < k := fun k q1 q2 => ⟨(h.1 k q1 q2).1, (h.1 k q1 q2).2.1⟩
theorem Rel_12 {v : Int32} {M : xMS} (h : Rel (S, T, L, F, bs) M) : Rel (S, T, L2, tS F 12 v, bs2) M := by
  obtain ⟨h1, h2, h3, h4, h5, h6, h7, h8, h9, h10⟩ := h
  refine ⟨h1, h2, h3, h4, h5, FB_t h6 (by decide), Fe_l h7 (by decide), Fs_t h8 (by decide), ?_, Bl_t (by decide) h10⟩
  obtain ⟨ct, a, b⟩ := h9
  exact ⟨ct, a, b⟩
theorem Rel_V {V' : Nat} {Z' : Nat → Nat → Int32} (h : Rel (S, T, L, F, bs) (S, T, K, Z, L', F')) (hb : BT T lc rc w lv n) (f2 : F 2 = nI 1) (f4 : F 4 = nI lv) (f5 : F 5 = nI lv) (f6 : F 6 = nI n) (hV : V' < 2 ^ (n - lv)) (hZ : ZV Z' lv n V') : Rel (S, T, L2, tS F 3 (nI V'), bs2) (S, T, K, Z', L3, tS F' 3 v) := by
  obtain ⟨h1, h2, h3, h4, h5, h6, h7, h8, h9, h10⟩ := h
  obtain ⟨ct, a, b⟩ := h9
  refine ⟨h1, h2, h3, h4, h5, FB_t h6 (by decide), Fe_l (Fe_r h7 (by decide)) (by decide), Fs_t h8 (by decide), ⟨ct, a, b⟩, Or.inr ⟨f2, lc, rc, w, lv, n, V', hb, f4, f5, f6, hV, rfl, hZ⟩⟩
theorem FQ_e (h : Fe F F') : FQ F (tS F' 3 v) := fun k h1 h2 => by
  rw [tS_ne _ _ (by omega)]
  exact (h k (by omega) (by omega) (by omega)).symm
end
section
variable {l : Launch} {G : xG} {sa a a' : Nat → Nat} {o : Nat}
theorem p_node (hl0 : l.stackTraces = false) : st_node l G sa a a' o Rel := by
  intro cs ms h x y f
  obtain ⟨S, T, L, F, bs⟩ := cs
  obtain ⟨S', T', K, Z, L', F'⟩ := ms
  have h0 := h
  obtain ⟨h1, h2, h3, h4, h5, h6, h7, h8, h9, h10⟩ := h0
  cases h1
  cases h2
  replace h5 : SB S := h5
  replace h6 : FB F := h6
  replace h7 : Fe F F' := h7
  replace h8 : Fs F := h8
  replace h10 : Bl T F Z := h10
  have e2 : F' 2 = F 2 := h7 2 (by decide) (by decide) (by decide)
  have e4 : F' 4 = F 4 := h7 4 (by decide) (by decide) (by decide)
  have e6 : F' 6 = F 6 := h7 6 (by decide) (by decide) (by decide)
  rcases h10 with f2 | ⟨f2, lc, rc, w, lv, n, V, hb, f4, f5, f6, hV, f3, hZ⟩
  · refine ⟨nI 1, nI 0, (S, T, L, F, bs), (S, T, K, Z, L', tS F' 3 (nI 1)), f, _, cL_node_x1 l G sa gX_0 x y o f ⟨by decide, by decide, by rfl, by rfl⟩ (c_X3_node_x1 l hl0 G sa a S T L F bs x y f2), ?_, c_X4_node_t1 l G a' S T K Z L' F' x y (e2.trans f2), rfl, fun q => absurd q k1_ne, Rel_t h⟩
    exact ⟨by decide, by decide, rfl, rfl⟩
  · have hn := hb.2.2.2.2.2
    by_cases hc : inW x (nI 0) (nI (n - 1)) ∧ inW y (nI 0) (nI 10)
    · obtain ⟨hx, hy⟩ := hc
      obtain ⟨i, -, i2, rfl⟩ := inW_nat (by omega) (by omega) hx
      obtain ⟨j, -, j2, rfl⟩ := inW_nat (by omega) (by omega) hy
      refine ⟨nI 0, T j i, (S, T, L, F, bs), (S, T, K, Z, L', tS F' 3 (nI 0)), vp_updL f 0 (T j i).toInt64, _, cL_node_n l G sa gX_0 (nI i) (nI j) o f (T j i) ⟨by decide, by decide, by rfl, by rfl⟩ (c_X3_node l G a S T L F bs i j n f2 f6 (by omega) (by omega) (by omega)), ?_, c_X4_node l G a' S T K Z L' F' i j lv n (e2.trans f2) (e4.trans f4) (e6.trans f6) (by omega) (by omega) (by omega) (by omega) (by omega) (by omega), rfl, fun _ => uL_us, Rel_t h⟩
      exact ⟨by decide, by decide, rfl, rfl⟩
    · refine ⟨nI 2, nI 0, (S, T, L, F, bs), (S, T, K, Z, L', tS F' 3 (nI 2)), f, _, cL_node_x2 l G sa gX_0 x y o f ⟨by decide, by decide, by rfl, by rfl⟩ (c_X3_node_x2 l hl0 G sa a S T L F bs x y lv n f2 f5 f6 (by omega) (by omega) (by omega) (by omega) hc), ?_, c_X4_node_t2 l G a' S T K Z L' F' x y (e2.trans f2) (by rw [e6, f6, in_ge (by omega) (by omega), in_le (by decide)]; exact hc), rfl, fun q => absurd q k2_ne, Rel_t h⟩
      exact ⟨by decide, by decide, rfl, rfl⟩
theorem p_length (hl0 : l.stackTraces = false) : st_length l G sa a a' o Rel := by
  intro cs ms h f
  obtain ⟨S, T, L, F, bs⟩ := cs
  obtain ⟨S', T', K, Z, L', F'⟩ := ms
  have h0 := h
  obtain ⟨h1, h2, h3, h4, h5, h6, h7, h8, h9, h10⟩ := h0
  cases h1
  cases h2
  replace h5 : SB S := h5
  replace h6 : FB F := h6
  replace h7 : Fe F F' := h7
  replace h8 : Fs F := h8
  replace h10 : Bl T F Z := h10
  have e2 : F' 2 = F 2 := h7 2 (by decide) (by decide) (by decide)
  have e4 : F' 4 = F 4 := h7 4 (by decide) (by decide) (by decide)
  have e6 : F' 6 = F 6 := h7 6 (by decide) (by decide) (by decide)
  rcases h10 with f2 | ⟨f2, lc, rc, w, lv, n, V, hb, f4, f5, f6, hV, f3, hZ⟩
  · refine ⟨nI 1, nI 0, (S, T, L, F, bs), (S, T, K, Z, L', tS F' 3 (nI 1)), f, _, cL_length_x1 l G sa gX_0 o f ⟨by decide, by decide, by rfl, by rfl⟩ (c_X3_length_x1 l hl0 G sa a S T L F bs f2), ?_, c_X4_length_t1 l G a' S T K Z L' F' (e2.trans f2), rfl, fun q => absurd q k1_ne, Rel_t h⟩
    exact ⟨by decide, by decide, rfl, rfl⟩
  · have hn := hb.2.2.2.2.2
    refine ⟨nI 0, sumW T n 0 (nI 0), (S, T, L, F, bs), (S, T, K, Z, L', tS F' 3 (nI 0)), vp_updL f 0 (sumW T n 0 (nI 0)).toInt64, _, cL_length_n l G sa gX_0 o f (sumW T n 0 (nI 0)) ⟨by decide, by decide, by rfl, by rfl⟩ (c_X3_length l G a S T L F bs n f2 f6 (by omega)), ?_, c_X4_length l G a' S T K Z L' F' lv n (e2.trans f2) (e4.trans f4) (e6.trans f6) (by omega) (by omega) (by omega) (by omega), rfl, fun _ => uL_us, Rel_t h⟩
    exact ⟨by decide, by decide, rfl, rfl⟩
theorem p_depth (hl0 : l.stackTraces = false) : st_depth l G sa a a' o Rel := by
  intro cs ms h x f
  obtain ⟨S, T, L, F, bs⟩ := cs
  obtain ⟨S', T', K, Z, L', F'⟩ := ms
  have h0 := h
  obtain ⟨h1, h2, h3, h4, h5, h6, h7, h8, h9, h10⟩ := h0
  cases h1
  cases h2
  replace h5 : SB S := h5
  replace h6 : FB F := h6
  replace h7 : Fe F F' := h7
  replace h8 : Fs F := h8
  replace h10 : Bl T F Z := h10
  have e2 : F' 2 = F 2 := h7 2 (by decide) (by decide) (by decide)
  have e4 : F' 4 = F 4 := h7 4 (by decide) (by decide) (by decide)
  have e6 : F' 6 = F 6 := h7 6 (by decide) (by decide) (by decide)
  rcases h10 with f2 | ⟨f2, lc, rc, w, lv, n, V, hb, f4, f5, f6, hV, f3, hZ⟩
  · refine ⟨nI 1, nI 0, (S, T, L, F, bs), (S, T, K, Z, L', tS F' 3 (nI 1)), f, _, cL_depth_x1 l G sa gX_0 x o f ⟨by decide, by decide, by rfl, by rfl⟩ (c_X3_depth_x1 l hl0 G sa a S T L F bs x f2), ?_, c_X4_depth_t1 l G a' S T K Z L' F' x (e2.trans f2), rfl, fun q => absurd q k1_ne, Rel_t h⟩
    exact ⟨by decide, by decide, rfl, rfl⟩
  · have hn := hb.2.2.2.2.2
    by_cases hc : inW x (nI 0) (nI (lv - 1))
    · obtain ⟨i, -, i2, rfl⟩ := inW_nat (by omega) (by omega) hc
      have hu : upF T (n - lv) lv i 0 = chD (pO T) 20 (pO T i) 0 := up_is hb (by omega) (by omega) (fun p hp => by
        rcases BT_po hb (k := i) (by omega) with q | ⟨m, q1, q2, q3, q4, q5, q6⟩
        · rw [q.2] at hp; exact absurd hp (by simp)
        · rw [q5] at hp; cases hp; exact q2) (by omega)
      have c3 := c_X3_depth l G a S T L F bs i lv n f2 f5 f6 (by omega) (by omega) (by omega) (by omega)
      rw [hu] at c3
      refine ⟨nI 0, nI (chD (pO T) 20 (pO T i) 0), (S, T, L, F, bs), (S, T, K, Z, L', tS F' 3 (nI 0)), vp_updL f 0 (nI (chD (pO T) 20 (pO T i) 0)).toInt64, _, cL_depth_n l G sa gX_0 (nI i) o f _ ⟨by decide, by decide, by rfl, by rfl⟩ c3, ?_, c_X4_depth l G a' S T K Z L' F' i lv n (e2.trans f2) (e4.trans f4) (e6.trans f6) (by omega) (by omega) (by omega) (by omega) (pO T) 20 (fun k _ => pO_is T k) (by omega) (by decide) (BT_cn2 hb (by omega) (by omega)), rfl, fun _ => uL_us, Rel_t h⟩
      exact ⟨by decide, by decide, rfl, rfl⟩
    · refine ⟨nI 2, nI 0, (S, T, L, F, bs), (S, T, K, Z, L', tS F' 3 (nI 2)), f, _, cL_depth_x2 l G sa gX_0 x o f ⟨by decide, by decide, by rfl, by rfl⟩ (c_X3_depth_x2 l hl0 G sa a S T L F bs x lv n f2 f5 f6 (by omega) (by omega) (by omega) (by omega) hc), ?_, c_X4_depth_t2 l G a' S T K Z L' F' x (e2.trans f2) (by rw [e4, f4, in_lt (by omega) (by omega)]; exact hc), rfl, fun q => absurd q k2_ne, Rel_t h⟩
      exact ⟨by decide, by decide, rfl, rfl⟩
theorem p_set (hl0 : l.stackTraces = false) : st_set l G sa a a' o Rel := by
  intro cs ms h x y f
  rw [xb_dec (¬ y = 0)]
  generalize decide (¬ y = 0) = on
  obtain ⟨S, T, L, F, bs⟩ := cs
  obtain ⟨S', T', K, Z, L', F'⟩ := ms
  have h0 := h
  obtain ⟨h1, h2, h3, h4, h5, h6, h7, h8, h9, h10⟩ := h0
  cases h1
  cases h2
  replace h5 : SB S := h5
  replace h6 : FB F := h6
  replace h7 : Fe F F' := h7
  replace h8 : Fs F := h8
  replace h10 : Bl T F Z := h10
  have e2 : F' 2 = F 2 := h7 2 (by decide) (by decide) (by decide)
  have e4 : F' 4 = F 4 := h7 4 (by decide) (by decide) (by decide)
  have e6 : F' 6 = F 6 := h7 6 (by decide) (by decide) (by decide)
  rcases h10 with f2 | ⟨f2, lc, rc, w, lv, n, V, hb, f4, f5, f6, hV, f3, hZ⟩
  · refine ⟨nI 1, nI 0, (S, T, L, F, bs), (S, T, K, Z, L', tS F' 3 (nI 1)), f, _, cL_set_x1 l G sa gX_0 x (xb (on = true)) o f ⟨by decide, by decide, by rfl, by rfl⟩ (c_X3_set_x1 l hl0 G sa a S T L F bs x (xb (on = true)) f2), ?_, c_X4_set_t1 l G a' S T K Z L' F' x on (e2.trans f2), rfl, fun q => absurd q k1_ne, Rel_t h⟩
    exact ⟨by decide, by decide, rfl, rfl⟩
  · have hn := hb.2.2.2.2.2
    have hV9 : V < 512 := pow_512 (by omega) hV
    by_cases hc : inW x (nI lv) (nI (n - 1))
    · obtain ⟨j, j1, j2, rfl⟩ := inW_nat (by omega) (by omega) hc
      have hW : setN V (j - lv) on < 2 ^ (n - lv) := setN_lt hV (by omega)
      have hW9 : setN V (j - lv) on < 512 := pow_512 (by omega) hW
      have c3 := c_X3_set l G a S T L F bs j lv n on f2 f5 f6 (by omega) j1 (by omega)
      rw [f3, setV_is V hV9 (j - lv) (by omega) on] at c3
      have hr : xb (¬ nI (setN V (j - lv) on) = nI V) = xb (¬ Z 0 j = xb (on = true)) := xb_iff (by
        rw [hZ j j1 (by omega), xb_same, nI_eq (by omega) (by omega), setN_same])
      refine ⟨nI 0, xb (¬ Z 0 j = xb (on = true)), (S, T, L, tS F 3 (nI (setN V (j - lv) on)), bs), (S, T, K, tS Z 0 (upd (Z 0) j (xb (on = true))), L', tS F' 3 (nI 0)), vp_updL f 0 (if xb (¬ nI (setN V (j - lv) on) = nI V) = 0 then 0 else 1), _, cL_set_n l G sa gX_0 (nI j) (xb (on = true)) o f _ ⟨by decide, by decide, by rfl, by rfl⟩ c3, ?_, c_X4_set l G a' S T K Z L' F' j on lv n (e2.trans f2) (e4.trans f4) (e6.trans f6) (by omega) (by omega) (by omega) (by omega) j1 (by omega), rfl, fun _ => ?_, Rel_V h hb f2 f4 f5 f6 hW (ZV_set hZ j1)⟩
      · exact ⟨by decide, by decide, rfl, rfl⟩
      · rw [uL_us, hr]
    · refine ⟨nI 2, nI 0, (S, T, L, F, bs), (S, T, K, Z, L', tS F' 3 (nI 2)), f, _, cL_set_x2 l G sa gX_0 x (xb (on = true)) o f ⟨by decide, by decide, by rfl, by rfl⟩ (c_X3_set_x2 l hl0 G sa a S T L F bs x (xb (on = true)) lv n f2 f5 f6 (by omega) (by omega) (by omega) (by omega) hc), ?_, c_X4_set_t2 l G a' S T K Z L' F' x on (e2.trans f2) (by rw [e4, e6, f4, f6, in_lm (by omega) (by omega) (by omega)]; exact hc), rfl, fun q => absurd q k2_ne, Rel_t h⟩
      exact ⟨by decide, by decide, rfl, rfl⟩
theorem p_setting (hl0 : l.stackTraces = false) : st_setting l G sa a a' o Rel := by
  intro cs ms h f
  obtain ⟨S, T, L, F, bs⟩ := cs
  obtain ⟨S', T', K, Z, L', F'⟩ := ms
  have h0 := h
  obtain ⟨h1, h2, h3, h4, h5, h6, h7, h8, h9, h10⟩ := h0
  cases h1
  cases h2
  replace h5 : SB S := h5
  replace h6 : FB F := h6
  replace h7 : Fe F F' := h7
  replace h8 : Fs F := h8
  replace h10 : Bl T F Z := h10
  have e2 : F' 2 = F 2 := h7 2 (by decide) (by decide) (by decide)
  have e4 : F' 4 = F 4 := h7 4 (by decide) (by decide) (by decide)
  have e6 : F' 6 = F 6 := h7 6 (by decide) (by decide) (by decide)
  rcases h10 with f2 | ⟨f2, lc, rc, w, lv, n, V, hb, f4, f5, f6, hV, f3, hZ⟩
  · refine ⟨nI 1, nI 0, (S, T, L, F, bs), (S, T, K, Z, L', tS F' 3 (nI 1)), f, _, cL_setting_x1 l G sa gX_0 o f ⟨by decide, by decide, by rfl, by rfl⟩ (c_X3_setting_x1 l hl0 G sa a S T L F bs f2), ?_, c_X4_setting_t1 l G a' S T K Z L' F' (e2.trans f2), rfl, fun q => absurd q k1_ne, Rel_t h⟩
    exact ⟨by decide, by decide, rfl, rfl⟩
  · have hn := hb.2.2.2.2.2
    have c4 := c_X4_setting l G a' S T K Z L' F' lv n (e2.trans f2) (e4.trans f4) (e6.trans f6) (by omega) (by omega) (by omega) (by omega)
    rw [num_V hZ (by omega) (by omega) hV] at c4
    have c3 := c_X3_setting l G a S T L F bs f2
    rw [f3] at c3
    refine ⟨nI 0, nI V, (S, T, L, F, bs), (S, T, K, Z, L', tS F' 3 (nI 0)), vp_updL f 0 (nI V).toInt64, _, cL_setting_n l G sa gX_0 o f (nI V) ⟨by decide, by decide, by rfl, by rfl⟩ c3, ?_, c4, rfl, fun _ => uL_us, Rel_t h⟩
    exact ⟨by decide, by decide, rfl, rfl⟩
end
