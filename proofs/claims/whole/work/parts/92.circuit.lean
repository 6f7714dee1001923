/-! what is asked of the circuit -/
section
variable {l : Launch} {G : xG} {sa a a' : Nat → Nat} {o : Nat}
theorem p_load (hl0 : l.stackTraces = false) : st_load l G sa a a' o Rel := by
  intro cs ms h x y f
  rw [xb_dec (¬ y = 0)]
  generalize decide (¬ y = 0) = sh
  obtain ⟨S, T, L, F, bs⟩ := cs
  obtain ⟨S', T', K, Z, L', F'⟩ := ms
  have h0 := h
  obtain ⟨h1, h2, h3, h4, h5, h6, h7, h8, h9, h10⟩ := h0
  cases h1
  cases h2
  replace h5 : SB S := h5
  replace h6 : FB F := h6
  replace h7 : Fe F F' := h7
  replace h8 : Fs F := h8
  replace h10 : Bl T F Z := h10
  have e2 : F' 2 = F 2 := h7 2 (by decide) (by decide) (by decide)
  have e4 : F' 4 = F 4 := h7 4 (by decide) (by decide) (by decide)
  have e6 : F' 6 = F 6 := h7 6 (by decide) (by decide) (by decide)
  have fq : FQ F (tS F' 3 (nI 0)) := FQ_e h7
  rcases h10 with f2 | ⟨f2, lc, rc, w, lv, n, V, hb, f4, f5, f6, hV, f3, hZ⟩
  · refine ⟨nI 1, 0, (S, T, L, F, bs), (S, T, K, Z, L', tS F' 3 (nI 1)), f, _, cL_load_x1 l G sa gX_0 x (xb (sh = true)) o f ⟨by decide, by decide, by rfl, by rfl⟩ (c_X3_load_x1 l hl0 G sa a S T L F bs x (xb (sh = true)) f2), ?_, c_X4_load_t1 l G a' S T K Z L' F' x sh (e2.trans f2), rfl, fun q => absurd q k1_ne, Rel_t h⟩
    exact ⟨by decide, by decide, rfl, rfl⟩
  · have hn := hb.2.2.2.2.2
    have hV9 : V < 512 := pow_512 (by omega) hV
    by_cases hc : inW x (nI 0) (nI (n - 1))
    · obtain ⟨i, -, i2, rfl⟩ := inW_nat (by omega) (by omega) hc
      have c3 := c_X3_load l G a S T L F bs i sh f2 lc rc lv n f5 f6 (by omega) (by omega) (by omega) (by omega) (BT_pq hb) (by omega)
      have c4 := c_X4_load l G a' S T K Z L' F' i sh lv n (e2.trans f2) (e4.trans f4) (e6.trans f6) (by omega) (by omega) (by omega) (by omega) lc rc (BT_pq hb) (by omega)
      have sm := So_same (BT_ch hb) (weigh_ok (S := S) (F := F) (L := L) hb hV9).1 (weighM_ok (S := S) (F := F) (L := L') hb hV9)
      rw [f3] at c3
      rw [num_V hZ (by omega) (by omega) hV, ← wmF_F fq] at c4
      generalize wgF F T lc rc lv (nI V) (n - lv) lv (wsF S lv 0 L) = W at c3 sm
      generalize wmF S F T lc rc lv (nI V) n 0 L' = W' at c4 sm
      refine ⟨nI 0, (if sh = true then W' 1 i else W' 0 i), (S, T, W, F, bs), (S, T, K, Z, W', tS F' 3 (nI 0)), vp_updL f 0 (if sh = true then W 1 i else W 0 i), _, cL_load_n l G sa gX_0 (nI i) (xb (sh = true)) o f _ ⟨by decide, by decide, by rfl, by rfl⟩ c3, ?_, c4, rfl, fun _ => ?_, Rel_t h⟩
      · exact ⟨by decide, by decide, rfl, rfl⟩
      · rw [uL_us, (sm i (by omega)).1, (sm i (by omega)).2]
    · refine ⟨nI 2, 0, (S, T, L, F, bs), (S, T, K, Z, L', tS F' 3 (nI 2)), f, _, cL_load_x2 l G sa gX_0 x (xb (sh = true)) o f ⟨by decide, by decide, by rfl, by rfl⟩ (c_X3_load_x2 l hl0 G sa a S T L F bs x (xb (sh = true)) lv n f2 f5 f6 (by omega) (by omega) (by omega) (by omega) hc), ?_, c_X4_load_t2 l G a' S T K Z L' F' x sh (e2.trans f2) (by rw [e6, f6, in_ge (by omega) (by omega)]; exact hc), rfl, fun q => absurd q k2_ne, Rel_t h⟩
      exact ⟨by decide, by decide, rfl, rfl⟩
theorem p_delay (hl0 : l.stackTraces = false) : st_delay l G sa a a' o Rel := by
  intro cs ms h x f
  obtain ⟨S, T, L, F, bs⟩ := cs
  obtain ⟨S', T', K, Z, L', F'⟩ := ms
  have h0 := h
  obtain ⟨h1, h2, h3, h4, h5, h6, h7, h8, h9, h10⟩ := h0
  cases h1
  cases h2
  replace h5 : SB S := h5
  replace h6 : FB F := h6
  replace h7 : Fe F F' := h7
  replace h8 : Fs F := h8
  replace h10 : Bl T F Z := h10
  have e2 : F' 2 = F 2 := h7 2 (by decide) (by decide) (by decide)
  have e4 : F' 4 = F 4 := h7 4 (by decide) (by decide) (by decide)
  have e6 : F' 6 = F 6 := h7 6 (by decide) (by decide) (by decide)
  have fq : FQ F (tS F' 3 (nI 0)) := FQ_e h7
  rcases h10 with f2 | ⟨f2, lc, rc, w, lv, n, V, hb, f4, f5, f6, hV, f3, hZ⟩
  · refine ⟨nI 1, 0, (S, T, L, F, bs), (S, T, K, Z, L', tS F' 3 (nI 1)), f, _, cL_delay_x1 l G sa gX_0 x o f ⟨by decide, by decide, by rfl, by rfl⟩ (c_X3_delay_x1 l hl0 G sa a S T L F bs x f2), ?_, c_X4_delay_t1 l G a' S T K Z L' F' x (e2.trans f2), rfl, fun q => absurd q k1_ne, Rel_t h⟩
    exact ⟨by decide, by decide, rfl, rfl⟩
  · have hn := hb.2.2.2.2.2
    have hV9 : V < 512 := pow_512 (by omega) hV
    by_cases hc : inW x (nI 0) (nI (lv - 1))
    · obtain ⟨i, -, i2, rfl⟩ := inW_nat (by omega) (by omega) hc
      have c3 := c_X3_delay l G a S T L F bs i f2 lc rc lv n f5 f6 (by omega) (by omega) (by omega) (by omega) (BT_pq hb) (by omega)
      have c4 := c_X4_delay l G a' S T K Z L' F' i lv n (e2.trans f2) (e4.trans f4) (e6.trans f6) (by omega) (by omega) (by omega) (by omega) lc rc (BT_pq hb) (pO T) 21 (fun k _ => pO_is T k) (fun k hk => BT_cn hb (by omega) (by omega)) (by omega)
      have sm := So_same (BT_ch hb) (weigh_ok (S := S) (F := F) (L := L) hb hV9).1 (weighM_ok (S := S) (F := F) (L := L') hb hV9)
      rw [f3] at c3
      rw [num_V hZ (by omega) (by omega) hV, ← wmF_F fq, ← dmF_F fq] at c4
      generalize wgF F T lc rc lv (nI V) (n - lv) lv (wsF S lv 0 L) = W at c3 sm
      generalize wmF S F T lc rc lv (nI V) n 0 L' = W' at c4 sm
      have hd := delay_ok (F := F) hb hV9 sm (k := i) (N := 20) (by omega) (by omega)
      refine ⟨nI 0, dmF F T W' (pO T) lv (nI V) 21 (some i) 0, (S, T, W, F, bs), (S, T, K, Z, W', tS F' 3 (nI 0)), vp_updL f 0 (dlF F T W lv (nI V) (n - lv) lv i (wdL F T W i)), _, cL_delay_n l G sa gX_0 (nI i) o f _ ⟨by decide, by decide, by rfl, by rfl⟩ c3, ?_, c4, rfl, fun _ => ?_, Rel_t h⟩
      · exact ⟨by decide, by decide, rfl, rfl⟩
      · rw [uL_us, hd]
    · refine ⟨nI 2, 0, (S, T, L, F, bs), (S, T, K, Z, L', tS F' 3 (nI 2)), f, _, cL_delay_x2 l G sa gX_0 x o f ⟨by decide, by decide, by rfl, by rfl⟩ (c_X3_delay_x2 l hl0 G sa a S T L F bs x lv n f2 f5 f6 (by omega) (by omega) (by omega) (by omega) hc), ?_, c_X4_delay_t2 l G a' S T K Z L' F' x (e2.trans f2) (by rw [e4, f4, in_lt (by omega) (by omega)]; exact hc), rfl, fun q => absurd q k2_ne, Rel_t h⟩
      exact ⟨by decide, by decide, rfl, rfl⟩
theorem p_slack (hl0 : l.stackTraces = false) : st_slack l G sa a a' o Rel := by
  intro cs ms h f
  obtain ⟨S, T, L, F, bs⟩ := cs
  obtain ⟨S', T', K, Z, L', F'⟩ := ms
  have h0 := h
  obtain ⟨h1, h2, h3, h4, h5, h6, h7, h8, h9, h10⟩ := h0
  cases h1
  cases h2
  replace h5 : SB S := h5
  replace h6 : FB F := h6
  replace h7 : Fe F F' := h7
  replace h8 : Fs F := h8
  replace h10 : Bl T F Z := h10
  have e2 : F' 2 = F 2 := h7 2 (by decide) (by decide) (by decide)
  have e4 : F' 4 = F 4 := h7 4 (by decide) (by decide) (by decide)
  have e6 : F' 6 = F 6 := h7 6 (by decide) (by decide) (by decide)
  have fq : FQ F (tS F' 3 (nI 0)) := FQ_e h7
  rcases h10 with f2 | ⟨f2, lc, rc, w, lv, n, V, hb, f4, f5, f6, hV, f3, hZ⟩
  · refine ⟨nI 1, 0, (S, T, L, F, bs), (S, T, K, Z, L', tS F' 3 (nI 1)), f, _, cL_slack_x1 l G sa gX_0 o f ⟨by decide, by decide, by rfl, by rfl⟩ (c_X3_slack_x1 l hl0 G sa a S T L F bs f2), ?_, c_X4_slack_t1 l G a' S T K Z L' F' (e2.trans f2), rfl, fun q => absurd q k1_ne, Rel_t h⟩
    exact ⟨by decide, by decide, rfl, rfl⟩
  · have hn := hb.2.2.2.2.2
    have hV9 : V < 512 := pow_512 (by omega) hV
    have c3 := c_X3_slack l G a S T L F bs f2 lc rc lv n f5 f6 (by omega) (by omega) (by omega) (by omega) (BT_pq hb)
    have c4 := c_X4_slack l G a' S T K Z L' F' lv n (e2.trans f2) (e4.trans f4) (e6.trans f6) (by omega) (by omega) (by omega) (by omega) lc rc (BT_pq hb) (pO T) 21 (fun k _ => pO_is T k) (fun k hk => BT_cn hb (by omega) (by omega))
    obtain ⟨w1, w2⟩ := weigh_ok (S := S) (F := F) (L := L) hb hV9
    rw [f3] at c3
    rw [num_V hZ (by omega) (by omega) hV, ← soV_F fq, sc_m hb h5 h6 hV9] at c4
    generalize wgF F T lc rc lv (nI V) (n - lv) lv (wsF S lv 0 L) = W at c3 w1 w2
    rw [sc_c hb h5 h6 hV9 w1 w2] at c3
    refine ⟨nI 0, sc S F T lc rc lv n V, (S, T, W, F, bs), (S, T, K, Z, _, tS F' 3 (nI 0)), vp_updL f 0 (sc S F T lc rc lv n V), _, cL_slack_n l G sa gX_0 o f _ ⟨by decide, by decide, by rfl, by rfl⟩ c3, ?_, c4, rfl, fun _ => uL_us, Rel_t h⟩
    exact ⟨by decide, by decide, rfl, rfl⟩
theorem bit_512 {lv n : Nat} (h1 : n + 1 = 2 * lv) (h2 : 1 ≤ lv) (h3 : lv ≤ 10) : bitI (lv - 1) = nI (2 ^ (n - lv)) ∧ 1 ≤ 2 ^ (n - lv) ∧ 2 ^ (n - lv) ≤ 512 := by
  rw [show n - lv = lv - 1 by omega]
  exact ⟨bit_is (lv - 1) (by omega), Nat.one_le_two_pow, Nat.pow_le_pow_right (n := 2) (by decide) (show lv - 1 ≤ 9 by omega)⟩
theorem p_best (hl0 : l.stackTraces = false) : st_best l G sa a a' o Rel := by
  intro cs ms h f
  obtain ⟨S, T, L, F, bs⟩ := cs
  obtain ⟨S', T', K, Z, L', F'⟩ := ms
  have h0 := h
  obtain ⟨h1, h2, h3, h4, h5, h6, h7, h8, h9, h10⟩ := h0
  cases h1
  cases h2
  replace h5 : SB S := h5
  replace h6 : FB F := h6
  replace h7 : Fe F F' := h7
  replace h8 : Fs F := h8
  replace h10 : Bl T F Z := h10
  have e2 : F' 2 = F 2 := h7 2 (by decide) (by decide) (by decide)
  have e4 : F' 4 = F 4 := h7 4 (by decide) (by decide) (by decide)
  have e6 : F' 6 = F 6 := h7 6 (by decide) (by decide) (by decide)
  have fq : FQ F (tS F' 3 (nI 0)) := FQ_e h7
  rcases h10 with f2 | ⟨f2, lc, rc, w, lv, n, V, hb, f4, f5, f6, hV, f3, hZ⟩
  · refine ⟨nI 1, 0, (S, T, L, F, bs), (S, T, K, Z, L', tS F' 3 (nI 1)), f, _, cL_best_x1 l G sa gX_0 o f ⟨by decide, by decide, by rfl, by rfl⟩ (c_X3_best_x1 l hl0 G sa a S T L F bs f2), ?_, c_X4_best_t1 l G a' S T K Z L' F' (e2.trans f2), rfl, fun q => absurd q k1_ne, Rel_t h⟩
    exact ⟨by decide, by decide, rfl, rfl⟩
  · have hn := hb.2.2.2.2.2
    obtain ⟨m1, m2, m3⟩ := bit_512 hn.1 hn.2.1 hn.2.2
    have su : soV S (tS F' 3 (nI 0)) T lc rc (pO T) lv n 21 (nI 0) L' = sc S F T lc rc lv n 0 := (soV_F fq (nI 0)).symm.trans (sc_m hb h5 h6 (by decide))
    obtain ⟨b1, b2⟩ := best_ok (L := L) hb h5 h6 bs (u := (0, soV S (tS F' 3 (nI 0)) T lc rc (pO T) lv n 21 (nI 0) L', soL S (tS F' 3 (nI 0)) T lc rc lv n (nI 0) L')) rfl su
    have c3 := c_X3_best l G a S T L F bs f2 lc rc lv n f5 f6 (by omega) (by omega) (by omega) (by omega) (BT_pq hb) _ (by omega) rfl
    have c4 := c_X4_best l G a' S T K Z L' F' lv n (e2.trans f2) (e4.trans f4) (e6.trans f6) (by omega) (by omega) (by omega) (by omega) lc rc (BT_pq hb) (pO T) 21 (fun k _ => pO_is T k) (fun k hk => BT_cn hb (by omega) (by omega)) (2 ^ (n - lv)) _ m1 m2 m3 (bsF_F fq).symm
    generalize bsF S F T lc rc (pO T) lv n 21 (2 ^ (n - lv) - 1) 1 (0, soV S (tS F' 3 (nI 0)) T lc rc (pO T) lv n 21 (nI 0) L', soL S (tS F' 3 (nI 0)) T lc rc lv n (nI 0) L') = B at b1 b2 c4
    rw [← soV_F fq, sc_m hb h5 h6 (pow_512 (by omega) b1)] at c4
    rw [b2] at c3
    refine ⟨nI 0, sc S F T lc rc lv n B.1, (S, T, _, tS F 12 (nI B.1), sc S F T lc rc lv n B.1), (S, T, K, Z, _, tS F' 3 (nI 0)), vp_updL f 0 (sc S F T lc rc lv n B.1), _, cL_best_n l G sa gX_0 o f _ ⟨by decide, by decide, by rfl, by rfl⟩ c3, ?_, c4, rfl, fun _ => uL_us, Rel_12 (Rel_t (L2 := L) (bs2 := bs) h)⟩
    exact ⟨by decide, by decide, rfl, rfl⟩
theorem p_improve (hl0 : l.stackTraces = false) : st_improve l G sa a a' o Rel := by
  intro cs ms h f
  obtain ⟨S, T, L, F, bs⟩ := cs
  obtain ⟨S', T', K, Z, L', F'⟩ := ms
  have h0 := h
  obtain ⟨h1, h2, h3, h4, h5, h6, h7, h8, h9, h10⟩ := h0
  cases h1
  cases h2
  replace h5 : SB S := h5
  replace h6 : FB F := h6
  replace h7 : Fe F F' := h7
  replace h8 : Fs F := h8
  replace h10 : Bl T F Z := h10
  have e2 : F' 2 = F 2 := h7 2 (by decide) (by decide) (by decide)
  have e4 : F' 4 = F 4 := h7 4 (by decide) (by decide) (by decide)
  have e6 : F' 6 = F 6 := h7 6 (by decide) (by decide) (by decide)
  have fq : FQ F (tS F' 3 (nI 0)) := FQ_e h7
  rcases h10 with f2 | ⟨f2, lc, rc, w, lv, n, V, hb, f4, f5, f6, hV, f3, hZ⟩
  · refine ⟨nI 1, nI 0, (S, T, L, F, bs), (S, T, K, Z, L', tS F' 3 (nI 1)), f, _, cL_improve_x1 l G sa gX_0 o f ⟨by decide, by decide, by rfl, by rfl⟩ (c_X3_improve_x1 l hl0 G sa a S T L F bs f2), ?_, c_X4_improve_t1 l G a' S T K Z L' F' (e2.trans f2), rfl, fun q => absurd q k1_ne, Rel_t h⟩
    exact ⟨by decide, by decide, rfl, rfl⟩
  · have hn := hb.2.2.2.2.2
    obtain ⟨m1, m2, m3⟩ := bit_512 hn.1 hn.2.1 hn.2.2
    have su : soV S (tS F' 3 (nI 0)) T lc rc (pO T) lv n 21 (nI 0) L' = sc S F T lc rc lv n 0 := (soV_F fq (nI 0)).symm.trans (sc_m hb h5 h6 (by decide))
    obtain ⟨b1, b2⟩ := best_ok (L := L) hb h5 h6 bs (u := (0, soV S (tS F' 3 (nI 0)) T lc rc (pO T) lv n 21 (nI 0) L', soL S (tS F' 3 (nI 0)) T lc rc lv n (nI 0) L')) rfl su
    have c3 := c_X3_improve l G a S T L F bs f2 lc rc lv n f5 f6 (by omega) (by omega) (by omega) (by omega) (BT_pq hb) _ (by omega) rfl
    have c4 := c_X4_improve l G a' S T K Z L' F' lv n (e2.trans f2) (e4.trans f4) (e6.trans f6) (by omega) (by omega) (by omega) (by omega) lc rc (BT_pq hb) (pO T) 21 (fun k _ => pO_is T k) (fun k hk => BT_cn hb (by omega) (by omega)) (2 ^ (n - lv)) _ m1 m2 m3 (bsF_F fq).symm
    generalize bsF S F T lc rc (pO T) lv n 21 (2 ^ (n - lv) - 1) 1 (0, soV S (tS F' 3 (nI 0)) T lc rc (pO T) lv n 21 (nI 0) L', soL S (tS F' 3 (nI 0)) T lc rc lv n (nI 0) L') = B at b1 b2 c4
    rw [b2] at c3
    have hr : Rel (S, T, (tfF F T lc rc lv n (n - lv) (nI 0) (wsF S lv 0 L, bs, -1)).1, tS (tS F 12 (nI B.1)) 3 (nI B.1), sc S F T lc rc lv n B.1) (S, T, K, imF (nI B.1) lv (n - lv) lv Z, B.2.2, tS F' 3 (nI 0)) :=
      Rel_V (Rel_12 (v := nI B.1) (L2 := L) (bs2 := bs) h) hb f2 f4 f5 f6 b1 (ZV_im (by omega) (by omega) (pow_512 (by omega) b1))
    refine ⟨nI 0, nI B.1, (S, T, _, tS (tS F 12 (nI B.1)) 3 (nI B.1), sc S F T lc rc lv n B.1), (S, T, K, imF (nI B.1) lv (n - lv) lv Z, B.2.2, tS F' 3 (nI 0)), vp_updL f 0 (nI B.1).toInt64, _, cL_improve_n l G sa gX_0 o f _ ⟨by decide, by decide, by rfl, by rfl⟩ c3, ?_, c4, rfl, fun _ => uL_us, hr⟩
    exact ⟨by decide, by decide, rfl, rfl⟩
end
