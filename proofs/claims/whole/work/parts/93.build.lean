/-! building, side by side -/
section
variable {T : Nat → Nat → Int32} {lc rc w : Nat → Nat} {lv rt n : Nat} {r : Nat → Int32}
theorem fs_11 {w : Nat → Nat} : ∀ {n : Nat}, fs (tS T 11 r) w n = fs T w n
  | 0 => rfl
  | n + 1 => by
    show fs (tS T 11 r) w n + (if T 2 n = -1 then w n else 0) = fs T w n + (if T 2 n = -1 then w n else 0)
    rw [fs_11 (n := n)]
theorem TI_11 (h : TI T lc rc w lv n) : TI (tS T 11 r) lc rc w lv n := by
  obtain ⟨h1, h2, h3, h4, h5, h6, h7, h8, h9⟩ := h
  exact ⟨h1, h2, h3, h4, h5, h6, fs_11.trans h7, (congrArg (· + n) fs_11).trans h8, h9⟩
theorem TI_pr (h : TI T lc rc w lv (rt + 1)) (hrt : rt + 2 = 2 * lv) (h10 : lv ≤ 10) : (∀ k, k < rt → T 2 k = nI (T 2 k).toBitVec.toNat) ∧ ∀ k, k < rt → (T 2 k).toBitVec.toNat < 19 := by
  refine ⟨fun k hk => ?_, fun k hk => ?_⟩
  · obtain ⟨m, -, -, m3, m4, -⟩ := TI_par h hrt hk
    rw [m4, pk_tn (by omega)]
  · obtain ⟨m, -, -, m3, m4, -⟩ := TI_par h hrt hk
    rw [m4, pk_tn (by omega)]
    omega
theorem src_int {F : Nat → Int32} (h : Fs F) : (0 ≤ (nI 1024 * (F 0 + F 1)).toInt ∧ (nI 1024 * (F 0 + F 1)).toInt ≤ 409600) ∧ (-204800 ≤ (nI 1024 * (F 0 - F 1)).toInt ∧ (nI 1024 * (F 0 - F 1)).toInt ≤ 204800) := by
  obtain ⟨⟨a1, a2⟩, b1, b2⟩ := h
  have e1 : (F 0 + F 1).toInt = (F 0).toInt + (F 1).toInt := i3_add (by omega) (by omega)
  have e2 : (F 0 - F 1).toInt = (F 0).toInt - (F 1).toInt := i3_sub (by omega) (by omega)
  have e0 : (nI 1024).toInt = 1024 := by decide
  have e3 : (nI 1024 * (F 0 + F 1)).toInt = 1024 * ((F 0).toInt + (F 1).toInt) := by
    rw [i3_mul (by rw [e0, e1]; omega) (by rw [e0, e1]; omega), e0, e1]
  have e4 : (nI 1024 * (F 0 - F 1)).toInt = 1024 * ((F 0).toInt - (F 1).toInt) := by
    rw [i3_mul (by rw [e0, e2]; omega) (by rw [e0, e2]; omega), e0, e2]
  rw [e3, e4]
  omega
theorem Rel_B {S T' Z' : Nat → Nat → Int32} {L L' : Nat → Nat → Int64} {F F2 : Nat → Int32} {bs : Int64} {q : Nat → Nat → Nat} {g : Nat → Nat} {ct : Nat} (h5 : SB S) (h6 : FB F) (h8 : Fs F) (hct : ct ≤ 10) (h4 : F 4 = nI ct) (hg : T' 11 = rw g) (hg2 : ∀ k, g k < 10) (hb : BT T' lc rc w ct n) (hz : ZS Z' ct n) (hF : Fe (tS (tS F 6 (nI n)) 2 (nI 1)) F2) : Rel (S, T', L, tS (tS (tS (tS F 5 (nI ct)) 6 (nI n)) 2 (nI 1)) 3 (nI 0), bs) (S, T', kw q, Z', L', F2) := by
  refine ⟨rfl, rfl, ⟨q, rfl⟩, ⟨g, hg, hg2⟩, h5, FB_t (FB_t (FB_t (FB_t h6 (by decide)) (by decide)) (by decide)) (by decide), fun k k3 k5 k12 => ?_, Fs_t (Fs_t (Fs_t (Fs_t h8 (by decide)) (by decide)) (by decide)) (by decide), ⟨ct, hct, h4⟩, Or.inr ⟨rfl, lc, rc, w, ct, n, 0, hb, h4, rfl, rfl, Nat.two_pow_pos _, rfl, fun k k1 k2 => ?_⟩⟩
  · refine (hF k k3 k5 k12).trans ?_
    show tS (tS F 6 (nI n)) 2 (nI 1) k = tS (tS (tS (tS F 5 (nI ct)) 6 (nI n)) 2 (nI 1)) 3 (nI 0) k
    rw [tS_ne _ _ k3]
    unfold tS
    rw [if_neg k5]
  · exact (hz k k1 k2).trans (xb_f (by simp))
end
section
variable {l : Launch} {G : xG} {sa a a' : Nat → Nat} {o : Nat}
theorem p_build (hl0 : l.stackTraces = false) : st_build l G sa a a' o Rel := by
  intro cs ms h x f
  obtain ⟨S, T, L, F, bs⟩ := cs
  obtain ⟨S', T', K, Z, L', F'⟩ := ms
  have h0 := h
  obtain ⟨h1, h2, ⟨q, h3⟩, ⟨g, hg, hg2⟩, h5, h6, h7, h8, ⟨ct, h9, h9b⟩, h10⟩ := h0
  cases h1
  cases h2
  replace h5 : SB S := h5
  replace h6 : FB F := h6
  replace h7 : Fe F F' := h7
  replace h8 : Fs F := h8
  replace h10 : Bl T F Z := h10
  have h3c : K = kw q := h3
  subst h3c
  have f4 : F 4 = nI ct := h9b
  have e0 : F' 0 = F 0 := h7 0 (by decide) (by decide) (by decide)
  have e1 : F' 1 = F 1 := h7 1 (by decide) (by decide) (by decide)
  have e4 : F' 4 = nI ct := (h7 4 (by decide) (by decide) (by decide)).trans f4
  have hT11 : T 11 = rw g := hg
  by_cases hc : inW x (nI 0) (nI 1)
  · by_cases hz : ct = 0
    · subst hz
      have c3 := c_X3_build_x2 l hl0 G sa a S T L F bs x hc f4
      obtain ⟨i, -, i2, rfl⟩ := inW_nat (by decide) (by decide) hc
      rcases (show i = 0 ∨ i = 1 by omega) with rfl | rfl
      · refine ⟨nI 2, nI 0, (S, T, L, F, bs), (S, T, kw q, Z, L', tS F' 3 (nI 2)), f, _, cL_build_x2 l G sa gX_0 (nI 0) o f ⟨by decide, by decide, by rfl, by rfl⟩ c3, ?_, c_X4_build_t20 l G a' S T (kw q) Z L' F' e4, rfl, fun z => absurd z k2_ne, Rel_t h⟩
        exact ⟨by decide, by decide, rfl, rfl⟩
      · refine ⟨nI 2, nI 0, (S, T, L, F, bs), (S, T, kw q, Z, L', tS F' 3 (nI 2)), f, _, cL_build_x2 l G sa gX_0 (nI 1) o f ⟨by decide, by decide, by rfl, by rfl⟩ c3, ?_, c_X4_build_t21 l G a' S T (kw q) Z L' F' e4, rfl, fun z => absurd z k2_ne, Rel_t h⟩
        exact ⟨by decide, by decide, rfl, rfl⟩
    · obtain ⟨hX, hY⟩ := src_int h8
      obtain ⟨rt, hrt⟩ : ∃ rt, rt + 2 = 2 * ct := ⟨2 * ct - 2, by omega⟩
      obtain ⟨i, -, i2, rfl⟩ := inW_nat (by decide) (by decide) hc
      rcases (show i = 0 ∨ i = 1 by omega) with rfl | rfl
      · obtain ⟨ok1, ok2, Z2, lc, rc, w, ej, ti, zs, t11⟩ := joins_ok h9 (m := ct - 1) (n := ct) (Z := begF ct 0 Z) (TI_plant (T := T) h5 (fun _ => 0) (fun _ => 0) ct) ZI_beg (fun k k1 k2 => absurd k2 (by omega)) (by omega)
        rw [show ct + (ct - 1) = rt + 1 by omega] at ti zs
        rw [plantF_11] at t11
        obtain ⟨p1, p2⟩ := TI_pr ti hrt h9
        have rR := TI_root ti
        obtain ⟨ce, bt, c11⟩ := choose_ok (pr := fun k => (cJoins (ct - 1) ct (plantF S ct 0 T) 2 k).toBitVec.toNat) ti hrt (by omega) h9 hX hY
        have c3 := c_X3_build_0 l G a S T L F bs ct rt (fun k => (cJoins (ct - 1) ct (plantF S ct 0 T) 2 k).toBitVec.toNat) _ f4 (by omega) h9 hrt ok1 rfl p1 p2
        have c4 := c_X4_build_0 l G a' S T (kw q) Z L' F' ct rt (fun k => (cJoins (ct - 1) ct (plantF S ct 0 T) 2 k).toBitVec.toNat) _ Z2 e4 (by omega) h9 hrt ok2 ej p1 rR p2
        rw [e0, e1, ce] at c4
        have c11' := c11.trans (t11.trans hT11)
        generalize chooseF (fun k => (cJoins (ct - 1) ct (plantF S ct 0 T) 2 k).toBitVec.toNat) rt (rootT (cJoins (ct - 1) ct (plantF S ct 0 T)) rt (nI 1024 * (F 0 + F 1)) (nI 1024 * (F 0 - F 1))) = TT at c3 c4 bt c11'
        refine ⟨nI 0, nI (rt + 1), (S, TT, L, tS (tS (tS (tS F 5 (nI ct)) 6 (nI (rt + 1))) 2 (nI 1)) 3 (nI 0), bs), (S, TT, kw q, Z2, L', tS (tS (tS F' 3 (nI 0)) 6 (nI (rt + 1))) 2 (nI 1)), vp_updL f 0 (nI (rt + 1)).toInt64, _, cL_build_n l G sa gX_0 (nI 0) o f _ ⟨by decide, by decide, by rfl, by rfl⟩ c3, ?_, c4, rfl, fun _ => uL_us, Rel_B h5 h6 h8 h9 f4 c11' hg2 bt zs (Fe_2 (Fe_2 (Fe_r h7 (by decide))))⟩
        exact ⟨by decide, by decide, rfl, rfl⟩
      · have jh : JH (plantF S ct 0 T) (fun _ => 0) (fun _ => 0) (fun _ => 1) ct ct (rowN ct 0 g) 0 ct := by
          have ra : ∀ k, k < ct → rowN ct 0 g k = k := fun k hk => rowN_at (Nat.zero_le _) (by omega)
          refine ⟨TI_plant h5 _ _ ct, by omega, Nat.le_refl _, h9, by omega, fun k _ k2 => ?_, fun x y _ x2 _ y2 e => ?_, rowN_lt hg2 (by omega)⟩
          · rw [ra k k2]
            exact ⟨k2, plantF_at (by decide) (Nat.zero_le _) (by omega)⟩
          · rw [ra x x2, ra y y2] at e
            exact e
        obtain ⟨⟨⟨lc, rc, w, ti⟩, jn, -, -, -, -, -, j11, j10⟩, jok⟩ := jr_ok (S := S) (d := 4) jh (by have : 2 ^ 4 = 16 := rfl; omega)
        obtain ⟨Z', q', ⟨N, hN⟩, -, hz'⟩ := stack_ok h5 (d := 4) (Z := begF ct 0 Z) (q := pushK q 0 0 ct 0) (tp := 0) (got := 0) jh (by have : 2 ^ 4 = 16 := rfl; omega) pushK_0 pushK_1 (by rw [pushK_2]) pushK_3 (by decide) (by decide)
        obtain ⟨n1, n2⟩ := hN 0 rfl
        have zs := hz' (fun k k1 k2 => absurd k2 (by omega))
        have jn' : (jrF S 4 (plantF S ct 0 T) ct (rowN ct 0 g) 0 ct).2.1 = rt + 1 := by rw [jn]; omega
        rw [jn'] at ti zs
        generalize hJ : jrF S 4 (plantF S ct 0 T) ct (rowN ct 0 g) 0 ct = J at ti jn' j10 zs n1 n2
        obtain ⟨p1, p2⟩ := TI_pr ti hrt h9
        have rR := TI_root ti
        have ti' := TI_11 (r := rw J.2.2.1) ti
        obtain ⟨ce, bt, c11⟩ := choose_ok (pr := fun k => (J.1 2 k).toBitVec.toNat) ti' hrt (by omega) h9 hX hY
        have c3 := c_X3_build_1 l G a S T L F bs g ct rt (fun k => (J.1 2 k).toBitVec.toNat) J f4 (by omega) h9 hrt hg2 hT11 jok hJ jn' p1 p2
        have c4 := c_X4_build_1 l G a' S T Z L' F' q g ct rt (N + 0) (fun k => (J.1 2 k).toBitVec.toNat) _ e4 (by omega) h9 hrt hT11 n1 n2 jn' p1 rR p2
        replace c4 : xMi l yX4_build wsX4_build { frames := 5, cells := 0, slots := 0, locals := 117 } [.ref (a' 0), .int (nI 1)] G (wM G a' S T (kw q) Z L' F') (nI (rt + 1)) (wM G a' S (rootM (chM (fun k => (J.1 2 k).toBitVec.toNat) rt (nI 1024 * (F' 0 + F' 1)) (nI 1024 * (F' 0 - F' 1)) (rt + 1) (tS J.1 11 (rw J.2.2.1))) rt (nI 1024 * (F' 0 + F' 1)) (nI 1024 * (F' 0 - F' 1))) (kw q') Z' L' (tS (tS (tS (tS F' 3 (nI 0)) 6 (nI (rt + 1))) 5 (nI 0)) 2 (nI 1))) 0 0 := c4
        rw [e0, e1, ce] at c4
        generalize chooseF (fun k => (J.1 2 k).toBitVec.toNat) rt (rootT (tS J.1 11 (rw J.2.2.1)) rt (nI 1024 * (F 0 + F 1)) (nI 1024 * (F 0 - F 1))) = TT at c3 c4 bt c11
        refine ⟨nI 0, nI (rt + 1), (S, TT, L, tS (tS (tS (tS F 5 (nI ct)) 6 (nI (rt + 1))) 2 (nI 1)) 3 (nI 0), bs), (S, TT, kw q', Z', L', tS (tS (tS (tS F' 3 (nI 0)) 6 (nI (rt + 1))) 5 (nI 0)) 2 (nI 1)), vp_updL f 0 (nI (rt + 1)).toInt64, _, cL_build_n l G sa gX_0 (nI 1) o f _ ⟨by decide, by decide, by rfl, by rfl⟩ c3, ?_, c4, rfl, fun _ => uL_us, Rel_B h5 h6 h8 h9 f4 c11 j10 bt zs (Fe_2 (Fe_r (Fe_2 (Fe_r h7 (by decide))) (by decide)))⟩
        exact ⟨by decide, by decide, rfl, rfl⟩
  · refine ⟨nI 1, nI 0, (S, T, L, F, bs), (S, T, kw q, Z, L', tS F' 3 (nI 1)), f, _, cL_build_x1 l G sa gX_0 x o f ⟨by decide, by decide, by rfl, by rfl⟩ (c_X3_build_x1 l hl0 G sa a S T L F bs x hc), ?_, c_X4_build_t1 l G a' S T (kw q) Z L' F' x (fun z => hc (by subst z; unfold inW; decide)) (fun z => hc (by subst z; unfold inW; decide)), rfl, fun z => absurd z k1_ne, Rel_t h⟩
    exact ⟨by decide, by decide, rfl, rfl⟩
end
