/-! class and model, side by side -/
def Fe (F F' : Nat → Int32) : Prop := ∀ k, k ≠ 3 → k ≠ 5 → k ≠ 12 → F' k = F k
def Fs (F : Nat → Int32) : Prop := (0 ≤ (F 0).toInt ∧ (F 0).toInt ≤ 200) ∧ (0 ≤ (F 1).toInt ∧ (F 1).toInt ≤ 200)
def Bl (T : Nat → Nat → Int32) (F : Nat → Int32) (Z : Nat → Nat → Int32) : Prop := F 2 = nI 0 ∨ (F 2 = nI 1 ∧ ∃ (lc rc w : Nat → Nat) (lv n V : Nat), BT T lc rc w lv n ∧ F 4 = nI lv ∧ F 5 = nI lv ∧ F 6 = nI n ∧ V < 2 ^ (n - lv) ∧ F 3 = nI V ∧ ZV Z lv n V)
def Rel (c : xCS) (m : xMS) : Prop := m.1 = c.1 ∧ m.2.1 = c.2.1 ∧ (∃ q, m.2.2.1 = kw q) ∧ (∃ g, c.2.1 11 = rw g ∧ ∀ k, g k < 10) ∧ SB c.1 ∧ FB c.2.2.2.1 ∧ Fe c.2.2.2.1 m.2.2.2.2.2 ∧ Fs c.2.2.2.1 ∧ (∃ ct, ct ≤ 10 ∧ c.2.2.2.1 4 = nI ct) ∧ Bl c.2.1 c.2.2.2.1 m.2.2.2.1
section
variable {F F' : Nat → Int32} {k : Nat} {v : Int32}
theorem FB_t (h : FB F) (hk : k < 7 ∨ 11 < k) : FB (tS F k v) := by
  unfold FB
  rw [tS_ne _ _ (by omega), tS_ne _ _ (by omega), tS_ne _ _ (by omega), tS_ne _ _ (by omega), tS_ne _ _ (by omega)]
  exact h
theorem Fs_t (h : Fs F) (hk : 2 ≤ k) : Fs (tS F k v) := by
  unfold Fs
  rw [tS_ne _ _ (by omega), tS_ne _ _ (by omega)]
  exact h
theorem Fe_l (h : Fe F F') (hk : k = 3 ∨ k = 5 ∨ k = 12) : Fe (tS F k v) F' := fun j a b c => by
  rw [tS_ne _ _ (by omega)]; exact h j a b c
theorem Fe_r (h : Fe F F') (hk : k = 3 ∨ k = 5 ∨ k = 12) : Fe F (tS F' k v) := fun j a b c => by
  rw [tS_ne _ _ (by omega)]; exact h j a b c
theorem Fe_2 (h : Fe F F') : Fe (tS F k v) (tS F' k v) := fun j a b c => by
  unfold tS
  by_cases e : j = k
  · rw [if_pos e, if_pos e]
  · rw [if_neg e, if_neg e]; exact h j a b c
theorem tS_cm {α : Type} (X : Nat → α) {i j : Nat} (h : i ≠ j) (x y : α) : tS (tS X i x) j y = tS (tS X j y) i x := by
  funext k
  unfold tS
  by_cases e1 : k = i
  · rw [if_pos e1, if_pos e1, if_neg (by omega)]
  · rw [if_neg e1, if_neg e1]
end
theorem Rel_t {S T : Nat → Nat → Int32} {L L2 : Nat → Nat → Int64} {F : Nat → Int32} {bs : Int64} {S' T' K Z : Nat → Nat → Int32} {L' L3 : Nat → Nat → Int64} {F' : Nat → Int32} {bs2 : Int64} {v : Int32} (h : Rel (S, T, L, F, bs) (S', T', K, Z, L', F')) : Rel (S, T, L2, F, bs2) (S', T', K, Z, L3, tS F' 3 v) := by
  obtain ⟨h1, h2, h3, h4, h5, h6, h7, h8, h9, h10⟩ := h
  exact ⟨h1, h2, h3, h4, h5, h6, Fe_r h7 (Or.inl rfl), h8, h9, h10⟩
/-- a number between two others -/
theorem inW_nat {x : Int32} {a b : Nat} (ha : a < 2147483648) (hb : b < 2147483648) (h : inW x (nI a) (nI b)) : ∃ k, a ≤ k ∧ k ≤ b ∧ x = nI k := by
  obtain ⟨h1, h2⟩ := h
  rw [i3_le, nI_toInt (by omega)] at h1 h2
  refine ⟨x.toInt.toNat, by omega, by omega, Int32.toInt_inj.mp ?_⟩
  rw [nI_toInt (by omega)]
  omega
theorem inW_int {x : Int32} {a b : Nat} (ha : a < 2147483648) (hb : b < 2147483648) : inW x (nI a) (nI b) ↔ ((a : Int) ≤ x.toInt ∧ x.toInt ≤ (b : Int)) := by
  unfold inW
  rw [i3_le, i3_le, nI_toInt (by omega), nI_toInt (by omega)]
theorem i3_z : (0 : Int32).toInt = 0 := by decide
theorem Rel_0 : Rel xCS0 xMS0 := by
  refine ⟨rfl, rfl, ⟨fun _ _ => 0, ?_⟩, ⟨fun _ => 0, ?_, fun _ => (by show 0 < 10; decide)⟩, fun k => ?_, ?_, fun k h3 h5 h12 => ?_, ?_, ⟨0, by decide, rfl⟩, Or.inl rfl⟩
  · funext i j; show (0 : Int32) = nI 0; decide
  · funext j; show (0 : Int32) = nI 0; decide
  · show (0 ≤ (0 : Int32).toInt ∧ (0 : Int32).toInt ≤ 200) ∧ (0 ≤ (0 : Int32).toInt ∧ (0 : Int32).toInt ≤ 200) ∧ (0 ≤ (0 : Int32).toInt ∧ (0 : Int32).toInt ≤ 100) ∧ (0 ≤ (0 : Int32).toInt ∧ (0 : Int32).toInt ≤ 1000000000)
    decide
  · show (0 ≤ (nI 1).toInt ∧ (nI 1).toInt ≤ 20) ∧ (0 ≤ (nI 1).toInt ∧ (nI 1).toInt ≤ 20) ∧ (0 ≤ (nI 1).toInt ∧ (nI 1).toInt ≤ 1000000) ∧ (0 ≤ (nI 1).toInt ∧ (nI 1).toInt ≤ 1000) ∧ (0 ≤ (nI 0).toInt ∧ (nI 0).toInt ≤ 1000000000)
    decide
  · show FM0 k = FX0 k
    have h0 : (0 : Int32) = nI 0 := by decide
    unfold FM0 FX0
    split <;> (try rfl) <;> split <;> simp_all
  · show (0 ≤ (nI 0).toInt ∧ (nI 0).toInt ≤ 200) ∧ (0 ≤ (nI 0).toInt ∧ (nI 0).toInt ≤ 200)
    decide
theorem k1_ne : ¬ nI 1 = 0 := by decide
theorem k2_ne : ¬ nI 2 = 0 := by decide
section
variable {l : Launch} {G : xG} {sa a a' : Nat → Nat} {o : Nat}
theorem p_sinks : st_sinks Rel := by
  intro cs ms h
  obtain ⟨S, T, L, F, bs⟩ := cs
  obtain ⟨S', T', K, Z, L', F'⟩ := ms
  exact ⟨(h.2.2.2.2.2.2.1 4 (by decide) (by decide) (by decide)).symm, Rel_t h⟩
theorem SB_app {S : Nat → Nat → Int32} (h : SB S) {ct : Nat} {x y z u : Int32} (hx : inW x (nI 0) (nI 200)) (hy : inW y (nI 0) (nI 200)) (hz : inW z (nI 1) (nI 100)) (hu : inW u (nI 0) (nI 1000000000)) : SB (appS S ct x y z u) := by
  rw [inW_int (by decide) (by decide)] at hx hy hz hu
  intro k
  have e0 : appS S ct x y z u 0 = upd (S 0) ct x := rfl
  have e1 : appS S ct x y z u 1 = upd (S 1) ct y := rfl
  have e2 : appS S ct x y z u 2 = upd (S 2) ct z := rfl
  have e3 : appS S ct x y z u 3 = upd (S 3) ct u := rfl
  rw [e0, e1, e2, e3]
  by_cases e : k = ct
  · subst e; rw [pk_us, pk_us, pk_us, pk_us]; omega
  · rw [pk_un e, pk_un e, pk_un e, pk_un e]; exact h k
theorem p_sink (hl0 : l.stackTraces = false) : st_sink l G sa a a' o Rel := by
  intro cs ms h x y z u f
  obtain ⟨S, T, L, F, bs⟩ := cs
  obtain ⟨S', T', K, Z, L', F'⟩ := ms
  have h0 := h
  obtain ⟨h1, h2, ⟨q, h3⟩, h4, h5, h6, h7, h8, ⟨ct, h9, h9b⟩, h10⟩ := h0
  cases h1
  cases h2
  have f4 : F' 4 = nI ct := (h7 4 (by decide) (by decide) (by decide)).trans h9b
  by_cases hc : (inW x (nI 0) (nI 200) ∧ inW y (nI 0) (nI 200)) ∧ inW z (nI 1) (nI 100) ∧ inW u (nI 0) (nI 1000000000)
  · obtain ⟨hxy, hz, hu⟩ := hc
    by_cases h10c : ct = 10
    · subst h10c
      refine ⟨nI 2, nI 0, (S, T, L, F, bs), (S, T, K, Z, L', tS F' 3 (nI 2)), f, _, cL_sink_x2 l G sa gX_0 x y z u o f ⟨by decide, by decide, by rfl, by rfl⟩ (c_X3_sink_x2 l hl0 G sa a S T L F bs x y z u h9b hxy hz hu), ?_, c_X4_sink_2 l G a' S T K Z L' F' x y z u f4 hxy.1 hxy.2 hz hu, rfl, fun q => absurd q k2_ne, Rel_t h⟩
      exact ⟨by decide, by decide, rfl, rfl⟩
    · refine ⟨nI 0, nI ct, (appS S ct x y z u, T, L, tS (tS F 2 (nI 0)) 4 (nI (ct + 1)), bs), (appS S ct x y z u, T, K, Z, L', tS (tS (tS F' 3 (nI 0)) 4 (nI (ct + 1))) 2 (nI 0)), vp_updL f 0 (nI ct).toInt64, _, cL_sink_n l G sa gX_0 x y z u o f (nI ct) ⟨by decide, by decide, by rfl, by rfl⟩ (c_X3_sink l G a S T L F bs x y z u ct h9b (by omega) hxy hz hu), ?_, c_X4_sink_0 l G a' S T K Z L' F' x y z u ct f4 (by omega) hxy.1 hxy.2 hz hu, ?_, fun _ => uL_us, ?_⟩
      · exact ⟨by decide, by decide, rfl, rfl⟩
      · show tS (tS (tS F' 3 (nI 0)) 4 (nI (ct + 1))) 2 (nI 0) 3 = nI 0
        rw [tS_ne _ _ (by decide), tS_ne _ _ (by decide), tS_self]
      · refine ⟨rfl, rfl, ⟨q, h3⟩, h4, SB_app h5 hxy.1 hxy.2 hz hu, FB_t (FB_t h6 (by decide)) (by decide), ?_, Fs_t (Fs_t h8 (by decide)) (by decide), ⟨ct + 1, by omega, rfl⟩, Or.inl ?_⟩
        · show Fe (tS (tS F 2 (nI 0)) 4 (nI (ct + 1))) (tS (tS (tS F' 3 (nI 0)) 4 (nI (ct + 1))) 2 (nI 0))
          rw [tS_cm F (by decide)]
          exact Fe_2 (Fe_2 (Fe_r h7 (by decide)))
        · show tS (tS F 2 (nI 0)) 4 (nI (ct + 1)) 2 = nI 0
          rw [tS_ne _ _ (by decide), tS_self]
  · refine ⟨nI 1, nI 0, (S, T, L, F, bs), (S, T, K, Z, L', tS F' 3 (nI 1)), f, _, cL_sink_x1 l G sa gX_0 x y z u o f ⟨by decide, by decide, by rfl, by rfl⟩ (c_X3_sink_x1 l hl0 G sa a S T L F bs x y z u hc), ?_, c_X4_sink_1 l G a' S T K Z L' F' x y z u (fun q => hc ⟨⟨q.1, q.2.1⟩, q.2.2⟩), rfl, fun q => absurd q k1_ne, Rel_t h⟩
    exact ⟨by decide, by decide, rfl, rfl⟩
theorem p_cut (hl0 : l.stackTraces = false) : st_cut l G sa a a' o Rel := by
  intro cs ms h x
  obtain ⟨S, T, L, F, bs⟩ := cs
  obtain ⟨S', T', K, Z, L', F'⟩ := ms
  have h0 := h
  obtain ⟨h1, h2, ⟨q, h3⟩, h4, h5, h6, h7, h8, ⟨ct, h9, h9b⟩, h10⟩ := h0
  cases h1
  cases h2
  have e4 : F' 4 = F 4 := h7 4 (by decide) (by decide) (by decide)
  have h9c : F 4 = nI ct := h9b
  by_cases hc : inW x (nI 0) (F 4)
  · rw [h9c] at hc
    obtain ⟨k, -, k2, rfl⟩ := inW_nat (by omega) (by omega) hc
    refine ⟨nI 0, (S, T, L, tS (tS F 2 (nI 0)) 4 (nI k), bs), (S, T, K, Z, L', tS (tS (tS F' 3 (nI 0)) 4 (nI k)) 2 (nI 0)), _, cL_cut_n l G sa gX_0 (nI k) ⟨by decide, by decide, by rfl, by rfl⟩ (c_X3_cut l G a S T L F bs k ct h9c h9 k2), ?_, c_X4_cut_0 l G a' S T K Z L' F' k ct (e4.trans h9c) h9 k2, ?_, ?_⟩
    · exact ⟨by decide, by decide, rfl, rfl⟩
    · show tS (tS (tS F' 3 (nI 0)) 4 (nI k)) 2 (nI 0) 3 = nI 0
      rw [tS_ne _ _ (by decide), tS_ne _ _ (by decide), tS_self]
    · refine ⟨rfl, rfl, ⟨q, h3⟩, h4, h5, FB_t (FB_t h6 (by decide)) (by decide), ?_, Fs_t (Fs_t h8 (by decide)) (by decide), ⟨k, by omega, rfl⟩, Or.inl ?_⟩
      · show Fe (tS (tS F 2 (nI 0)) 4 (nI k)) (tS (tS (tS F' 3 (nI 0)) 4 (nI k)) 2 (nI 0))
        rw [tS_cm F (by decide)]
        exact Fe_2 (Fe_2 (Fe_r h7 (by decide)))
      · show tS (tS F 2 (nI 0)) 4 (nI k) 2 = nI 0
        rw [tS_ne _ _ (by decide), tS_self]
  · refine ⟨nI 1, (S, T, L, F, bs), (S, T, K, Z, L', tS F' 3 (nI 1)), _, cL_cut_x1 l G sa gX_0 x ⟨by decide, by decide, by rfl, by rfl⟩ (c_X3_cut_x1 l hl0 G sa a S T L F bs x hc), ?_, c_X4_cut_1 l G a' S T K Z L' F' x (by rw [e4]; exact hc), rfl, Rel_t h⟩
    exact ⟨by decide, by decide, rfl, rfl⟩
theorem p_source (hl0 : l.stackTraces = false) : st_source l G sa a a' o Rel := by
  intro cs ms h x y
  obtain ⟨S, T, L, F, bs⟩ := cs
  obtain ⟨S', T', K, Z, L', F'⟩ := ms
  have h0 := h
  obtain ⟨h1, h2, ⟨q, h3⟩, h4, h5, h6, h7, h8, ⟨ct, h9, h9b⟩, h10⟩ := h0
  cases h1
  cases h2
  by_cases hc : inW x (nI 0) (nI 200) ∧ inW y (nI 0) (nI 200)
  · refine ⟨nI 0, (S, T, L, tS (tS (tS F 2 (nI 0)) 0 x) 1 y, bs), (S, T, K, Z, L', tS (tS (tS (tS F' 3 (nI 0)) 0 x) 1 y) 2 (nI 0)), _, cL_source_n l G sa gX_0 x y ⟨by decide, by decide, by rfl, by rfl⟩ (c_X3_source l G a S T L F bs x y hc), ?_, c_X4_source_0 l G a' S T K Z L' F' x y hc.1 hc.2, ?_, ?_⟩
    · exact ⟨by decide, by decide, rfl, rfl⟩
    · show tS (tS (tS (tS F' 3 (nI 0)) 0 x) 1 y) 2 (nI 0) 3 = nI 0
      rw [tS_ne _ _ (by decide), tS_ne _ _ (by decide), tS_ne _ _ (by decide), tS_self]
    · refine ⟨rfl, rfl, ⟨q, h3⟩, h4, h5, FB_t (FB_t (FB_t h6 (by decide)) (by decide)) (by decide), ?_, ?_, ⟨ct, h9, ?_⟩, Or.inl ?_⟩
      · show Fe (tS (tS (tS F 2 (nI 0)) 0 x) 1 y) (tS (tS (tS (tS F' 3 (nI 0)) 0 x) 1 y) 2 (nI 0))
        rw [tS_cm F (i := 2) (j := 0) (by decide), tS_cm (tS F 0 x) (i := 2) (j := 1) (by decide)]
        exact Fe_2 (Fe_2 (Fe_2 (Fe_r h7 (by decide))))
      · obtain ⟨hx, hy⟩ := hc
        rw [inW_int (by decide) (by decide)] at hx hy
        show (0 ≤ (tS (tS (tS F 2 (nI 0)) 0 x) 1 y 0).toInt ∧ (tS (tS (tS F 2 (nI 0)) 0 x) 1 y 0).toInt ≤ 200) ∧ (0 ≤ (tS (tS (tS F 2 (nI 0)) 0 x) 1 y 1).toInt ∧ (tS (tS (tS F 2 (nI 0)) 0 x) 1 y 1).toInt ≤ 200)
        rw [tS_self, tS_ne _ _ (by decide), tS_self]
        omega
      · show tS (tS (tS F 2 (nI 0)) 0 x) 1 y 4 = nI ct
        rw [tS_ne _ _ (by decide), tS_ne _ _ (by decide), tS_ne _ _ (by decide)]
        exact h9b
      · show tS (tS (tS F 2 (nI 0)) 0 x) 1 y 2 = nI 0
        rw [tS_ne _ _ (by decide), tS_ne _ _ (by decide), tS_self]
  · refine ⟨nI 1, (S, T, L, F, bs), (S, T, K, Z, L', tS F' 3 (nI 1)), _, cL_source_x1 l G sa gX_0 x y ⟨by decide, by decide, by rfl, by rfl⟩ (c_X3_source_x1 l hl0 G sa a S T L F bs x y hc), ?_, c_X4_source_1 l G a' S T K Z L' F' x y hc, rfl, Rel_t h⟩
    exact ⟨by decide, by decide, rfl, rfl⟩
theorem Bl_t {T Z : Nat → Nat → Int32} {F : Nat → Int32} {k : Nat} {v : Int32} (hk : 7 ≤ k) (h : Bl T F Z) : Bl T (tS F k v) Z := by
  unfold Bl
  rw [tS_ne _ _ (by omega), tS_ne _ _ (by omega), tS_ne _ _ (by omega), tS_ne _ _ (by omega), tS_ne _ _ (by omega)]
  exact h
theorem p_wires (hl0 : l.stackTraces = false) : st_wires l G sa a a' o Rel := by
  intro cs ms h x y
  obtain ⟨S, T, L, F, bs⟩ := cs
  obtain ⟨S', T', K, Z, L', F'⟩ := ms
  have h0 := h
  obtain ⟨h1, h2, ⟨q, h3⟩, h4, h5, h6, h7, h8, ⟨ct, h9, h9b⟩, h10⟩ := h0
  cases h1
  cases h2
  by_cases hc : inW x (nI 1) (nI 20) ∧ inW y (nI 1) (nI 20)
  · refine ⟨nI 0, (S, T, L, tS (tS F 7 x) 8 y, bs), (S, T, K, Z, L', tS (tS (tS F' 3 (nI 0)) 7 x) 8 y), _, cL_wires_n l G sa gX_0 x y ⟨by decide, by decide, by rfl, by rfl⟩ (c_X3_wires l G a S T L F bs x y hc.1 hc.2), ?_, c_X4_wires_0 l G a' S T K Z L' F' x y hc.1 hc.2, ?_, ?_⟩
    · exact ⟨by decide, by decide, rfl, rfl⟩
    · show tS (tS (tS F' 3 (nI 0)) 7 x) 8 y 3 = nI 0
      rw [tS_ne _ _ (by decide), tS_ne _ _ (by decide), tS_self]
    · refine ⟨rfl, rfl, ⟨q, h3⟩, h4, h5, ?_, Fe_2 (Fe_2 (Fe_r h7 (by decide))), Fs_t (Fs_t h8 (by decide)) (by decide), ⟨ct, h9, ?_⟩, Bl_t (by decide) (Bl_t (by decide) h10)⟩
      · obtain ⟨hx, hy⟩ := hc
        rw [inW_int (by decide) (by decide)] at hx hy
        show (0 ≤ (tS (tS F 7 x) 8 y 7).toInt ∧ (tS (tS F 7 x) 8 y 7).toInt ≤ 20) ∧ (0 ≤ (tS (tS F 7 x) 8 y 8).toInt ∧ (tS (tS F 7 x) 8 y 8).toInt ≤ 20) ∧ (0 ≤ (F 9).toInt ∧ (F 9).toInt ≤ 1000000) ∧ (0 ≤ (F 10).toInt ∧ (F 10).toInt ≤ 1000) ∧ (0 ≤ (F 11).toInt ∧ (F 11).toInt ≤ 1000000000)
        rw [tS_self, tS_ne _ _ (by decide), tS_self]
        have := h6.2.2
        refine ⟨by omega, by omega, this⟩
      · show tS (tS F 7 x) 8 y 4 = nI ct
        rw [tS_ne _ _ (by decide), tS_ne _ _ (by decide)]
        exact h9b
  · refine ⟨nI 1, (S, T, L, F, bs), (S, T, K, Z, L', tS F' 3 (nI 1)), _, cL_wires_x1 l G sa gX_0 x y ⟨by decide, by decide, by rfl, by rfl⟩ (c_X3_wires_x1 l hl0 G sa a S T L F bs x y hc), ?_, c_X4_wires_1 l G a' S T K Z L' F' x y hc, rfl, Rel_t h⟩
    exact ⟨by decide, by decide, rfl, rfl⟩
theorem p_buffer (hl0 : l.stackTraces = false) : st_buffer l G sa a a' o Rel := by
  intro cs ms h x y z
  obtain ⟨S, T, L, F, bs⟩ := cs
  obtain ⟨S', T', K, Z, L', F'⟩ := ms
  have h0 := h
  obtain ⟨h1, h2, ⟨q, h3⟩, h4, h5, h6, h7, h8, ⟨ct, h9, h9b⟩, h10⟩ := h0
  cases h1
  cases h2
  by_cases hc : inW x (nI 1) (nI 1000000) ∧ inW y (nI 1) (nI 1000) ∧ inW z (nI 0) (nI 1000000000)
  · refine ⟨nI 0, (S, T, L, tS (tS (tS F 9 x) 10 y) 11 z, bs), (S, T, K, Z, L', tS (tS (tS (tS F' 3 (nI 0)) 9 x) 10 y) 11 z), _, cL_buffer_n l G sa gX_0 x y z ⟨by decide, by decide, by rfl, by rfl⟩ (c_X3_buffer l G a S T L F bs x y z hc.1 hc.2.1 hc.2.2), ?_, c_X4_buffer_0 l G a' S T K Z L' F' x y z hc.1 hc.2.1 hc.2.2, ?_, ?_⟩
    · exact ⟨by decide, by decide, rfl, rfl⟩
    · show tS (tS (tS (tS F' 3 (nI 0)) 9 x) 10 y) 11 z 3 = nI 0
      rw [tS_ne _ _ (by decide), tS_ne _ _ (by decide), tS_ne _ _ (by decide), tS_self]
    · refine ⟨rfl, rfl, ⟨q, h3⟩, h4, h5, ?_, Fe_2 (Fe_2 (Fe_2 (Fe_r h7 (by decide)))), Fs_t (Fs_t (Fs_t h8 (by decide)) (by decide)) (by decide), ⟨ct, h9, ?_⟩, Bl_t (by decide) (Bl_t (by decide) (Bl_t (by decide) h10))⟩
      · obtain ⟨hx, hy, hz⟩ := hc
        rw [inW_int (by decide) (by decide)] at hx hy hz
        show (0 ≤ (F 7).toInt ∧ (F 7).toInt ≤ 20) ∧ (0 ≤ (F 8).toInt ∧ (F 8).toInt ≤ 20) ∧ (0 ≤ (tS (tS (tS F 9 x) 10 y) 11 z 9).toInt ∧ (tS (tS (tS F 9 x) 10 y) 11 z 9).toInt ≤ 1000000) ∧ (0 ≤ (tS (tS (tS F 9 x) 10 y) 11 z 10).toInt ∧ (tS (tS (tS F 9 x) 10 y) 11 z 10).toInt ≤ 1000) ∧ (0 ≤ (tS (tS (tS F 9 x) 10 y) 11 z 11).toInt ∧ (tS (tS (tS F 9 x) 10 y) 11 z 11).toInt ≤ 1000000000)
        rw [tS_self, tS_ne (tS (tS F 9 x) 10 y) _ (show 10 ≠ 11 by decide), tS_self, tS_ne (tS (tS F 9 x) 10 y) _ (show 9 ≠ 11 by decide), tS_ne (tS F 9 x) _ (show 9 ≠ 10 by decide), tS_self]
        refine ⟨h6.1, h6.2.1, by omega, by omega, by omega⟩
      · show tS (tS (tS F 9 x) 10 y) 11 z 4 = nI ct
        rw [tS_ne _ _ (by decide), tS_ne _ _ (by decide), tS_ne _ _ (by decide)]
        exact h9b
  · refine ⟨nI 1, (S, T, L, F, bs), (S, T, K, Z, L', tS F' 3 (nI 1)), _, cL_buffer_x1 l G sa gX_0 x y z ⟨by decide, by decide, by rfl, by rfl⟩ (c_X3_buffer_x1 l hl0 G sa a S T L F bs x y z hc), ?_, c_X4_buffer_1 l G a' S T K Z L' F' x y z hc, rfl, Rel_t h⟩
    exact ⟨by decide, by decide, rfl, rfl⟩
end
