/-! places: the class's choice is the model's -/
theorem clamp_eq {x lo hi : Int32} (h : lo ≤ hi) : iNear x lo hi = imax lo (imin hi x) := by
  refine Int32.toInt_inj.mp ?_
  rw [i3_max, i3_min]
  rw [i3_le] at h
  unfold iNear
  simp only [i3_lt]
  split
  · omega
  · split <;> omega
theorem stand_eq {T : Nat → Nat → Int32} {k : Nat} (h1 : T 3 k ≤ T 4 k) (h2 : T 5 k ≤ T 6 k) (x y : Int32) : standM T k x y = standT T k x y := by
  funext f
  by_cases e : f = 9
  · subst e
    show upd (T 9) k _ = upd (T 9) k _
    rw [clamp_eq h1]
  · by_cases e2 : f = 10
    · subst e2
      show upd (T 10) k _ = upd (T 10) k _
      rw [clamp_eq h2]
    · unfold standM standT
      split <;> simp_all
theorem standT_row {T : Nat → Nat → Int32} {k f : Nat} {x y : Int32} (h1 : f ≠ 9) (h2 : f ≠ 10) : standT T k x y f = T f := by
  unfold standT
  split <;> simp_all
theorem standT_8 {T : Nat → Nat → Int32} {k : Nat} {x y : Int32} {r : Nat → Int32} : standT (tS T 8 r) k x y = tS (standT T k x y) 8 r := by
  funext f
  by_cases e : f = 8
  · subst e; rw [standT_row (by decide) (by decide), tS_self, tS_self]
  · rw [tS_ne _ _ e]
    by_cases e9 : f = 9
    · subst e9; rfl
    · by_cases e10 : f = 10
      · subst e10; rfl
      · rw [standT_row e9 e10, standT_row e9 e10, tS_ne _ _ e]
theorem chooseF_8 {P : Nat → Nat} {r : Nat → Int32} : ∀ {k : Nat} {T : Nat → Nat → Int32}, chooseF P k (tS T 8 r) = tS (chooseF P k T) 8 r
  | 0, _ => rfl
  | k + 1, T => by
    show chooseF P k (standT (tS T 8 r) k (tS T 8 r 9 (P k)) (tS T 8 r 10 (P k))) = tS (chooseF P k (standT T k (T 9 (P k)) (T 10 (P k)))) 8 r
    rw [standT_8, chooseF_8, tS_ne _ _ (by decide), tS_ne _ _ (by decide)]
theorem chooseF_row {P : Nat → Nat} {f : Nat} (h1 : f ≠ 9) (h2 : f ≠ 10) : ∀ {k : Nat} {T : Nat → Nat → Int32}, chooseF P k T f = T f
  | 0, _ => rfl
  | k + 1, T => by
    show chooseF P k (standT T k (T 9 (P k)) (T 10 (P k))) f = T f
    rw [chooseF_row h1 h2, standT_row h1 h2]
theorem chooseF_at {P : Nat → Nat} {f x : Nat} : ∀ {k : Nat} {T : Nat → Nat → Int32}, k ≤ x → chooseF P k T f x = T f x
  | 0, _, _ => rfl
  | k + 1, T, h => by
    show chooseF P k (standT T k (T 9 (P k)) (T 10 (P k))) f x = T f x
    rw [chooseF_at (by omega)]
    by_cases e9 : f = 9
    · subst e9; exact pk_un (by omega)
    · by_cases e10 : f = 10
      · subst e10; exact pk_un (by omega)
      · rw [standT_row e9 e10]
theorem chM_eq {pr : Nat → Nat} {rt : Nat} {X Y : Int32} : ∀ {k : Nat} {T : Nat → Nat → Int32}, k ≤ rt → (∀ x, x < k → T 3 x ≤ T 4 x ∧ T 5 x ≤ T 6 x) → chM pr rt X Y k T = chooseF pr k T
  | 0, _, _, _ => rfl
  | k + 1, T, hk, h => by
    show chM pr rt X Y k (standM T k (if k < rt then T 9 (pr k) else X) (if k < rt then T 10 (pr k) else Y)) = chooseF pr k (standT T k (T 9 (pr k)) (T 10 (pr k)))
    rw [if_pos (by omega), if_pos (by omega), stand_eq (h k (by omega)).1 (h k (by omega)).2]
    refine chM_eq (by omega) (fun x hx => ?_)
    rw [standT_row (by decide) (by decide), standT_row (by decide) (by decide), standT_row (by decide) (by decide), standT_row (by decide) (by decide)]
    exact h x (by omega)
theorem iabs_int {x : Int32} (h : -2147483648 < x.toInt) : (iabs x).toInt = max x.toInt (-x.toInt) := by
  have e0 : (0 : Int32).toInt = 0 := by decide
  have hx := Int32.toInt_lt x
  unfold iabs
  by_cases g : 0 ≤ x
  · rw [if_pos g]; rw [i3_le, e0] at g; omega
  · rw [if_neg g]; rw [i3_le, e0] at g; rw [i3_sub (by omega) (by omega), e0]; omega
theorem abs_eq {u X : Int32} (h1 : -1000000 ≤ u.toInt ∧ u.toInt ≤ 1000000) (h2 : -1000000 ≤ X.toInt ∧ X.toInt ≤ 1000000) : iG u u X X = iabs (u - X) ∧ (iabs (u - X)).toInt = max (u.toInt - X.toInt) (X.toInt - u.toInt) := by
  have e1 : (u - X).toInt = u.toInt - X.toInt := i3_sub (by omega) (by omega)
  have e2 : (X - u).toInt = X.toInt - u.toInt := i3_sub (by omega) (by omega)
  have e3 := iabs_int (x := u - X) (by rw [e1]; omega)
  rw [e1] at e3
  refine ⟨Int32.toInt_inj.mp ?_, by rw [e3]; omega⟩
  unfold iG
  rw [i3_max, i3_max, i3_n0, e1, e2, e3]
  omega
/-- a built tree, as the calls need it -/
def BT (T : Nat → Nat → Int32) (lc rc w : Nat → Nat) (lv n : Nat) : Prop :=
  (∀ m, lv ≤ m → m < n → lc m < m ∧ rc m < m ∧ T 0 m = nI (lc m) ∧ T 1 m = nI (rc m) ∧ T 2 (lc m) = nI m ∧ T 2 (rc m) = nI m ∧ w m = w (lc m) + w (rc m)) ∧
  (∀ k, k < n → (k + 1 = n ∧ T 2 k = -1) ∨ ∃ m, k < m ∧ lv ≤ m ∧ m < n ∧ T 2 k = nI m ∧ (k = lc m ∨ k = rc m)) ∧
  (∀ k, k < lv → w k = 1) ∧ (∀ k, k < n → 1 ≤ w k ∧ w k ≤ lv) ∧
  (∀ k, k < n → 0 ≤ (T 8 k).toInt ∧ (T 8 k).toInt ≤ 409600) ∧ n + 1 = 2 * lv ∧ 1 ≤ lv ∧ lv ≤ 10
section
variable {T : Nat → Nat → Int32} {lc rc w : Nat → Nat} {lv rt : Nat} {pr : Nat → Nat} {X Y : Int32}
theorem TI_root (h : TI T lc rc w lv (rt + 1)) : T 2 rt = -1 := by
  rcases h.2.1 rt (by omega) with q | ⟨m, h1, h2, h3, -⟩
  · exact q
  · omega
theorem TI_par (h : TI T lc rc w lv (rt + 1)) (hrt : rt + 2 = 2 * lv) {k : Nat} (hk : k < rt) : ∃ m, k < m ∧ lv ≤ m ∧ m < rt + 1 ∧ T 2 k = nI m ∧ (k = lc m ∨ k = rc m) := by
  rcases h.2.1 k (by omega) with q | q
  · have := fs_ge2 (w := fun _ => 1) q (TI_root h) (by omega) (n := rt + 1) (by omega) (by omega)
    have h2 := h.2.2.2.2.2.2.2.1
    omega
  · exact q
theorem choose_ok (h : TI T lc rc w lv (rt + 1)) (hrt : rt + 2 = 2 * lv) (h1 : 1 ≤ lv) (h10 : lv ≤ 10) (hX : 0 ≤ X.toInt ∧ X.toInt ≤ 409600) (hY : -204800 ≤ Y.toInt ∧ Y.toInt ≤ 204800) :
    rootM (chM pr rt X Y (rt + 1) T) rt X Y = chooseF pr rt (rootT T rt X Y) ∧ BT (chooseF pr rt (rootT T rt X Y)) lc rc w lv (rt + 1) ∧ chooseF pr rt (rootT T rt X Y) 11 = T 11 := by
  have nb := h.1 rt (by omega)
  have lh : ∀ x, x < rt + 1 → T 3 x ≤ T 4 x ∧ T 5 x ≤ T 6 x := fun x hx => by
    have := h.1 x hx
    unfold nB at this
    rw [i3_le, i3_le]
    exact ⟨this.2.2.1, this.2.2.2.2.2.2.1⟩
  have eM : chM pr rt X Y (rt + 1) T = chooseF pr rt (standT T rt X Y) := by
    show chM pr rt X Y rt (standM T rt (if rt < rt then T 9 (pr rt) else X) (if rt < rt then T 10 (pr rt) else Y)) = _
    rw [if_neg (by omega), if_neg (by omega), stand_eq (lh rt (by omega)).1 (lh rt (by omega)).2]
    refine chM_eq (Nat.le_refl _) (fun x hx => ?_)
    rw [standT_row (by decide) (by decide), standT_row (by decide) (by decide), standT_row (by decide) (by decide), standT_row (by decide) (by decide)]
    exact lh x (by omega)
  have u9 : standT T rt X Y 9 rt = imax (T 3 rt) (imin (T 4 rt) X) := pk_us
  have u10 : standT T rt X Y 10 rt = imax (T 5 rt) (imin (T 6 rt) Y) := pk_us
  unfold nB at nb
  have v9 : (standT T rt X Y 9 rt).toInt = max (T 3 rt).toInt (min (T 4 rt).toInt X.toInt) := by rw [u9, i3_max, i3_min]
  have v10 : (standT T rt X Y 10 rt).toInt = max (T 5 rt).toInt (min (T 6 rt).toInt Y.toInt) := by rw [u10, i3_max, i3_min]
  have a9 := abs_eq (u := standT T rt X Y 9 rt) (X := X) (by rw [v9]; omega) (by omega)
  have a10 := abs_eq (u := standT T rt X Y 10 rt) (X := Y) (by rw [v10]; omega) (by omega)
  have eR : rootT T rt X Y = tS (standT T rt X Y) 8 (upd (T 8) rt (imax (iabs (standT T rt X Y 9 rt - X)) (iabs (standT T rt X Y 10 rt - Y)))) := rfl
  have row : ∀ f, f ≠ 8 → f ≠ 9 → f ≠ 10 → chooseF pr rt (rootT T rt X Y) f = T f := fun f g1 g2 g3 => by
    rw [eR, chooseF_8, tS_ne _ _ g1, chooseF_row g2 g3, standT_row g2 g3]
  have row8 : chooseF pr rt (rootT T rt X Y) 8 = upd (T 8) rt (imax (iabs (standT T rt X Y 9 rt - X)) (iabs (standT T rt X Y 10 rt - Y))) := by
    rw [eR, chooseF_8, tS_self]
  refine ⟨?_, ?_, row 11 (by decide) (by decide) (by decide)⟩
  · unfold rootM
    rw [eM, eR, chooseF_8, chooseF_at (Nat.le_refl _), chooseF_at (Nat.le_refl _), chooseF_row (by decide) (by decide), standT_row (by decide) (by decide), a9.1, a10.1]
  · obtain ⟨b, p, c, w1, w2, wr, f1, f2, hl⟩ := h
    have hT : TI T lc rc w lv (rt + 1) := ⟨b, p, c, w1, w2, wr, f1, f2, hl⟩
    refine ⟨fun m m1 m2 => ?_, fun k hk => ?_, w1, w2, fun k hk => ?_, by omega, h1, h10⟩
    · rw [row 0 (by decide) (by decide) (by decide), row 1 (by decide) (by decide) (by decide), row 2 (by decide) (by decide) (by decide)]
      exact c m m1 m2
    · rw [row 2 (by decide) (by decide) (by decide)]
      by_cases e : k = rt
      · subst e; exact Or.inl ⟨rfl, TI_root hT⟩
      · exact Or.inr (TI_par hT hrt (by omega))
    · rw [row8]
      by_cases e : k = rt
      · subst e
        rw [pk_us, i3_max, a9.2, a10.2, v9, v10]
        omega
      · rw [pk_un e]
        refine wr k hk ?_
        obtain ⟨m, q1, q2, q3, q4, -⟩ := TI_par hT hrt (show k < rt by omega)
        rw [q4]
        exact nI_m1 (by omega)
end
