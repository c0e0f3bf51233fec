/-! bridges: the trees alone -/
def aEq (f g : Nat → Nat) : Prop := ∀ k, k < 34 → k ≠ 4 → k ≠ 5 → g k = f k
theorem aLight_q {f g : Nat → Nat} (h2 : f 2 ≤ 7) (h : aEq f g) (p : Nat) : aLight g p = aLight f p := by
  unfold aLight aShade
  rw [aBits_c (g' := aDark f p) (fun s hs => ?_)]
  unfold aDark
  rw [h 2 (by omega) (by omega) (by omega)]
  refine aAny_c (fun t ht => ?_)
  unfold aSh
  rw [aFall_c (h 0 (by omega) (by omega) (by omega)) (h 1 (by omega) (by omega) (by omega)), h (13 + t) (by omega) (by omega) (by omega), h (20 + t) (by omega) (by omega) (by omega)]
theorem aGrow_q {f g : Nat → Nat} (h2 : f 2 ≤ 7) (h : aEq f g) : aEq (aGrow f) (aGrow g) := by
  intro k k1 k2 k3
  have e2 := h 2 (by omega) (by omega) (by omega)
  have hh : ∀ t, t < 7 → aHi g t = aHi f t := by
    intro t ht
    have x1 := h (6 + t) (by omega) (by omega) (by omega)
    have x2 := h (13 + t) (by omega) (by omega) (by omega)
    have x3 := h (20 + t) (by omega) (by omega) (by omega)
    have x4 := h (27 + t) (by omega) (by omega) (by omega)
    have y1 : aBd g t = aBd f t := by unfold aBd; rw [x1]
    have y2 : aBy g t = aBy f t := by unfold aBy; rw [x1, x2, x4, aLight_q h2 h]
    unfold aHi
    rw [y1, y2, x3]
  unfold aGrow aGrowN
  rw [e2, h k k1 k2 k3]
  split
  · exact hh _ (by omega)
  · rfl
theorem aYear_q {f : Nat → Nat} (h2 : f 2 ≤ 7) (h3 : f 3 ≤ 4) : aEq (aGrow f) (aYear f) := by
  intro k k1 k2 k3
  unfold aYear
  rw [aUp_ne k2]
  exact aGrow_q h2 (fun j j1 _ j3 => aMv_e h3 j1 j3) k k1 k2 k3
theorem aGrows_q : ∀ (n : Nat) {f g : Nat → Nat}, f 2 ≤ 7 → aEq f g → aEq (aGrows n f) (aGrows n g)
  | 0, _, _, _, h => h
  | n + 1, f, g, h2, h => aGrows_q n (by rw [aGrow_e f h2 (by omega)]; exact h2) (aGrow_q h2 h)
theorem aEq_t {f g k : Nat → Nat} (h1 : aEq f g) (h2 : aEq g k) : aEq f k := fun j a b c => (h2 j a b c).trans (h1 j a b c)
theorem aYear_e {f : Nat → Nat} (h2 : f 2 ≤ 7) (h3 : f 3 ≤ 4) {k : Nat} (hk : k < 20) (k4 : k ≠ 4) (k5 : k ≠ 5) : aYear f k = f k := by
  rw [aYear_q h2 h3 k (by omega) k4 k5, aGrow_e f h2 (by omega)]
theorem aYears_q : ∀ (n : Nat) {f : Nat → Nat}, f 2 ≤ 7 → f 3 ≤ 4 → aEq (aGrows n f) (aYears n f)
  | 0, _, _, _ => fun _ _ _ _ => rfl
  | n + 1, f, h2, h3 => by
    have e2 : aYear f 2 = f 2 := aYear_e h2 h3 (by omega) (by omega) (by omega)
    have e3 : aYear f 3 = f 3 := aYear_e h2 h3 (by omega) (by omega) (by omega)
    have := aYears_q n (f := aYear f) (by omega) (by omega)
    exact aEq_t (aGrows_q n (by rw [aGrow_e f h2 (by omega)]; exact h2) (aYear_q h2 h3)) this
theorem aGrows_e : ∀ (n : Nat) {f : Nat → Nat}, f 2 ≤ 7 → ∀ {k : Nat}, k < 20 ∨ 34 ≤ k → aGrows n f k = f k
  | 0, _, _, _, _ => rfl
  | n + 1, f, h2, k, hk => by
    have := aGrows_e n (f := aGrow f) (by rw [aGrow_e f h2 (by omega)]; exact h2) hk
    exact this.trans (aGrow_e f h2 hk)
/-- light foretold by the trees alone -/
theorem aYears_light (n : Nat) {f : Nat → Nat} (h2 : f 2 ≤ 7) (h3 : f 3 ≤ 4) (p : Nat) : aLight (aYears n f) p = aLight (aGrows n f) p :=
  aLight_q (by rw [aGrows_e n h2 (by omega)]; exact h2) (aYears_q n h2 h3) p
