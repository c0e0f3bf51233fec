/-! bridges: the moves of all houses -/
def aMoves (f : Nat → Nat) : Prop := f 5 = aSum (fun j => f (42 + j)) (f 3)
theorem aSum_c {g g' : Nat → Nat} : ∀ {n : Nat}, (∀ t, t < n → g t = g' t) → aSum g n = aSum g' n
  | 0, _ => rfl
  | n + 1, h => by
    unfold aSum
    rw [aSum_c (fun t ht => h t (by omega)), h n (by omega)]
theorem aSum_up {g g' : Nat → Nat} {w : Nat} (hw : g' w = g w + 1) (hn : ∀ t, t ≠ w → g' t = g t) : ∀ n, aSum g' n = aSum g n + (if w < n then 1 else 0)
  | 0 => rfl
  | n + 1 => by
    have ih := aSum_up hw hn n
    unfold aSum
    rw [ih]
    by_cases q : n = w
    · subst q
      rw [hw, if_neg (by omega), if_pos (by omega)]
      omega
    · rw [hn n q]
      (repeat' split) <;> omega
theorem aMv_moves {f : Nat → Nat} (h3 : f 3 ≤ 4) (h : aMoves f) : aMoves (aMv f) := by
  have e3 : aMv f 3 = f 3 := aMv_e h3 (by omega) (by omega)
  unfold aMoves at h ⊢
  rw [e3]
  by_cases q : f 3 = 0 ∨ aB f = f (34 + aW f)
  · have e : aMv f = aLit f (f 3) := by unfold aMv; rw [if_pos q]
    rw [e, aLit_lo _ _ _ (by omega), h]
    refine aSum_c (fun t _ => ?_)
    unfold aLit
    rw [if_neg (by omega)]
  · have e : aMv f = aUp (aUp (aUp (aLit f (f 3)) (34 + aW f) (aB f)) (42 + aW f) (f (42 + aW f) + 1)) 5 (f 5 + 1) := by unfold aMv; rw [if_neg q]
    have hw : aW f < f 3 := by
      have := aWho_lt f (f 3)
      unfold aW
      omega
    rw [e, aUp_at, aSum_up (g := fun j => f (42 + j)) (w := aW f), if_pos hw, ← h]
    · show aUp _ 5 _ (42 + aW f) = _
      rw [aUp_ne (by omega), aUp_at]
    · intro t ht
      show aUp _ 5 _ (42 + t) = _
      rw [aUp_ne (by omega), aUp_ne (by omega), aUp_ne (by omega)]
      unfold aLit
      rw [if_neg (by omega)]
theorem aYear_moves {f : Nat → Nat} (h2 : f 2 ≤ 7) (h3 : f 3 ≤ 4) (h : aMoves f) : aMoves (aYear f) := by
  have hm := aMv_moves h3 h
  have e2 : aMv f 2 = f 2 := aMv_e h3 (by omega) (by omega)
  unfold aMoves at hm ⊢
  have e : ∀ k, k ≠ 4 → k < 20 ∨ 34 ≤ k → aYear f k = aMv f k := fun k q1 q2 => by
    unfold aYear
    rw [aUp_ne q1, aGrow_e _ (by omega) q2]
  rw [e 5 (by omega) (by omega), e 3 (by omega) (by omega), hm]
  exact aSum_c (fun t _ => (e _ (by omega) (by omega)).symm)
