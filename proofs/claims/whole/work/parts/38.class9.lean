/-! the class: the sun's falls; all moves -/
def aSum (g : Nat → Nat) : Nat → Nat
  | 0 => 0
  | n + 1 => aSum g n + g n
theorem aSum_le {g : Nat → Nat} {B : Nat} : ∀ n, (∀ j, j < n → g j ≤ B) → aSum g n ≤ n * B
  | 0, _ => by simp [aSum]
  | n + 1, h => by
    have := aSum_le n (fun j hj => h j (by omega))
    have := h n (by omega)
    unfold aSum
    rw [Nat.succ_mul]
    omega
section G38
variable {d : Nat} {sh : gS} {M : gM} {Q : gQ} {f : Nat → Nat} {h : Nat}
theorem c_allMoves (hh : gHl sh h) (hO : cO (M (h + 1)) f) (hf : aWf f) (hQ : Q [.int (nI (aSum (fun j => f (42 + j)) (f 3)))] sh M) : gcl (d + 2) 24 [.ref h] sh M Q := by
  obtain ⟨k1, -⟩ := id hh
  obtain ⟨o1, o2, o3⟩ := id hO
  have h3 := hf.1.2.2.2
  have loop : ∀ n t, t + n = f 3 → gR (gcl (d + 1)) (0, fun _ => 0) 24 4 [some (.ref h), some (.int (nI (aSum (fun j => f (42 + j)) t))), some (.int (nI t))] [] sh M 0 0 Q := by
    intro n
    induction n with
    | zero =>
      intro t ht
      obtain rfl : t = f 3 := by omega
      rw [u24_4]
      simp (disch := first | omega | assumption) only [u24_0, u24_1, u24_2, u24_3, u24_5, u24_6, u24_9, u24_12, u24_13, u24_14, u24_15, u24_18, u24_19, u24_20, u24_23, u24_26, u24_27, k1, c_houses, o2, gfv_s, gfv_n, gop1_s, nI_add, pk_mul, nIcl, vinT, nIle, nIlt, nIeq, true_and, and_true, List.cons_append, List.nil_append, List.length_nil, List.length_cons, Nat.zero_le, Nat.reduceLeDiff, Nat.reduceAdd, Nat.reduceMul]
      exact ⟨fun _ => hQ, fun q => (q (Nat.le_refl _)).elim⟩
    | succ n ih =>
      intro t ht
      rw [u24_4]
      simp (disch := first | omega | assumption) only [u24_0, u24_1, u24_2, u24_3, u24_5, u24_6, u24_9, u24_12, u24_13, u24_14, u24_15, u24_18, u24_19, u24_20, u24_23, u24_26, u24_27, k1, c_houses, c_moved, o2, (o3 t (by omega)).2.2, gfv_s, gfv_n, gop1_s, nI_add, pk_mul, nIcl, vinT, nIle, nIlt, nIeq, true_and, and_true, List.cons_append, List.nil_append, List.length_nil, List.length_cons, Nat.zero_le, Nat.reduceLeDiff, Nat.reduceAdd, Nat.reduceMul]
      exact ⟨fun q => absurd q (by omega), fun _ => ih (t + 1) (by omega)⟩
  rw [e24]
  simp only [u24_0, u24_1, u24_2, u24_3, u24_5, u24_6, u24_9, u24_12, u24_13, u24_14, u24_15, u24_18, u24_19, u24_20, u24_23, u24_26, u24_27]
  exact loop (f 3) 0 (by omega)
theorem j_max1 {a b : Nat} (ha : a < 1000000) (hb : b < 1000000) (hQ : Q [.int (nI (if b + 1 ≤ a then a - b else 1))] sh M) : gcl (d + 1) 202 [.int (nI 1), .int (nI a - nI b)] sh M Q := by
  rw [e202]
  simp (disch := omega) only [u202_0, u202_1, u202_2, u202_5, u202_6, u202_9, u202_10, nIdlt, gfv_s, gfv_n, gop1_s, nI_add, pk_mul, nIcl, vinT, nIle, nIlt, nIeq, true_and, and_true, List.cons_append, List.nil_append, List.length_nil, List.length_cons, Nat.zero_le, Nat.reduceLeDiff, Nat.reduceAdd, Nat.reduceMul]
  refine ⟨fun q => ?_, fun q => ?_⟩
  · rw [if_pos (by omega)] at hQ
    rw [nIsub (by omega)]
    exact hQ
  · by_cases e : b + 1 ≤ a
    · rw [if_pos e] at hQ
      rw [show a - b = 1 by omega] at hQ
      exact hQ
    · rw [if_neg e] at hQ
      exact hQ
theorem c_setSun {u w : Nat} (hh : gHl sh h) (hu : u ≤ 100) (hw : w ≤ 100) (hQ : ∀ M', (∀ s, s < 4 → M' (h + 1) (3 + s) = nI (if u + 1 ≤ 3 + w * s then 3 + w * s - u else 1)) → (∀ k, k < 3 ∨ 7 ≤ k → M' (h + 1) k = M (h + 1) k) → (∀ a, a ≠ h + 1 → M' a = M a) → Q [] sh M') : gcl (d + 2) 29 [.ref h, .int (nI u), .int (nI w)] sh M Q := by
  obtain ⟨k1, k2, k3, k4, ⟨k5, k6⟩, -⟩ := id hh
  have loop : ∀ n t M1, t + n = 4 → (∀ s, s < t → M1 (h + 1) (3 + s) = nI (if u + 1 ≤ 3 + w * s then 3 + w * s - u else 1)) → (∀ k, k < 3 ∨ 7 ≤ k → M1 (h + 1) k = M (h + 1) k) → (∀ a, a ≠ h + 1 → M1 a = M a) → gR (gcl (d + 1)) (0, fun _ => 0) 29 2 [some (.ref h), some (.int (nI u)), some (.int (nI w)), some (.int (nI t))] [] sh M1 0 0 Q := by
    intro n
    induction n with
    | zero =>
      intro t M1 ht h1 h2 h3
      obtain rfl : t = 4 := by omega
      rw [u29_2]
      simp (disch := omega) only [u29_0, u29_1, u29_3, u29_4, u29_7, u29_8, u29_11, u29_12, u29_13, u29_14, u29_15, u29_16, u29_17, u29_18, u29_19, u29_20, u29_21, u29_22, u29_25, u29_26, u29_29, u29_32, gfv_s, gfv_n, gop1_s, nI_add, pk_mul, nIcl, vinT, nIle, nIlt, nIeq, true_and, and_true, List.cons_append, List.nil_append, List.length_nil, List.length_cons, Nat.zero_le, Nat.reduceLeDiff, Nat.reduceAdd, Nat.reduceMul]
      exact ⟨fun _ => hQ M1 h1 h2 h3, fun q => (q (by simp)).elim⟩
    | succ n ih =>
      intro t M1 ht h1 h2 h3
      have hm : w * t ≤ 100 * 4 := Nat.mul_le_mul hw (by omega)
      rw [u29_2]
      simp (disch := omega) only [u29_0, u29_1, u29_3, u29_4, u29_7, u29_8, u29_11, u29_12, u29_13, u29_14, u29_15, u29_16, u29_17, u29_18, u29_19, u29_20, u29_21, u29_22, u29_25, u29_26, u29_29, u29_32, k1, k2, gfv_s, gfv_n, gop1_s, nI_add, pk_mul, nIcl, vinT, nIle, nIlt, nIeq, true_and, and_true, List.cons_append, List.nil_append, List.length_nil, List.length_cons, Nat.zero_le, Nat.reduceLeDiff, Nat.reduceAdd, Nat.reduceMul]
      refine ⟨fun q => absurd q (by omega), fun _ => ?_⟩
      refine j_max1 (by omega) (by omega) ?_
      simp (disch := omega) only [u29_0, u29_1, u29_3, u29_4, u29_7, u29_8, u29_11, u29_12, u29_13, u29_14, u29_15, u29_16, u29_17, u29_18, u29_19, u29_20, u29_21, u29_22, u29_25, u29_26, u29_29, u29_32, k5, k6, gfv_s, gfv_n, gop1_s, nI_add, pk_mul, nIcl, vinT, nIle, nIlt, nIeq, true_and, and_true, List.cons_append, List.nil_append, List.length_nil, List.length_cons, Nat.zero_le, Nat.reduceLeDiff, Nat.reduceAdd, Nat.reduceMul]
      refine ih (t + 1) _ (by omega) (fun s hs => ?_) (fun k hk => ?_) (fun a ha => by rw [gr_ne ha]; exact h3 a ha)
      · rw [gr_at]
        by_cases q : s = t
        · rw [q, upd_at]
        · rw [upd_ne (by omega)]
          exact h1 s (by omega)
      · rw [gr_at, upd_ne (by omega)]
        exact h2 k hk
  rw [e29]
  simp only [u29_0, u29_1, u29_3, u29_4, u29_7, u29_8, u29_11, u29_12, u29_13, u29_14, u29_15, u29_16, u29_17, u29_18, u29_19, u29_20, u29_21, u29_22, u29_25, u29_26, u29_29, u29_32]
  exact loop 4 0 M (by omega) (fun s hs => absurd hs (by omega)) (fun _ _ => rfl) (fun _ _ => rfl)
end G38
