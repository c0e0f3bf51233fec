/-! the class: the rest of a hill's writes -/
section G37
variable {d : Nat} {sh : gS} {M : gM} {Q : gQ} {f : Nat → Nat} {h : Nat}
theorem c_storeIn {b p : Nat} (hh : gHl sh h) (hb0 : gkd sh b = 0) (hb : p + 47 ≤ gln sh b) (hp : p < 1000000) (hQ : ∀ M', (∀ k, k < 47 → M' b (p + k) = M (h + 1) k) → (∀ k, k < p ∨ p + 47 ≤ k → M' b k = M b k) → (∀ a, a ≠ b → M' a = M a) → Q [] sh M') : gcl (d + 1) 27 [.ref h, .ref b, .int (nI p)] sh M Q := by
  obtain ⟨k1, k2, k3, k4, ⟨k5, k6⟩, -⟩ := id hh
  rw [e27]
  simp (disch := first | omega | assumption) only [u27_0, u27_1, u27_4, u27_5, u27_6, u27_7, u27_9, u27_12, k1, k2, k5, k6, hb0, nIz, gfv_s, gfv_n, gop1_s, nI_add, pk_mul, nIcl, vinT, nIle, nIlt, nIeq, true_and, and_true, List.cons_append, List.nil_append, List.length_nil, List.length_cons, Nat.zero_le, Nat.reduceLeDiff, Nat.reduceAdd, Nat.reduceMul]
  refine ⟨⟨⟨by omega, by omega, by omega⟩, by omega⟩, hQ _ (fun k hk => ?_) (fun k hk => ?_) (fun a ha => gr_ne ha)⟩
  · rw [gr_at]
    unfold va_cpy
    rw [if_pos (by omega)]
    congr 1
    omega
  · rw [gr_at]
    unfold va_cpy
    rw [if_neg (by omega)]
theorem c_fetchFrom {b p : Nat} (hh : gHl sh h) (hb0 : gkd sh b = 0) (hb : p + 47 ≤ gln sh b) (hp : p < 1000000) (hQ : ∀ M', (∀ k, k < 47 → M' (h + 1) k = M b (p + k)) → (∀ a, a ≠ h + 1 → M' a = M a) → Q [] sh M') : gcl (d + 1) 28 [.ref h, .ref b, .int (nI p)] sh M Q := by
  obtain ⟨k1, k2, k3, k4, ⟨k5, k6⟩, -⟩ := id hh
  rw [e28]
  simp (disch := first | omega | assumption) only [u28_0, u28_1, u28_2, u28_3, u28_6, u28_7, u28_9, u28_12, k1, k2, k5, k6, hb0, nIz, gfv_s, gfv_n, gop1_s, nI_add, pk_mul, nIcl, vinT, nIle, nIlt, nIeq, true_and, and_true, List.cons_append, List.nil_append, List.length_nil, List.length_cons, Nat.zero_le, Nat.reduceLeDiff, Nat.reduceAdd, Nat.reduceMul]
  refine ⟨⟨⟨by omega, by omega, by omega⟩, by omega⟩, hQ _ (fun k hk => ?_) (fun a ha => gr_ne ha)⟩
  rw [gr_at]
  unfold va_cpy
  rw [if_pos (by omega)]
  congr 1
theorem c_takeFor {t s : Nat} (hh : gHl sh h) (ht : t < 7) : gcl (d + 1) 33 [.ref h, .int (nI t), .int (nI s)] sh M Q = Q [] sh (gr M (h + 1) (upd (M (h + 1)) (7 + t) (nI s))) := by
  obtain ⟨k1, k2, -, -, ⟨k5, k6⟩, -⟩ := hh
  rw [e33]
  simp (disch := omega) only [u33_0, u33_1, u33_4, u33_6, u33_7, u33_8, u33_9, u33_10, k1, k2, k5, k6, gfv_s, gfv_n, gop1_s, nI_add, pk_mul, nIcl, vinT, nIle, nIlt, nIeq, true_and, and_true, List.cons_append, List.nil_append, List.length_nil, List.length_cons, Nat.zero_le, Nat.reduceLeDiff, Nat.reduceAdd, Nat.reduceMul]
theorem c_addHouse {p : Nat} (hh : gHl sh h) (hO : cO (M (h + 1)) f) (h4 : f 3 ≤ 3) (hQ : ∀ M', cO (M' (h + 1)) (aSet f p) → (∀ k, k ≠ 2 → k < 35 → M' (h + 1) k = M (h + 1) k) → (∀ a, a ≠ h + 1 → M' a = M a) → Q [] sh M') : gcl (d + 2) 34 [.ref h, .int (nI p)] sh M Q := by
  obtain ⟨k1, k2, k3, k4, ⟨k5, k6⟩, -⟩ := id hh
  obtain ⟨o1, o2, o3⟩ := id hO
  rw [e34]
  simp (disch := first | omega | assumption) only [u34_0, u34_1, u34_4, u34_5, u34_6, u34_7, u34_10, u34_11, u34_12, u34_15, u34_17, u34_18, u34_19, u34_20, u34_21, u34_22, u34_25, u34_27, u34_28, u34_29, u34_30, u34_31, u34_32, u34_35, u34_37, u34_38, u34_39, u34_40, u34_41, u34_42, u34_45, u34_46, u34_47, u34_48, u34_49, u34_50, k1, k2, k5, k6, c_houses, o2, gr_at, gr_gr, gfv_s, gfv_n, gop1_s, nI_add, pk_mul, nIcl, vinT, nIle, nIlt, nIeq, true_and, and_true, List.cons_append, List.nil_append, List.length_nil, List.length_cons, Nat.zero_le, Nat.reduceLeDiff, Nat.reduceAdd, Nat.reduceMul]
  refine ⟨fun _ => hQ _ ?_ (fun k q1 q2 => ?_) (fun a ha => gr_ne ha), fun q => absurd (by omega) q⟩
  · rw [gr_at]
    refine ⟨?_, by rw [upd_at]; rfl, fun j hj => ?_⟩
    · rw [upd_ne (by omega), upd_ne (by omega), upd_ne (by omega), upd_ne (by omega), o1]
      unfold aSet
      rw [aUp_ne (by omega), aUp_ne (by omega), aUp_ne (by omega), aUp_ne (by omega)]
    · have hj2 : j < f 3 + 1 := hj
      unfold upd aSet aUp
      by_cases q : j = f 3
      · rw [q]
        refine ⟨?_, ?_, ?_⟩ <;> (repeat' split) <;> first | rfl | omega
      · obtain ⟨c1, c2, c3⟩ := o3 j (by omega)
        refine ⟨?_, ?_, ?_⟩
        · rw [c1]; (repeat' split) <;> first | rfl | omega
        · rw [c2]; (repeat' split) <;> first | rfl | omega
        · rw [c3]; (repeat' split) <;> first | rfl | omega
  · rw [gr_at, upd_ne (by omega), upd_ne (by omega), upd_ne (by omega), upd_ne (by omega)]
theorem j_fill {b n : Nat} {x : Int32} (hb0 : gkd sh b = 0) (hb : gln sh b = n) (hn : n < 1000000) (hQ : ∀ M', (∀ k, k < n → M' b k = x) → (∀ k, n ≤ k → M' b k = M b k) → (∀ a, a ≠ b → M' a = M a) → Q [] sh M') : gcl (d + 1) 204 [.ref b, .int x] sh M Q := by
  have loop : ∀ m t M1, t + m = n → (∀ k, k < t → M1 b k = x) → (∀ k, t ≤ k → M1 b k = M b k) → (∀ a, a ≠ b → M1 a = M a) → gR (gcl d) (0, fun _ => 0) 204 5 [some (.ref b), some (.int x), some (.int (nI t)), some (.int (nI n))] [] sh M1 0 0 Q := by
    intro m
    induction m with
    | zero =>
      intro t M1 ht h1 h2 h3
      obtain rfl : t = n := by omega
      rw [u204_5]
      simp (disch := omega) only [u204_0, u204_1, u204_2, u204_3, u204_4, u204_6, u204_7, u204_10, u204_11, u204_12, u204_13, u204_14, u204_17, u204_20, gfv_s, gfv_n, gop1_s, nI_add, pk_mul, nIcl, vinT, nIle, nIlt, nIeq, true_and, and_true, List.cons_append, List.nil_append, List.length_nil, List.length_cons, Nat.zero_le, Nat.reduceLeDiff, Nat.reduceAdd, Nat.reduceMul]
      exact ⟨fun _ => hQ M1 h1 h2 h3, fun q => (q (Nat.le_refl _)).elim⟩
    | succ m ih =>
      intro t M1 ht h1 h2 h3
      rw [u204_5]
      simp (disch := omega) only [u204_0, u204_1, u204_2, u204_3, u204_4, u204_6, u204_7, u204_10, u204_11, u204_12, u204_13, u204_14, u204_17, u204_20, hb0, hb, gfv_s, gfv_n, gop1_s, nI_add, pk_mul, nIcl, vinT, nIle, nIlt, nIeq, true_and, and_true, List.cons_append, List.nil_append, List.length_nil, List.length_cons, Nat.zero_le, Nat.reduceLeDiff, Nat.reduceAdd, Nat.reduceMul]
      refine ⟨fun q => absurd q (by omega), fun _ => ih (t + 1) _ (by omega) (fun k hk => ?_) (fun k hk => ?_) (fun a ha => by rw [gr_ne ha]; exact h3 a ha)⟩
      · rw [gr_at]
        by_cases q : k = t
        · rw [q, upd_at]
        · rw [upd_ne q]
          exact h1 k (by omega)
      · rw [gr_at, upd_ne (by omega)]
        exact h2 k (by omega)
  rw [e204]
  simp (disch := omega) only [u204_0, u204_1, u204_2, u204_3, u204_4, u204_6, u204_7, u204_10, u204_11, u204_12, u204_13, u204_14, u204_17, u204_20, hb0, hb, gfv_s, gfv_n, gop1_s, nI_add, pk_mul, nIcl, vinT, nIle, nIlt, nIeq, true_and, and_true, List.cons_append, List.nil_append, List.length_nil, List.length_cons, Nat.zero_le, Nat.reduceLeDiff, Nat.reduceAdd, Nat.reduceMul]
  exact loop n 0 M (by omega) (fun k hk => absurd hk (by omega)) (fun _ _ => rfl) (fun _ _ => rfl)
theorem c_clearAll (hh : gHl sh h) (hQ : ∀ M', (∀ k, k < 47 → M' (h + 1) k = nI 0) → (∀ a, a ≠ h + 1 → M' a = M a) → Q [] sh M') : gcl (d + 2) 25 [.ref h] sh M Q := by
  obtain ⟨k1, k2, k3, k4, ⟨k5, k6⟩, -⟩ := id hh
  rw [e25]
  simp (disch := first | omega | assumption) only [u25_0, u25_1, u25_4, u25_5, u25_8, k1, k2, gfv_s, gfv_n, gop1_s, nI_add, pk_mul, nIcl, vinT, nIle, nIlt, nIeq, true_and, and_true, List.cons_append, List.nil_append, List.length_nil, List.length_cons, Nat.zero_le, Nat.reduceLeDiff, Nat.reduceAdd, Nat.reduceMul]
  refine j_fill k5 k6 (by omega) (fun M1 h1 h2 h3 => ?_)
  simp (disch := first | omega | assumption) only [u25_0, u25_1, u25_4, u25_5, u25_8, gfv_s, gfv_n, gop1_s, nI_add, pk_mul, nIcl, vinT, nIle, nIlt, nIeq, true_and, and_true, List.cons_append, List.nil_append, List.length_nil, List.length_cons, Nat.zero_le, Nat.reduceLeDiff, Nat.reduceAdd, Nat.reduceMul]
  exact hQ M1 h1 h3
end G37
