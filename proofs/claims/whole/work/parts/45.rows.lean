/-! the class: rows (1; items 2, rows 3.., lanes 11, sizes 12) -/
section G45
variable {d : Nat} {rs : gS} {M : gM} {Q : gQ}
theorem c_isMissing {i : Nat} (hi : i < 8) (hQ : Q [.int (if M 11 i = -1 then nI 1 else nI 0)] (gSH ++ rs) M) : gcl (d + 1) 62 [.ref 1, .int (nI i)] (gSH ++ rs) M Q := by
  rw [e62]
  simp (disch := omega) only [u62_0, u62_1, u62_4, u62_5, u62_6, u62_7, u62_10, u62_11, u62_14, u62_15, kc1, ks1_0, ks1_1, ks1_2, kk11, kl11, kk12, kl12, gfv_s, gfv_n, gop1_s, nI_add, pk_mul, nIcl, vinT, nIle, nIlt, nIeq, true_and, and_true, List.cons_append, List.nil_append, List.length_nil, List.length_cons, Nat.zero_le, Nat.reduceLeDiff, Nat.reduceAdd, Nat.reduceMul]
  refine ⟨fun z => ?_, fun z => ?_⟩
  · rw [if_pos z] at hQ
    exact ⟨Or.inr rfl, hQ⟩
  · rw [if_neg z] at hQ
    exact ⟨Or.inl rfl, hQ⟩
theorem c_sameLane {i j : Nat} (hi : i < 8) (hj : j < 8) (hQ : Q [.int (if M 11 i = M 11 j then nI 1 else nI 0)] (gSH ++ rs) M) : gcl (d + 1) 63 [.ref 1, .int (nI i), .int (nI j)] (gSH ++ rs) M Q := by
  rw [e63]
  simp (disch := omega) only [u63_0, u63_1, u63_4, u63_5, u63_6, u63_7, u63_10, u63_11, u63_12, u63_15, u63_16, u63_19, u63_20, kc1, ks1_0, ks1_1, ks1_2, kk11, kl11, kk12, kl12, gfv_s, gfv_n, gop1_s, nI_add, pk_mul, nIcl, vinT, nIle, nIlt, nIeq, true_and, and_true, List.cons_append, List.nil_append, List.length_nil, List.length_cons, Nat.zero_le, Nat.reduceLeDiff, Nat.reduceAdd, Nat.reduceMul]
  refine ⟨fun z => ?_, fun z => ?_⟩
  · rw [if_pos (by first | exact z | exact z.symm)] at hQ
    exact ⟨Or.inr rfl, hQ⟩
  · rw [if_neg (by first | exact z | exact fun q => z q.symm)] at hQ
    exact ⟨Or.inl rfl, hQ⟩
theorem c_item {i k : Nat} (hi : i < 8) (hk : k < 40) : gcl (d + 1) 65 [.ref 1, .int (nI i), .int (nI k)] (gSH ++ rs) M Q = Q [.int (M (3 + i) k)] (gSH ++ rs) M := by
  rw [e65]
  simp (disch := omega) only [u65_0, u65_1, u65_4, u65_5, u65_6, u65_7, u65_8, kc1, ks1_0, ks1_1, ks1_2, kk2, kl2, kk11, kl11, kk12, kl12, krf, kki, kli, gfv_s, gfv_n, gop1_s, nI_add, pk_mul, nIcl, vinT, nIle, nIlt, nIeq, true_and, and_true, List.cons_append, List.nil_append, List.length_nil, List.length_cons, Nat.zero_le, Nat.reduceLeDiff, Nat.reduceAdd, Nat.reduceMul]
theorem c_remove {i : Nat} (hi : i < 8) : gcl (d + 1) 68 [.ref 1, .int (nI i)] (gSH ++ rs) M Q = Q [.int (M 12 i)] (gSH ++ rs) (gr M 11 (upd (M 11) i (-1))) := by
  have e : gr M 11 (upd (M 11) i (-1)) 12 = M 12 := gr_ne (by decide)
  rw [e68]
  simp (disch := omega) only [u68_0, u68_1, u68_4, u68_5, u68_6, u68_7, u68_8, u68_11, u68_12, u68_13, kc1, ks1_0, ks1_1, ks1_2, kk2, kl2, kk11, kl11, kk12, kl12, e, gfv_s, gfv_n, gop1_s, nI_add, pk_mul, nIcl, vinT, nIle, nIlt, nIeq, true_and, and_true, List.cons_append, List.nil_append, List.length_nil, List.length_cons, Nat.zero_le, Nat.reduceLeDiff, Nat.reduceAdd, Nat.reduceMul]
theorem c_make {i n : Nat} {lane : Int32} (hi : i < 8) (hQ : ∀ M', M' 11 = upd (M 11) i lane → M' 12 = upd (M 12) i (nI n) → (∀ k, k < 40 → M' (3 + i) k = nI 0) → (∀ a, a ≠ 11 → a ≠ 12 → a ≠ 3 + i → M' a = M a) → Q [] (gSH ++ rs) M') : gcl (d + 2) 61 [.ref 1, .int (nI i), .int lane, .int (nI n)] (gSH ++ rs) M Q := by
  rw [e61]
  simp (disch := omega) only [u61_0, u61_1, u61_4, u61_5, u61_6, u61_7, u61_8, u61_11, u61_12, u61_13, u61_14, u61_15, u61_18, u61_19, u61_20, u61_21, u61_24, kc1, ks1_0, ks1_1, ks1_2, kk2, kl2, kk11, kl11, kk12, kl12, krf, kki, kli, gfv_s, gfv_n, gop1_s, nI_add, pk_mul, nIcl, vinT, nIle, nIlt, nIeq, true_and, and_true, List.cons_append, List.nil_append, List.length_nil, List.length_cons, Nat.zero_le, Nat.reduceLeDiff, Nat.reduceAdd, Nat.reduceMul]
  refine j_fill (kki hi) (kli hi) (by omega) (fun M1 h1 h2 h3 => ?_)
  simp (disch := omega) only [u61_0, u61_1, u61_4, u61_5, u61_6, u61_7, u61_8, u61_11, u61_12, u61_13, u61_14, u61_15, u61_18, u61_19, u61_20, u61_21, u61_24, gfv_s, gfv_n, gop1_s, nI_add, pk_mul, nIcl, vinT, nIle, nIlt, nIeq, true_and, and_true, List.cons_append, List.nil_append, List.length_nil, List.length_cons, Nat.zero_le, Nat.reduceLeDiff, Nat.reduceAdd, Nat.reduceMul]
  refine hQ M1 ?_ ?_ h1 (fun a q1 q2 q3 => ?_)
  · rw [h3 11 (by omega), gr_ne (by omega), gr_at]
  · rw [h3 12 (by omega), gr_at, gr_ne (by omega)]
  · rw [h3 a q3, gr_ne q2, gr_ne q1]
theorem c_present (hQ : Q [.int (nI (aSum (fun r => if M 11 r = -1 then 0 else 1) 8))] (gSH ++ rs) M) : gcl (d + 2) 69 [.ref 1] (gSH ++ rs) M Q := by
  have loop : ∀ m t, t + m = 8 → gR (gcl (d + 1)) (0, fun _ => 0) 69 4 [some (.ref 1), some (.int (nI (aSum (fun r => if M 11 r = -1 then 0 else 1) t))), some (.int (nI t))] [] (gSH ++ rs) M 0 0 Q := by
    intro m
    induction m with
    | zero =>
      intro t ht
      obtain rfl : t = 8 := by omega
      rw [u69_4]
      simp (disch := omega) only [u69_0, u69_1, u69_2, u69_3, u69_5, u69_7, u69_10, u69_11, u69_12, u69_15, u69_18, u69_21, u69_24, u69_27, u69_28, gfv_s, gfv_n, gop1_s, nI_add, pk_mul, nIcl, vinT, nIle, nIlt, nIeq, true_and, and_true, List.cons_append, List.nil_append, List.length_nil, List.length_cons, Nat.zero_le, Nat.reduceLeDiff, Nat.reduceAdd, Nat.reduceMul]
      exact ⟨fun _ => hQ, fun q => (q (by simp)).elim⟩
    | succ m ih =>
      intro t ht
      have nx := ih (t + 1) (by omega)
      rw [u69_4]
      simp (disch := omega) only [u69_0, u69_1, u69_2, u69_3, u69_5, u69_7, u69_10, u69_11, u69_12, u69_15, u69_18, u69_21, u69_24, u69_27, u69_28, kc1, ks1_0, ks1_1, ks1_2, kk11, kl11, kk12, kl12, gfv_s, gfv_n, gop1_s, nI_add, pk_mul, nIcl, vinT, nIle, nIlt, nIeq, true_and, and_true, List.cons_append, List.nil_append, List.length_nil, List.length_cons, Nat.zero_le, Nat.reduceLeDiff, Nat.reduceAdd, Nat.reduceMul]
      refine ⟨fun q => absurd q (by omega), fun _ => ?_⟩
      refine c_isMissing (by omega) ?_
      have es : aSum (fun r => if M 11 r = -1 then 0 else 1) (t + 1) = aSum (fun r => if M 11 r = -1 then 0 else 1) t + (if M 11 t = -1 then 0 else 1) := rfl
      rw [es] at nx
      by_cases q : M 11 t = -1
      · rw [if_pos q] at nx ⊢
        simp (disch := omega) only [u69_0, u69_1, u69_2, u69_3, u69_5, u69_7, u69_10, u69_11, u69_12, u69_15, u69_18, u69_21, u69_24, u69_27, u69_28, nIz, gfv_s, gfv_n, gop1_s, nI_add, pk_mul, nIcl, vinT, nIle, nIlt, nIeq, true_and, and_true, List.cons_append, List.nil_append, List.length_nil, List.length_cons, Nat.zero_le, Nat.reduceLeDiff, Nat.reduceAdd, Nat.reduceMul]
        exact ⟨fun z => absurd z (by simp), fun _ => nx⟩
      · rw [if_neg q] at nx ⊢
        simp (disch := omega) only [u69_0, u69_1, u69_2, u69_3, u69_5, u69_7, u69_10, u69_11, u69_12, u69_15, u69_18, u69_21, u69_24, u69_27, u69_28, nIz, gfv_s, gfv_n, gop1_s, nI_add, pk_mul, nIcl, vinT, nIle, nIlt, nIeq, true_and, and_true, List.cons_append, List.nil_append, List.length_nil, List.length_cons, Nat.zero_le, Nat.reduceLeDiff, Nat.reduceAdd, Nat.reduceMul]
        exact ⟨fun _ => nx, fun z => (z (by simp)).elim⟩
  rw [e69]
  simp only [u69_0, u69_1, u69_2, u69_3, u69_5, u69_7, u69_10, u69_11, u69_12, u69_15, u69_18, u69_21, u69_24, u69_27, u69_28]
  exact loop 8 0 (by omega)
end G45
