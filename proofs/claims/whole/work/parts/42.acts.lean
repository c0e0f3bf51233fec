/-! the class: the ring of hills kept (Acts at 23, kept at 24) -/
theorem nIrem24 : ∀ n, n < 64 → nI n - nI n / nI 24 * nI 24 = nI (n % 24) := by decide +kernel
theorem n24 : (nI 24 = 0) = False := by decide
section G42
variable {d : Nat} {rs : gS} {M : gM} {Q : gQ} {f : Nat → Nat} {h : Nat}
theorem c_slotOf {a n : Nat} (h1 : M 23 1 = nI a) (ha : a < 24) (hn : n ≤ 24) : gcl (d + 1) 4 [.ref 23, .int (nI n)] (gSH ++ rs) M Q = Q [.int (nI ((a + n) % 24 * 47))] (gSH ++ rs) M := by
  rw [e4]
  simp (disch := omega) only [u4_0, u4_1, u4_4, u4_5, u4_6, u4_8, u4_9, u4_11, u4_12, kc23, ks23_0, ks23_1, ks23_2, kk24, kl24, h1, nIrem24, n24, not_false_eq_true, gfv_s, gfv_n, gop1_s, nI_add, pk_mul, nIcl, vinT, nIle, nIlt, nIeq, true_and, and_true, List.cons_append, List.nil_append, List.length_nil, List.length_cons, Nat.zero_le, Nat.reduceLeDiff, Nat.reduceAdd, Nat.reduceMul]
theorem c_forgetAll : gcl (d + 1) 3 [.ref 23] (gSH ++ rs) M Q = Q [] (gSH ++ rs) (gr M 23 (upd (upd (M 23) 1 (nI 0)) 2 (nI 0))) := by
  rw [e3]
  simp (disch := omega) only [u3_0, u3_1, u3_2, u3_5, u3_6, u3_7, u3_10, kc23, ks23_0, ks23_1, ks23_2, kk24, kl24, gr_at, gr_gr, gfv_s, gfv_n, gop1_s, nI_add, pk_mul, nIcl, vinT, nIle, nIlt, nIeq, true_and, and_true, List.cons_append, List.nil_append, List.length_nil, List.length_cons, Nat.zero_le, Nat.reduceLeDiff, Nat.reduceAdd, Nat.reduceMul]
theorem c_takeBack {a n : Nat} (hh : gHl (gSH ++ rs) h) (h23 : h + 1 ≠ 23) (h1 : M 23 1 = nI a) (h2 : M 23 2 = nI (n + 1)) (ha : a < 24) (hn : n < 24) (hQ : ∀ M', M' 23 1 = nI a → M' 23 2 = nI n → (∀ k, k < 47 → M' (h + 1) k = M 24 ((a + n) % 24 * 47 + k)) → (∀ b, b ≠ 23 → b ≠ h + 1 → M' b = M b) → Q [] (gSH ++ rs) M') : gcl (d + 2) 2 [.ref 23, .ref h] (gSH ++ rs) M Q := by
  have hm : (a + n) % 24 < 24 := Nat.mod_lt _ (by omega)
  rw [e2]
  simp (disch := omega) only [u2_0, u2_1, u2_4, u2_7, u2_8, u2_8i, u2_9, u2_12, u2_13, u2_14, u2_17, u2_18, u2_19, u2_22, u2_23, u2_24, u2_27, u2_30, u2_33, kc23, ks23_0, ks23_1, ks23_2, kk24, kl24, hh.1, h2, nIz, nIsub, gr_at, Nat.add_sub_cancel, upd_at, gfv_s, gfv_n, gop1_s, nI_add, pk_mul, nIcl, vinT, nIle, nIlt, nIeq, true_and, and_true, List.cons_append, List.nil_append, List.length_nil, List.length_cons, Nat.zero_le, Nat.reduceLeDiff, Nat.reduceAdd, Nat.reduceMul]
  refine ⟨fun q => absurd q (by simp), fun _ => ?_⟩
  rw [c_slotOf (a := a) (by rw [gr_at, upd_ne (by omega), h1]) ha (by omega)]
  simp (disch := omega) only [u2_0, u2_1, u2_4, u2_7, u2_8, u2_8i, u2_9, u2_12, u2_13, u2_14, u2_17, u2_18, u2_19, u2_22, u2_23, u2_24, u2_27, u2_30, u2_33, kc23, ks23_0, ks23_1, ks23_2, kk24, kl24, hh.1, gfv_s, gfv_n, gop1_s, nI_add, pk_mul, nIcl, vinT, nIle, nIlt, nIeq, true_and, and_true, List.cons_append, List.nil_append, List.length_nil, List.length_cons, Nat.zero_le, Nat.reduceLeDiff, Nat.reduceAdd, Nat.reduceMul]
  refine c_fetchFrom hh rfl (by show _ ≤ 1128; omega) (by omega) (fun M2 x1 x2 => ?_)
  simp (disch := omega) only [u2_0, u2_1, u2_4, u2_7, u2_8, u2_8i, u2_9, u2_12, u2_13, u2_14, u2_17, u2_18, u2_19, u2_22, u2_23, u2_24, u2_27, u2_30, u2_33, gfv_s, gfv_n, gop1_s, nI_add, pk_mul, nIcl, vinT, nIle, nIlt, nIeq, true_and, and_true, List.cons_append, List.nil_append, List.length_nil, List.length_cons, Nat.zero_le, Nat.reduceLeDiff, Nat.reduceAdd, Nat.reduceMul]
  refine hQ M2 ?_ ?_ (fun k hk => ?_) (fun b q1 q2 => ?_)
  · rw [x2 23 (by omega), gr_at, upd_ne (by omega), h1]
  · rw [x2 23 (by omega), gr_at, upd_at]
  · rw [x1 k hk, gr_ne (by omega)]
  · rw [x2 b q2, gr_ne q1]
end G42
