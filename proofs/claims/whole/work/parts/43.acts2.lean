/-! the class: keeping a hill -/
section G43
variable {d : Nat} {rs : gS} {M : gM} {Q : gQ} {h : Nat}
/-- below the bound -/
theorem c_keep_lo {a n : Nat} (hh : gHl (gSH ++ rs) h) (h23 : h + 1 ≠ 23) (h24 : h + 1 ≠ 24) (h1 : M 23 1 = nI a) (h2 : M 23 2 = nI n) (ha : a < 24) (hn : n < 24) (hQ : ∀ M', M' 23 1 = nI a → M' 23 2 = nI (n + 1) → (∀ k, k < 47 → M' 24 ((a + n) % 24 * 47 + k) = M (h + 1) k) → (∀ k, k < (a + n) % 24 * 47 ∨ (a + n) % 24 * 47 + 47 ≤ k → M' 24 k = M 24 k) → (∀ b, b ≠ 23 → b ≠ 24 → M' b = M b) → Q [] (gSH ++ rs) M') : gcl (d + 2) 1 [.ref 23, .ref h] (gSH ++ rs) M Q := by
  have hm : (a + n) % 24 < 24 := Nat.mod_lt _ (by omega)
  rw [e1]
  simp (disch := omega) only [u1_0, u1_1, u1_4, u1_6, u1_9, u1_10, u1_11, u1_14, u1_15, u1_16, u1_18, u1_19, u1_22, u1_23, u1_25, u1_28, u1_29, u1_30, u1_33, u1_34, u1_35, u1_38, u1_41, u1_44, u1_45, u1_45i, u1_46, u1_49, u1_50, u1_51, u1_54, kc23, ks23_0, ks23_1, ks23_2, kk24, kl24, hh.1, h2, gfv_s, gfv_n, gop1_s, nI_add, pk_mul, nIcl, vinT, nIle, nIlt, nIeq, true_and, and_true, List.cons_append, List.nil_append, List.length_nil, List.length_cons, Nat.zero_le, Nat.reduceLeDiff, Nat.reduceAdd, Nat.reduceMul]
  refine ⟨fun _ => ?_, fun q => absurd hn q⟩
  rw [c_slotOf (a := a) h1 ha (by omega)]
  simp (disch := omega) only [u1_0, u1_1, u1_4, u1_6, u1_9, u1_10, u1_11, u1_14, u1_15, u1_16, u1_18, u1_19, u1_22, u1_23, u1_25, u1_28, u1_29, u1_30, u1_33, u1_34, u1_35, u1_38, u1_41, u1_44, u1_45, u1_45i, u1_46, u1_49, u1_50, u1_51, u1_54, kc23, ks23_0, ks23_1, ks23_2, kk24, kl24, hh.1, gfv_s, gfv_n, gop1_s, nI_add, pk_mul, nIcl, vinT, nIle, nIlt, nIeq, true_and, and_true, List.cons_append, List.nil_append, List.length_nil, List.length_cons, Nat.zero_le, Nat.reduceLeDiff, Nat.reduceAdd, Nat.reduceMul]
  refine c_storeIn hh rfl (by show _ ≤ 1128; omega) (by omega) (fun M2 x1 x2 x3 => ?_)
  have e2 : M2 23 2 = nI n := by rw [x3 23 (by omega), h2]
  simp (disch := omega) only [u1_0, u1_1, u1_4, u1_6, u1_9, u1_10, u1_11, u1_14, u1_15, u1_16, u1_18, u1_19, u1_22, u1_23, u1_25, u1_28, u1_29, u1_30, u1_33, u1_34, u1_35, u1_38, u1_41, u1_44, u1_45, u1_45i, u1_46, u1_49, u1_50, u1_51, u1_54, kc23, ks23_0, ks23_1, ks23_2, kk24, kl24, e2, gfv_s, gfv_n, gop1_s, nI_add, pk_mul, nIcl, vinT, nIle, nIlt, nIeq, true_and, and_true, List.cons_append, List.nil_append, List.length_nil, List.length_cons, Nat.zero_le, Nat.reduceLeDiff, Nat.reduceAdd, Nat.reduceMul]
  refine hQ _ ?_ ?_ (fun k hk => ?_) (fun k hk => ?_) (fun b q1 q2 => ?_)
  · rw [gr_at, upd_ne (by omega), x3 23 (by omega), h1]
  · rw [gr_at, upd_at]
  · rw [gr_ne (by omega), x1 k hk]
  · rw [gr_ne (by omega), x2 k hk]
  · rw [gr_ne q1, x3 b q2]
/-- at the bound the oldest goes -/
theorem c_keep_hi {a : Nat} (hh : gHl (gSH ++ rs) h) (h23 : h + 1 ≠ 23) (h24 : h + 1 ≠ 24) (h1 : M 23 1 = nI a) (h2 : M 23 2 = nI 24) (ha : a < 24) (hQ : ∀ M', M' 23 1 = nI ((a + 1) % 24) → M' 23 2 = nI 24 → (∀ k, k < 47 → M' 24 (((a + 1) % 24 + 23) % 24 * 47 + k) = M (h + 1) k) → (∀ k, k < ((a + 1) % 24 + 23) % 24 * 47 ∨ ((a + 1) % 24 + 23) % 24 * 47 + 47 ≤ k → M' 24 k = M 24 k) → (∀ b, b ≠ 23 → b ≠ 24 → M' b = M b) → Q [] (gSH ++ rs) M') : gcl (d + 2) 1 [.ref 23, .ref h] (gSH ++ rs) M Q := by
  have hm1 : (a + 1) % 24 < 24 := Nat.mod_lt _ (by omega)
  have hm : ((a + 1) % 24 + 23) % 24 < 24 := Nat.mod_lt _ (by omega)
  rw [e1]
  simp (disch := omega) only [u1_0, u1_1, u1_4, u1_6, u1_9, u1_10, u1_11, u1_14, u1_15, u1_16, u1_18, u1_19, u1_22, u1_23, u1_25, u1_28, u1_29, u1_30, u1_33, u1_34, u1_35, u1_38, u1_41, u1_44, u1_45, u1_45i, u1_46, u1_49, u1_50, u1_51, u1_54, kc23, ks23_0, ks23_1, ks23_2, kk24, kl24, hh.1, h2, h1, nIrem24, n24, not_false_eq_true, gr_at, gr_gr, upd_at, upd_ne, gfv_s, gfv_n, gop1_s, nI_add, pk_mul, nIcl, vinT, nIle, nIlt, nIeq, true_and, and_true, List.cons_append, List.nil_append, List.length_nil, List.length_cons, Nat.zero_le, Nat.reduceLeDiff, Nat.reduceAdd, Nat.reduceMul]
  refine ⟨fun q => absurd q (by simp), fun _ => ?_⟩
  rw [c_slotOf (a := (a + 1) % 24) (by rw [gr_at, upd_ne (by omega), upd_at]) hm1 (by omega)]
  simp (disch := omega) only [u1_0, u1_1, u1_4, u1_6, u1_9, u1_10, u1_11, u1_14, u1_15, u1_16, u1_18, u1_19, u1_22, u1_23, u1_25, u1_28, u1_29, u1_30, u1_33, u1_34, u1_35, u1_38, u1_41, u1_44, u1_45, u1_45i, u1_46, u1_49, u1_50, u1_51, u1_54, kc23, ks23_0, ks23_1, ks23_2, kk24, kl24, hh.1, gfv_s, gfv_n, gop1_s, nI_add, pk_mul, nIcl, vinT, nIle, nIlt, nIeq, true_and, and_true, List.cons_append, List.nil_append, List.length_nil, List.length_cons, Nat.zero_le, Nat.reduceLeDiff, Nat.reduceAdd, Nat.reduceMul]
  refine c_storeIn hh rfl (by show _ ≤ 1128; omega) (by omega) (fun M2 x1 x2 x3 => ?_)
  have e2 : M2 23 2 = nI 23 := by rw [x3 23 (by omega), gr_at, upd_at]
  simp (disch := omega) only [u1_0, u1_1, u1_4, u1_6, u1_9, u1_10, u1_11, u1_14, u1_15, u1_16, u1_18, u1_19, u1_22, u1_23, u1_25, u1_28, u1_29, u1_30, u1_33, u1_34, u1_35, u1_38, u1_41, u1_44, u1_45, u1_45i, u1_46, u1_49, u1_50, u1_51, u1_54, kc23, ks23_0, ks23_1, ks23_2, kk24, kl24, e2, gfv_s, gfv_n, gop1_s, nI_add, pk_mul, nIcl, vinT, nIle, nIlt, nIeq, true_and, and_true, List.cons_append, List.nil_append, List.length_nil, List.length_cons, Nat.zero_le, Nat.reduceLeDiff, Nat.reduceAdd, Nat.reduceMul]
  refine hQ _ ?_ ?_ (fun k hk => ?_) (fun k hk => ?_) (fun b q1 q2 => ?_)
  · rw [gr_at, upd_ne (by omega), x3 23 (by omega), gr_at, upd_ne (by omega), upd_at]
  · rw [gr_at, upd_at]
  · rw [gr_ne (by omega), x1 k hk, gr_ne (by omega)]
  · rw [gr_ne (by omega), x2 k hk, gr_ne (by omega)]
  · rw [gr_ne q1, x3 b q2, gr_ne q1]
end G43
