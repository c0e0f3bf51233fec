/-! calls on both sides: fault, status, drop, feed, kind, tree, house -/
section G52
variable {d : Nat} {rs : gS} {M : gM} {x y z : Int32}
theorem o_fault (hI : gI M) : gcl (d + 20) 81 [.ref 0] (gSH ++ rs) M (gEo d 145 [] rs) := by
  have e := hI.1.2.2.2.2.2.2
  rw [e81]
  simp only [u81_0, u81_1, u81_4, kc0, ks0_0, ks0_1, ks0_2, ks0_3, ks0_4, ks0_5, ks0_6, ks0_7, ks0_8, ks0_9, ks0_10, gfv_s, gfv_n, gop1_s, nI_add, pk_mul, nIcl, vinT, nIle, nIlt, nIeq, true_and, and_true, List.cons_append, List.nil_append, List.length_nil, List.length_cons, Nat.zero_le, Nat.reduceLeDiff, Nat.reduceAdd, Nat.reduceMul]
  refine gEo_i ?_
  rw [e145]
  simp only [u145_0, u145_1, u145_4, kc29, ks29_0, ks29_1, ks29_2, ks29_3, ks29_4, ks29_5, ks29_6, ks29_7, ks29_8, ks29_9, ks29_10, ks29_11, ks29_12, ks29_13, ks29_14, ks29_15, ks29_16, ks29_17, ks29_18, ks29_19, ks29_20, ks29_21, ks29_22, ks29_23, ks29_24, gfv_s, gfv_n, gop1_s, nI_add, pk_mul, nIcl, vinT, nIle, nIlt, nIeq, true_and, and_true, List.cons_append, List.nil_append, List.length_nil, List.length_cons, Nat.zero_le, Nat.reduceLeDiff, Nat.reduceAdd, Nat.reduceMul]
  rw [e]
  exact gFo_i hI
theorem o_status (hI : gI M) : gcl (d + 20) 106 [.ref 0] (gSH ++ rs) M (gEo d 200 [] rs) := by
  have e := hI.2
  rw [e106]
  simp only [u106_0, u106_1, u106_4, kc0, ks0_0, ks0_1, ks0_2, ks0_3, ks0_4, ks0_5, ks0_6, ks0_7, ks0_8, ks0_9, ks0_10, gfv_s, gfv_n, gop1_s, nI_add, pk_mul, nIcl, vinT, nIle, nIlt, nIeq, true_and, and_true, List.cons_append, List.nil_append, List.length_nil, List.length_cons, Nat.zero_le, Nat.reduceLeDiff, Nat.reduceAdd, Nat.reduceMul]
  refine gEo_i ?_
  rw [e200]
  simp only [u200_0, u200_1, u200_4, kc29, ks29_0, ks29_1, ks29_2, ks29_3, ks29_4, ks29_5, ks29_6, ks29_7, ks29_8, ks29_9, ks29_10, ks29_11, ks29_12, ks29_13, ks29_14, ks29_15, ks29_16, ks29_17, ks29_18, ks29_19, ks29_20, ks29_21, ks29_22, ks29_23, ks29_24, gfv_s, gfv_n, gop1_s, nI_add, pk_mul, nIcl, vinT, nIle, nIlt, nIeq, true_and, and_true, List.cons_append, List.nil_append, List.length_nil, List.length_cons, Nat.zero_le, Nat.reduceLeDiff, Nat.reduceAdd, Nat.reduceMul]
  rw [e]
  exact gFo_i hI
theorem o_kind (hI : gI M) : gcl (d + 20) 101 [.ref 0, .int x] (gSH ++ rs) M (gEo d 186 [.int x] rs) := by
  obtain ⟨f, ⟨hS, hO, h1, ⟨hv, h6, h9, hm⟩, h4, ht⟩⟩ := hI.1.2.2.1
  have hS' : ∀ k, k < 46 → M 33 k = nI (f k) := hS
  have e2 := hS' 2 (by omega)
  rw [e101]
  cases hx : gHo x (f 2) 1
  · simp (disch := first | omega | assumption) only [u101_0, u101_1, u101_2, u101_5, u101_8, u101_9, u101_12, u101_13, u101_16, u101_19, u101_21, kc0, ks0_0, ks0_1, ks0_2, ks0_3, ks0_4, ks0_5, ks0_6, ks0_7, ks0_8, ks0_9, ks0_10, c_isTree h1, hx, gb_z, true_implies, false_implies, not_true_eq_false, not_false_eq_true, Bool.true_eq_false, Bool.false_eq_true, eq_self, and_self, Nat.reduceEqDiff, Nat.reduceLT, gfv_s, gfv_n, gop1_s, nI_add, pk_mul, nIcl, vinT, nIle, nIlt, nIeq, true_and, and_true, List.cons_append, List.nil_append, List.length_nil, List.length_cons, Nat.zero_le, Nat.reduceLeDiff, Nat.reduceAdd, Nat.reduceMul]
    refine gEo_i ?_
    rw [e186]
    simp (disch := first | omega | assumption) only [u186_0, u186_1, u186_2, u186_5, u186_8, u186_9, u186_12, u186_14, u186_15, u186_16, u186_17, u186_20, u186_22, kc29, ks29_0, ks29_1, ks29_2, ks29_3, ks29_4, ks29_5, ks29_6, ks29_7, ks29_8, ks29_9, ks29_10, ks29_11, ks29_12, ks29_13, ks29_14, ks29_15, ks29_16, ks29_17, ks29_18, ks29_19, ks29_20, ks29_21, ks29_22, ks29_23, ks29_24, m_isTree e2, hx, gb_z, true_implies, false_implies, not_true_eq_false, not_false_eq_true, Bool.true_eq_false, Bool.false_eq_true, eq_self, and_self, Nat.reduceEqDiff, Nat.reduceLT, gfv_s, gfv_n, gop1_s, nI_add, pk_mul, nIcl, vinT, nIle, nIlt, nIeq, true_and, and_true, List.cons_append, List.nil_append, List.length_nil, List.length_cons, Nat.zero_le, Nat.reduceLeDiff, Nat.reduceAdd, Nat.reduceMul]
    exact gFo_i hI
  · obtain ⟨t, htt, rfl⟩ := gHo_t hx
    obtain ⟨-, q2, -⟩ | ⟨q1, hT⟩ := ht
    · omega
    have et := (hT.2.2 t (by omega)).1
    simp (disch := first | omega | assumption) only [u101_0, u101_1, u101_2, u101_5, u101_8, u101_9, u101_12, u101_13, u101_16, u101_19, u101_21, kc0, ks0_0, ks0_1, ks0_2, ks0_3, ks0_4, ks0_5, ks0_6, ks0_7, ks0_8, ks0_9, ks0_10, kc15, ks15_0, ks15_1, ks15_2, c_isTree h1, hx, gb_z, c_sort (gHl_now rs), et, true_implies, false_implies, not_true_eq_false, not_false_eq_true, Bool.true_eq_false, Bool.false_eq_true, eq_self, and_self, Nat.reduceEqDiff, Nat.reduceLT, gfv_s, gfv_n, gop1_s, nI_add, pk_mul, nIcl, vinT, nIle, nIlt, nIeq, true_and, and_true, List.cons_append, List.nil_append, List.length_nil, List.length_cons, Nat.zero_le, Nat.reduceLeDiff, Nat.reduceAdd, Nat.reduceMul]
    refine gEo_i ?_
    rw [e186]
    simp (disch := first | omega | assumption) only [u186_0, u186_1, u186_2, u186_5, u186_8, u186_9, u186_12, u186_14, u186_15, u186_16, u186_17, u186_20, u186_22, kc29, ks29_0, ks29_1, ks29_2, ks29_3, ks29_4, ks29_5, ks29_6, ks29_7, ks29_8, ks29_9, ks29_10, ks29_11, ks29_12, ks29_13, ks29_14, ks29_15, ks29_16, ks29_17, ks29_18, ks29_19, ks29_20, ks29_21, ks29_22, ks29_23, ks29_24, kk33, kl33, m_isTree e2, hx, gb_z, hS', true_implies, false_implies, not_true_eq_false, not_false_eq_true, Bool.true_eq_false, Bool.false_eq_true, eq_self, and_self, Nat.reduceEqDiff, Nat.reduceLT, gfv_s, gfv_n, gop1_s, nI_add, pk_mul, nIcl, vinT, nIle, nIlt, nIeq, true_and, and_true, List.cons_append, List.nil_append, List.length_nil, List.length_cons, Nat.zero_le, Nat.reduceLeDiff, Nat.reduceAdd, Nat.reduceMul]
    exact gFo_i hI
end G52
