/-! calls on both sides: undo, image, restore -/
section G60
variable {d : Nat} {rs : gS} {M : gM} {Q : gQ} {x y z : Int32} {g : Nat → Nat}
theorem m_undo_ok {n : Nat} (hn : n < 24) (h19 : M 29 19 = nI (n + 1)) (hk : ∀ k, k < 46 → M 38 (46 * n + k) = nI (g k)) (hQ : ∀ M', mS M' g → M' 29 = upd (M 29) 19 (nI n) → (∀ b, b ≠ 29 → b ≠ 33 → M' b = M b) → Q [.int (nI n)] (gSH ++ rs) M') : gcl (d + 1) 164 [.ref 29] (gSH ++ rs) M Q := by
  have loop : ∀ m t M1, t + m = 46 → (∀ k, k < t → M1 33 k = nI (g k)) → M1 29 = upd (M 29) 19 (nI n) → (∀ b, b ≠ 29 → b ≠ 33 → M1 b = M b) → gR (gcl d) (0, fun _ => 0) 164 22 [some (.ref 29), some (.int (nI t))] [] (gSH ++ rs) M1 0 0 Q := by
    intro m
    induction m with
    | zero =>
      intro t M1 ht h1 h2 h3
      obtain rfl : t = 46 := by omega
      have e19 : M1 29 19 = nI n := by rw [h2, upd_at]
      rw [u164_22]
      simp (disch := first | omega | assumption) only [u164_0, u164_1, u164_4, u164_7, u164_9, u164_10, u164_11, u164_11i, u164_12, u164_15, u164_16, u164_17, u164_20, u164_21, u164_23, u164_25, u164_28, u164_29, u164_32, u164_33, u164_34, u164_37, u164_39, u164_40, u164_43, u164_44, u164_45, u164_46, u164_47, u164_48, u164_51, u164_54, u164_55, u164_58, kc29, ks29_0, ks29_1, ks29_2, ks29_3, ks29_4, ks29_5, ks29_6, ks29_7, ks29_8, ks29_9, ks29_10, ks29_11, ks29_12, ks29_13, ks29_14, ks29_15, ks29_16, ks29_17, ks29_18, ks29_19, ks29_20, ks29_21, ks29_22, ks29_23, ks29_24, e19, Nat.le_refl, kc0, kc1, kc13, kc15, kc19, kc23, kc27, kc29, gb_z, z0, z1, n11, true_or, false_or, nb0, nb1, gb_01, nlt0, nge0, neq0, ngt0, nle0, m1lt, m1ge, true_implies, false_implies, not_true_eq_false, not_false_eq_true, Bool.true_eq_false, Bool.false_eq_true, eq_self, and_self, Nat.reduceEqDiff, Nat.reduceLT, gfv_s, gfv_n, gop1_s, nI_add, pk_mul, nIcl, vinT, nIle, nIlt, nIeq, true_and, and_true, List.cons_append, List.nil_append, List.length_nil, List.length_cons, Nat.zero_le, Nat.reduceLeDiff, Nat.reduceAdd, Nat.reduceMul]
      exact hQ M1 h1 h2 h3
    | succ m ih =>
      intro t M1 ht h1 h2 h3
      have e19 : M1 29 19 = nI n := by rw [h2, upd_at]
      have e38 : M1 38 (46 * n + t) = nI (g t) := by rw [h3 38 (by omega) (by omega)]; exact hk t (by omega)
      have q : ¬ 46 ≤ t := by omega
      rw [u164_22]
      simp (disch := first | omega | assumption) only [u164_0, u164_1, u164_4, u164_7, u164_9, u164_10, u164_11, u164_11i, u164_12, u164_15, u164_16, u164_17, u164_20, u164_21, u164_23, u164_25, u164_28, u164_29, u164_32, u164_33, u164_34, u164_37, u164_39, u164_40, u164_43, u164_44, u164_45, u164_46, u164_47, u164_48, u164_51, u164_54, u164_55, u164_58, kc29, ks29_0, ks29_1, ks29_2, ks29_3, ks29_4, ks29_5, ks29_6, ks29_7, ks29_8, ks29_9, ks29_10, ks29_11, ks29_12, ks29_13, ks29_14, ks29_15, ks29_16, ks29_17, ks29_18, ks29_19, ks29_20, ks29_21, ks29_22, ks29_23, ks29_24, kk33, kl33, kk38, kl38, e19, e38, q, kc0, kc1, kc13, kc15, kc19, kc23, kc27, kc29, gb_z, z0, z1, n11, true_or, false_or, nb0, nb1, gb_01, nlt0, nge0, neq0, ngt0, nle0, m1lt, m1ge, true_implies, false_implies, not_true_eq_false, not_false_eq_true, Bool.true_eq_false, Bool.false_eq_true, eq_self, and_self, Nat.reduceEqDiff, Nat.reduceLT, gfv_s, gfv_n, gop1_s, nI_add, pk_mul, nIcl, vinT, nIle, nIlt, nIeq, true_and, and_true, List.cons_append, List.nil_append, List.length_nil, List.length_cons, Nat.zero_le, Nat.reduceLeDiff, Nat.reduceAdd, Nat.reduceMul]
      refine ih (t + 1) _ (by omega) (fun k hk => ?_) (by rw [gr_ne (by omega), h2]) (fun b q1 q2 => by rw [gr_ne q2, h3 b q1 q2])
      rw [gr_at]
      by_cases z : k = t
      · rw [z, upd_at]
      · rw [upd_ne z, h1 k (by omega)]
  rw [e164]
  have q : ¬ n + 1 = 0 := by omega
  simp (disch := first | omega | assumption) only [u164_0, u164_1, u164_4, u164_7, u164_9, u164_10, u164_11, u164_11i, u164_12, u164_15, u164_16, u164_17, u164_20, u164_21, u164_23, u164_25, u164_28, u164_29, u164_32, u164_33, u164_34, u164_37, u164_39, u164_40, u164_43, u164_44, u164_45, u164_46, u164_47, u164_48, u164_51, u164_54, u164_55, u164_58, kc29, ks29_0, ks29_1, ks29_2, ks29_3, ks29_4, ks29_5, ks29_6, ks29_7, ks29_8, ks29_9, ks29_10, ks29_11, ks29_12, ks29_13, ks29_14, ks29_15, ks29_16, ks29_17, ks29_18, ks29_19, ks29_20, ks29_21, ks29_22, ks29_23, ks29_24, h19, q, nIsub, Nat.add_sub_cancel, kc0, kc1, kc13, kc15, kc19, kc23, kc27, kc29, gb_z, z0, z1, n11, true_or, false_or, nb0, nb1, gb_01, nlt0, nge0, neq0, ngt0, nle0, m1lt, m1ge, true_implies, false_implies, not_true_eq_false, not_false_eq_true, Bool.true_eq_false, Bool.false_eq_true, eq_self, and_self, Nat.reduceEqDiff, Nat.reduceLT, gfv_s, gfv_n, gop1_s, nI_add, pk_mul, nIcl, vinT, nIle, nIlt, nIeq, true_and, and_true, List.cons_append, List.nil_append, List.length_nil, List.length_cons, Nat.zero_le, Nat.reduceLeDiff, Nat.reduceAdd, Nat.reduceMul]
  exact loop 46 0 _ rfl (fun k hk => absurd hk (by omega)) (by rw [gr_at]) (fun b q1 q2 => by rw [gr_ne q1])
theorem o_undo (hI : gI M) : gcl (d + 20) 86 [.ref 0] (gSH ++ rs) M (gEo d 164 [] rs) := by
  obtain ⟨f, ⟨hS, hO, h1, hok, h4, ht⟩⟩ := hI.1.2.2.1
  obtain ⟨a, n, G, hn, ⟨ha, k1, k2, k3⟩, ⟨m1, m2⟩, hG, hg0⟩ := hI.1.2.2.2.1
  rw [e86]
  by_cases q : n = 0
  · subst q
    simp (disch := first | omega | assumption) only [u86_0, u86_1, u86_4, u86_7, u86_10, u86_12, u86_13, u86_14, u86_17, u86_18, u86_21, u86_24, u86_25, u86_28, u86_31, kc0, ks0_0, ks0_1, ks0_2, ks0_3, ks0_4, ks0_5, ks0_6, ks0_7, ks0_8, ks0_9, ks0_10, kc23, ks23_0, ks23_1, ks23_2, k2, kc0, kc1, kc13, kc15, kc19, kc23, kc27, kc29, gb_z, z0, z1, n11, true_or, false_or, nb0, nb1, gb_01, nlt0, nge0, neq0, ngt0, nle0, m1lt, m1ge, true_implies, false_implies, not_true_eq_false, not_false_eq_true, Bool.true_eq_false, Bool.false_eq_true, eq_self, and_self, Nat.reduceEqDiff, Nat.reduceLT, gfv_s, gfv_n, gop1_s, nI_add, pk_mul, nIcl, vinT, nIle, nIlt, nIeq, true_and, and_true, List.cons_append, List.nil_append, List.length_nil, List.length_cons, Nat.zero_le, Nat.reduceLeDiff, Nat.reduceAdd, Nat.reduceMul]
    refine gEo_i ?_
    rw [e164]
    simp (disch := first | omega | assumption) only [u164_0, u164_1, u164_4, u164_7, u164_9, u164_10, u164_11, u164_11i, u164_12, u164_15, u164_16, u164_17, u164_20, u164_21, u164_23, u164_25, u164_28, u164_29, u164_32, u164_33, u164_34, u164_37, u164_39, u164_40, u164_43, u164_44, u164_45, u164_46, u164_47, u164_48, u164_51, u164_54, u164_55, u164_58, kc29, ks29_0, ks29_1, ks29_2, ks29_3, ks29_4, ks29_5, ks29_6, ks29_7, ks29_8, ks29_9, ks29_10, ks29_11, ks29_12, ks29_13, ks29_14, ks29_15, ks29_16, ks29_17, ks29_18, ks29_19, ks29_20, ks29_21, ks29_22, ks29_23, ks29_24, m1, kc0, kc1, kc13, kc15, kc19, kc23, kc27, kc29, gb_z, z0, z1, n11, true_or, false_or, nb0, nb1, gb_01, nlt0, nge0, neq0, ngt0, nle0, m1lt, m1ge, true_implies, false_implies, not_true_eq_false, not_false_eq_true, Bool.true_eq_false, Bool.false_eq_true, eq_self, and_self, Nat.reduceEqDiff, Nat.reduceLT, gfv_s, gfv_n, gop1_s, nI_add, pk_mul, nIcl, vinT, nIle, nIlt, nIeq, true_and, and_true, List.cons_append, List.nil_append, List.length_nil, List.length_cons, Nat.zero_le, Nat.reduceLeDiff, Nat.reduceAdd, Nat.reduceMul]
    exact gFo_i hI
  · obtain ⟨n, rfl⟩ : ∃ m, n = m + 1 := ⟨n - 1, by omega⟩
    have h0 := hg0 (by omega)
    simp (disch := first | omega | assumption) only [u86_0, u86_1, u86_4, u86_7, u86_10, u86_12, u86_13, u86_14, u86_17, u86_18, u86_21, u86_24, u86_25, u86_28, u86_31, kc0, ks0_0, ks0_1, ks0_2, ks0_3, ks0_4, ks0_5, ks0_6, ks0_7, ks0_8, ks0_9, ks0_10, kc23, ks23_0, ks23_1, ks23_2, k2, q, kc0, kc1, kc13, kc15, kc19, kc23, kc27, kc29, gb_z, z0, z1, n11, true_or, false_or, nb0, nb1, gb_01, nlt0, nge0, neq0, ngt0, nle0, m1lt, m1ge, true_implies, false_implies, not_true_eq_false, not_false_eq_true, Bool.true_eq_false, Bool.false_eq_true, eq_self, and_self, Nat.reduceEqDiff, Nat.reduceLT, gfv_s, gfv_n, gop1_s, nI_add, pk_mul, nIcl, vinT, nIle, nIlt, nIeq, true_and, and_true, List.cons_append, List.nil_append, List.length_nil, List.length_cons, Nat.zero_le, Nat.reduceLeDiff, Nat.reduceAdd, Nat.reduceMul]
    refine c_takeBack (gHl_now rs) (by omega) k1 k2 ha (by omega) (fun M1 x1 x2 x3 x4 => ?_)
    simp (disch := first | omega | assumption) only [u86_0, u86_1, u86_4, u86_7, u86_10, u86_12, u86_13, u86_14, u86_17, u86_18, u86_21, u86_24, u86_25, u86_28, u86_31, kc0, ks0_0, ks0_1, ks0_2, ks0_3, ks0_4, ks0_5, ks0_6, ks0_7, ks0_8, ks0_9, ks0_10, kc23, ks23_0, ks23_1, ks23_2, x2, kc0, kc1, kc13, kc15, kc19, kc23, kc27, kc29, gb_z, z0, z1, n11, true_or, false_or, nb0, nb1, gb_01, nlt0, nge0, neq0, ngt0, nle0, m1lt, m1ge, true_implies, false_implies, not_true_eq_false, not_false_eq_true, Bool.true_eq_false, Bool.false_eq_true, eq_self, and_self, Nat.reduceEqDiff, Nat.reduceLT, gfv_s, gfv_n, gop1_s, nI_add, pk_mul, nIcl, vinT, nIle, nIlt, nIeq, true_and, and_true, List.cons_append, List.nil_append, List.length_nil, List.length_cons, Nat.zero_le, Nat.reduceLeDiff, Nat.reduceAdd, Nat.reduceMul]
    refine gEo_i ?_
    refine m_undo_ok (n := n) (g := G n) (by omega) (by rw [x4 29 (by omega) (by omega)]; exact m1) (fun k hk => by rw [x4 38 (by omega) (by omega)]; exact m2 n (by omega) k hk) (fun M2 y1 y2 y3 => ?_)
    have hg := hG n (by omega)
    have f0 : M2 0 = M 0 := by rw [y3 0 (by omega) (by omega), x4 0 (by omega) (by omega)]
    have f29 : ∀ k, k ≠ 19 → M2 29 k = M 29 k := fun k hk => by rw [y2, upd_ne hk, x4 29 (by omega) (by omega)]
    have f1 : ∀ b, b ≠ 16 → b ≠ 23 → b ≠ 29 → b ≠ 33 → M2 b = M b := fun b w1 w2 w3 w4 => by rw [y3 b w3 w4, x4 b w2 w1]
    have e16 : M2 16 = M1 16 := y3 16 (by omega) (by omega)
    have hH : cH (M2 16) (G n) := cH_c hg.1.1.1.2.2.1 hg.1.1.1.2.2.2 (k3 n (by omega)) (fun k hk => by rw [e16]; exact x3 k hk)
    refine gFo_i (gI_hill (f' := G n) (a' := a) (n' := n) (G' := G) hI (gHi_mk y1 hH hg (by rw [f0, h0]) (by rw [f29 4 (by omega), h4, h0])) ⟨by omega, ⟨ha, by rw [y3 23 (by omega) (by omega), x1], by rw [y3 23 (by omega) (by omega), x2], fun i hi => ?_⟩, ⟨by rw [y2, upd_at], fun i hi k hk => by rw [f1 38 (by omega) (by omega) (by omega) (by omega)]; exact m2 i (by omega) k hk⟩, fun i hi => hG i (by omega), fun _ => by rw [f0, h0]⟩ (fun b hb => f1 b (by omega) (by omega) (by omega) (by omega)) (fun k _ => by rw [f0]) (Or.inl (by rw [f0])) (fun k hk => f29 k (by omega)))
    rw [f1 24 (by omega) (by omega) (by omega) (by omega)]
    exact k3 i (by omega)
theorem m_image_ok {k : Nat} (hk2 : k < 2) (hS : mS M g) (h4 : M 29 4 = nI 1) (hQ : ∀ M', (∀ i, i < 46 → M' 41 (46 * k + i) = nI (g i)) → (∀ i, i < 46 * k ∨ 46 * k + 46 ≤ i → M' 41 i = M 41 i) → M' 40 = upd (M 40) k (nI 1) → (∀ b, b ≠ 40 → b ≠ 41 → M' b = M b) → Q [.int (nI 1)] (gSH ++ rs) M') : gcl (d + 2) 184 [.ref 29, .int (nI k)] (gSH ++ rs) M Q := by
  have hx : gIn (nI k) 0 1 = true := by rw [gIn_n (by omega)]; exact decide_eq_true (by omega)
  have loop : ∀ m t M1, t + m = 46 → (∀ i, i < t → M1 41 (46 * k + i) = nI (g i)) → (∀ i, i < 46 * k ∨ 46 * k + 46 ≤ i → M1 41 i = M 41 i) → (∀ b, b ≠ 41 → M1 b = M b) → gR (gcl (d + 1)) (0, fun _ => 0) 184 25 [some (.ref 29), some (.int (nI k)), some (.int (nI t))] [] (gSH ++ rs) M1 0 0 Q := by
    intro m
    induction m with
    | zero =>
      intro t M1 ht h1 h2 h3
      obtain rfl : t = 46 := by omega
      rw [u184_25]
      simp (disch := first | omega | assumption) only [u184_0, u184_1, u184_2, u184_3, u184_4, u184_7, u184_10, u184_12, u184_13, u184_14, u184_17, u184_20, u184_22, u184_23, u184_24, u184_26, u184_28, u184_31, u184_32, u184_35, u184_37, u184_38, u184_39, u184_40, u184_41, u184_42, u184_45, u184_46, u184_47, u184_48, u184_51, u184_54, u184_55, u184_58, u184_59, u184_60, u184_61, u184_62, kc29, ks29_0, ks29_1, ks29_2, ks29_3, ks29_4, ks29_5, ks29_6, ks29_7, ks29_8, ks29_9, ks29_10, ks29_11, ks29_12, ks29_13, ks29_14, ks29_15, ks29_16, ks29_17, ks29_18, ks29_19, ks29_20, ks29_21, ks29_22, ks29_23, ks29_24, kk40, kl40, Nat.le_refl, kc0, kc1, kc13, kc15, kc19, kc23, kc27, kc29, gb_z, z0, z1, n11, true_or, false_or, nb0, nb1, gb_01, nlt0, nge0, neq0, ngt0, nle0, m1lt, m1ge, true_implies, false_implies, not_true_eq_false, not_false_eq_true, Bool.true_eq_false, Bool.false_eq_true, eq_self, and_self, Nat.reduceEqDiff, Nat.reduceLT, gfv_s, gfv_n, gop1_s, nI_add, pk_mul, nIcl, vinT, nIle, nIlt, nIeq, true_and, and_true, List.cons_append, List.nil_append, List.length_nil, List.length_cons, Nat.zero_le, Nat.reduceLeDiff, Nat.reduceAdd, Nat.reduceMul]
      refine hQ _ (fun i hi => by rw [gr_ne (by omega), h1 i hi]) (fun i hi => by rw [gr_ne (by omega), h2 i hi]) (by rw [gr_at, h3 40 (by omega)]) (fun b q1 q2 => by rw [gr_ne q1, h3 b q2])
    | succ m ih =>
      intro t M1 ht h1 h2 h3
      have e33 : M1 33 t = nI (g t) := by rw [h3 33 (by omega)]; exact hS t (by omega)
      have q : ¬ 46 ≤ t := by omega
      rw [u184_25]
      simp (disch := first | omega | assumption) only [u184_0, u184_1, u184_2, u184_3, u184_4, u184_7, u184_10, u184_12, u184_13, u184_14, u184_17, u184_20, u184_22, u184_23, u184_24, u184_26, u184_28, u184_31, u184_32, u184_35, u184_37, u184_38, u184_39, u184_40, u184_41, u184_42, u184_45, u184_46, u184_47, u184_48, u184_51, u184_54, u184_55, u184_58, u184_59, u184_60, u184_61, u184_62, kc29, ks29_0, ks29_1, ks29_2, ks29_3, ks29_4, ks29_5, ks29_6, ks29_7, ks29_8, ks29_9, ks29_10, ks29_11, ks29_12, ks29_13, ks29_14, ks29_15, ks29_16, ks29_17, ks29_18, ks29_19, ks29_20, ks29_21, ks29_22, ks29_23, ks29_24, kk33, kl33, kk41, kl41, e33, q, kc0, kc1, kc13, kc15, kc19, kc23, kc27, kc29, gb_z, z0, z1, n11, true_or, false_or, nb0, nb1, gb_01, nlt0, nge0, neq0, ngt0, nle0, m1lt, m1ge, true_implies, false_implies, not_true_eq_false, not_false_eq_true, Bool.true_eq_false, Bool.false_eq_true, eq_self, and_self, Nat.reduceEqDiff, Nat.reduceLT, gfv_s, gfv_n, gop1_s, nI_add, pk_mul, nIcl, vinT, nIle, nIlt, nIeq, true_and, and_true, List.cons_append, List.nil_append, List.length_nil, List.length_cons, Nat.zero_le, Nat.reduceLeDiff, Nat.reduceAdd, Nat.reduceMul]
      refine ih (t + 1) _ (by omega) (fun i hi => ?_) (fun i hi => ?_) (fun b q1 => by rw [gr_ne q1, h3 b q1])
      · rw [gr_at]
        by_cases z : i = t
        · rw [z, upd_at]
        · rw [upd_ne (by omega), h1 i (by omega)]
      · rw [gr_at, upd_ne (by omega), h2 i hi]
  rw [e184]
  simp (disch := first | omega | assumption) only [u184_0, u184_1, u184_2, u184_3, u184_4, u184_7, u184_10, u184_12, u184_13, u184_14, u184_17, u184_20, u184_22, u184_23, u184_24, u184_26, u184_28, u184_31, u184_32, u184_35, u184_37, u184_38, u184_39, u184_40, u184_41, u184_42, u184_45, u184_46, u184_47, u184_48, u184_51, u184_54, u184_55, u184_58, u184_59, u184_60, u184_61, u184_62, kc29, ks29_0, ks29_1, ks29_2, ks29_3, ks29_4, ks29_5, ks29_6, ks29_7, ks29_8, ks29_9, ks29_10, ks29_11, ks29_12, ks29_13, ks29_14, ks29_15, ks29_16, ks29_17, ks29_18, ks29_19, ks29_20, ks29_21, ks29_22, ks29_23, ks29_24, m_inN, hx, h4, kc0, kc1, kc13, kc15, kc19, kc23, kc27, kc29, gb_z, z0, z1, n11, true_or, false_or, nb0, nb1, gb_01, nlt0, nge0, neq0, ngt0, nle0, m1lt, m1ge, true_implies, false_implies, not_true_eq_false, not_false_eq_true, Bool.true_eq_false, Bool.false_eq_true, eq_self, and_self, Nat.reduceEqDiff, Nat.reduceLT, gfv_s, gfv_n, gop1_s, nI_add, pk_mul, nIcl, vinT, nIle, nIlt, nIeq, true_and, and_true, List.cons_append, List.nil_append, List.length_nil, List.length_cons, Nat.zero_le, Nat.reduceLeDiff, Nat.reduceAdd, Nat.reduceMul]
  exact loop 46 0 M rfl (fun k hk => absurd hk (by omega)) (fun _ _ => rfl) (fun _ _ => rfl)
theorem o_image (hI : gI M) : gcl (d + 20) 99 [.ref 0, .int x] (gSH ++ rs) M (gEo d 184 [.int x] rs) := by
  obtain ⟨f, ⟨hS, hO, h1, hok, h4, ht⟩⟩ := hI.1.2.2.1
  rw [e99]
  cases hx : gIn x 0 1
  · simp (disch := first | omega | assumption) only [u99_0, u99_1, u99_2, u99_5, u99_8, u99_10, u99_11, u99_12, u99_15, u99_18, u99_20, u99_21, u99_22, u99_25, u99_26, u99_29, u99_30, u99_32, u99_33, u99_36, u99_37, u99_40, u99_41, u99_42, u99_43, u99_44, kc0, ks0_0, ks0_1, ks0_2, ks0_3, ks0_4, ks0_5, ks0_6, ks0_7, ks0_8, ks0_9, ks0_10, c_upTo, hx, kc0, kc1, kc13, kc15, kc19, kc23, kc27, kc29, gb_z, z0, z1, n11, true_or, false_or, nb0, nb1, gb_01, nlt0, nge0, neq0, ngt0, nle0, m1lt, m1ge, true_implies, false_implies, not_true_eq_false, not_false_eq_true, Bool.true_eq_false, Bool.false_eq_true, eq_self, and_self, Nat.reduceEqDiff, Nat.reduceLT, gfv_s, gfv_n, gop1_s, nI_add, pk_mul, nIcl, vinT, nIle, nIlt, nIeq, true_and, and_true, List.cons_append, List.nil_append, List.length_nil, List.length_cons, Nat.zero_le, Nat.reduceLeDiff, Nat.reduceAdd, Nat.reduceMul]
    refine gEo_i ?_
    rw [e184]
    simp (disch := first | omega | assumption) only [u184_0, u184_1, u184_2, u184_3, u184_4, u184_7, u184_10, u184_12, u184_13, u184_14, u184_17, u184_20, u184_22, u184_23, u184_24, u184_26, u184_28, u184_31, u184_32, u184_35, u184_37, u184_38, u184_39, u184_40, u184_41, u184_42, u184_45, u184_46, u184_47, u184_48, u184_51, u184_54, u184_55, u184_58, u184_59, u184_60, u184_61, u184_62, kc29, ks29_0, ks29_1, ks29_2, ks29_3, ks29_4, ks29_5, ks29_6, ks29_7, ks29_8, ks29_9, ks29_10, ks29_11, ks29_12, ks29_13, ks29_14, ks29_15, ks29_16, ks29_17, ks29_18, ks29_19, ks29_20, ks29_21, ks29_22, ks29_23, ks29_24, m_inN, hx, kc0, kc1, kc13, kc15, kc19, kc23, kc27, kc29, gb_z, z0, z1, n11, true_or, false_or, nb0, nb1, gb_01, nlt0, nge0, neq0, ngt0, nle0, m1lt, m1ge, true_implies, false_implies, not_true_eq_false, not_false_eq_true, Bool.true_eq_false, Bool.false_eq_true, eq_self, and_self, Nat.reduceEqDiff, Nat.reduceLT, gfv_s, gfv_n, gop1_s, nI_add, pk_mul, nIcl, vinT, nIle, nIlt, nIeq, true_and, and_true, List.cons_append, List.nil_append, List.length_nil, List.length_cons, Nat.zero_le, Nat.reduceLeDiff, Nat.reduceAdd, Nat.reduceMul]
    exact gFo_i hI
  obtain ⟨q1, -⟩ | ⟨q1, hT⟩ := ht
  · rw [q1] at h4
    simp (disch := first | omega | assumption) only [u99_0, u99_1, u99_2, u99_5, u99_8, u99_10, u99_11, u99_12, u99_15, u99_18, u99_20, u99_21, u99_22, u99_25, u99_26, u99_29, u99_30, u99_32, u99_33, u99_36, u99_37, u99_40, u99_41, u99_42, u99_43, u99_44, kc0, ks0_0, ks0_1, ks0_2, ks0_3, ks0_4, ks0_5, ks0_6, ks0_7, ks0_8, ks0_9, ks0_10, c_upTo, hx, q1, kc0, kc1, kc13, kc15, kc19, kc23, kc27, kc29, gb_z, z0, z1, n11, true_or, false_or, nb0, nb1, gb_01, nlt0, nge0, neq0, ngt0, nle0, m1lt, m1ge, true_implies, false_implies, not_true_eq_false, not_false_eq_true, Bool.true_eq_false, Bool.false_eq_true, eq_self, and_self, Nat.reduceEqDiff, Nat.reduceLT, gfv_s, gfv_n, gop1_s, nI_add, pk_mul, nIcl, vinT, nIle, nIlt, nIeq, true_and, and_true, List.cons_append, List.nil_append, List.length_nil, List.length_cons, Nat.zero_le, Nat.reduceLeDiff, Nat.reduceAdd, Nat.reduceMul]
    refine gEo_i ?_
    rw [e184]
    simp (disch := first | omega | assumption) only [u184_0, u184_1, u184_2, u184_3, u184_4, u184_7, u184_10, u184_12, u184_13, u184_14, u184_17, u184_20, u184_22, u184_23, u184_24, u184_26, u184_28, u184_31, u184_32, u184_35, u184_37, u184_38, u184_39, u184_40, u184_41, u184_42, u184_45, u184_46, u184_47, u184_48, u184_51, u184_54, u184_55, u184_58, u184_59, u184_60, u184_61, u184_62, kc29, ks29_0, ks29_1, ks29_2, ks29_3, ks29_4, ks29_5, ks29_6, ks29_7, ks29_8, ks29_9, ks29_10, ks29_11, ks29_12, ks29_13, ks29_14, ks29_15, ks29_16, ks29_17, ks29_18, ks29_19, ks29_20, ks29_21, ks29_22, ks29_23, ks29_24, m_inN, hx, h4, kc0, kc1, kc13, kc15, kc19, kc23, kc27, kc29, gb_z, z0, z1, n11, true_or, false_or, nb0, nb1, gb_01, nlt0, nge0, neq0, ngt0, nle0, m1lt, m1ge, true_implies, false_implies, not_true_eq_false, not_false_eq_true, Bool.true_eq_false, Bool.false_eq_true, eq_self, and_self, Nat.reduceEqDiff, Nat.reduceLT, gfv_s, gfv_n, gop1_s, nI_add, pk_mul, nIcl, vinT, nIle, nIlt, nIeq, true_and, and_true, List.cons_append, List.nil_append, List.length_nil, List.length_cons, Nat.zero_le, Nat.reduceLeDiff, Nat.reduceAdd, Nat.reduceMul]
    exact gFo_i hI
  rw [q1] at h4
  obtain ⟨k, -, hk, rfl⟩ := gIn_t hx
  simp (disch := first | omega | assumption) only [u99_0, u99_1, u99_2, u99_5, u99_8, u99_10, u99_11, u99_12, u99_15, u99_18, u99_20, u99_21, u99_22, u99_25, u99_26, u99_29, u99_30, u99_32, u99_33, u99_36, u99_37, u99_40, u99_41, u99_42, u99_43, u99_44, kc0, ks0_0, ks0_1, ks0_2, ks0_3, ks0_4, ks0_5, ks0_6, ks0_7, ks0_8, ks0_9, ks0_10, kc15, ks15_0, ks15_1, ks15_2, kk25, kl25, kk26, kl26, c_upTo, hx, q1, kc0, kc1, kc13, kc15, kc19, kc23, kc27, kc29, gb_z, z0, z1, n11, true_or, false_or, nb0, nb1, gb_01, nlt0, nge0, neq0, ngt0, nle0, m1lt, m1ge, true_implies, false_implies, not_true_eq_false, not_false_eq_true, Bool.true_eq_false, Bool.false_eq_true, eq_self, and_self, Nat.reduceEqDiff, Nat.reduceLT, gfv_s, gfv_n, gop1_s, nI_add, pk_mul, nIcl, vinT, nIle, nIlt, nIeq, true_and, and_true, List.cons_append, List.nil_append, List.length_nil, List.length_cons, Nat.zero_le, Nat.reduceLeDiff, Nat.reduceAdd, Nat.reduceMul]
  refine c_storeIn (gHl_now rs) rfl (by show _ ≤ 94; omega) (by omega) (fun M1 x1 x2 x3 => ?_)
  simp (disch := first | omega | assumption) only [u99_0, u99_1, u99_2, u99_5, u99_8, u99_10, u99_11, u99_12, u99_15, u99_18, u99_20, u99_21, u99_22, u99_25, u99_26, u99_29, u99_30, u99_32, u99_33, u99_36, u99_37, u99_40, u99_41, u99_42, u99_43, u99_44, kc0, ks0_0, ks0_1, ks0_2, ks0_3, ks0_4, ks0_5, ks0_6, ks0_7, ks0_8, ks0_9, ks0_10, kc15, ks15_0, ks15_1, ks15_2, kk25, kl25, kk26, kl26, kc0, kc1, kc13, kc15, kc19, kc23, kc27, kc29, gb_z, z0, z1, n11, true_or, false_or, nb0, nb1, gb_01, nlt0, nge0, neq0, ngt0, nle0, m1lt, m1ge, true_implies, false_implies, not_true_eq_false, not_false_eq_true, Bool.true_eq_false, Bool.false_eq_true, eq_self, and_self, Nat.reduceEqDiff, Nat.reduceLT, gfv_s, gfv_n, gop1_s, nI_add, pk_mul, nIcl, vinT, nIle, nIlt, nIeq, true_and, and_true, List.cons_append, List.nil_append, List.length_nil, List.length_cons, Nat.zero_le, Nat.reduceLeDiff, Nat.reduceAdd, Nat.reduceMul]
  refine gEo_i ?_
  refine m_image_ok (g := f) (by omega) (mS_c hS (by rw [gr_ne (by omega), x3 33 (by omega)])) (by rw [gr_ne (by omega), x3 29 (by omega)]; exact h4) (fun M2 y1 y2 y3 y4 => ?_)
  have f1 : ∀ b, b ≠ 25 → b ≠ 26 → b ≠ 40 → b ≠ 41 → M2 b = M b := fun b w1 w2 w3 w4 => by rw [y4 b w3 w4, gr_ne w2, x3 b w1]
  obtain ⟨b1, ⟨n2, b, b2⟩, b3, ⟨a, m, G, b4⟩, b5, ⟨u, b6⟩, b7⟩ := hI.1
  have f0 := f1 0 (by omega) (by omega) (by omega) (by omega)
  have f29 := f1 29 (by omega) (by omega) (by omega) (by omega)
  have f26 : M2 26 = upd (M 26) k (nI 1) := by rw [y4 26 (by omega) (by omega), gr_at, x3 26 (by omega)]
  have f40 : M2 40 = upd (M 40) k (nI 1) := by rw [y3, gr_ne (by omega), x3 40 (by omega)]
  have f25 : M2 25 = M1 25 := by rw [y4 25 (by omega) (by omega), gr_ne (by omega)]
  have f41 : gr M1 26 (upd (M1 26) k (nI 1)) 41 = M 41 := by rw [gr_ne (by omega), x3 41 (by omega)]
  refine gFo_i ⟨⟨fun r hr => gRw_c (b1 r hr) hr (fun c hc => f1 c (by omega) (by omega) (by omega) (by omega)), ⟨n2, b, gTp_c b2 (by rw [f1 13 (by omega) (by omega) (by omega) (by omega)]) (f1 14 (by omega) (by omega) (by omega) (by omega)) (f1 35 (by omega) (by omega) (by omega) (by omega)) (by rw [f29])⟩, ⟨f, gHi_c (hI.1.2.2.1.elim (fun _ _ => ⟨hS, hO, h1, hok, by rw [h4, q1], Or.inr ⟨q1, hT⟩⟩)) (f1 16 (by omega) (by omega) (by omega) (by omega)) (f1 33 (by omega) (by omega) (by omega) (by omega)) (by rw [f0]) (by rw [f29])⟩, ⟨a, m, G, gAc_c b4 (f1 23 (by omega) (by omega) (by omega) (by omega)) (f1 24 (by omega) (by omega) (by omega) (by omega)) (f1 38 (by omega) (by omega) (by omega) (by omega)) (by rw [f0]) (by rw [f29])⟩, fun i hi => ?_, ⟨u, gAk_c b6 (by rw [f1 27 (by omega) (by omega) (by omega) (by omega)]) (f1 28 (by omega) (by omega) (by omega) (by omega)) (f1 42 (by omega) (by omega) (by omega) (by omega)) (by rw [f29])⟩, by rw [f0, f29]; exact b7⟩, by rw [f0, f29]; exact hI.2⟩
  unfold gIm
  rw [f26, f40, f0]
  by_cases z : i = k
  · subst z
    rw [upd_at, upd_at]
    refine ⟨rfl, Or.inr ⟨rfl, q1, f, hok, y1, ?_⟩⟩
    rw [f25]
    exact cH_c hok.1.1.1.2.2.1 hok.1.1.1.2.2.2 ⟨hT, hO⟩ (fun j hj => x1 j hj)
  · rw [upd_ne z, upd_ne z]
    obtain ⟨c1, c2⟩ := b5 i hi
    refine ⟨c1, c2.imp_right (fun ⟨c3, c4, g, c5, c6, c7⟩ => ⟨c3, c4, g, c5, fun j hj => ?_, ?_⟩)⟩
    · rw [y2 _ (by omega), f41]
      exact c6 j hj
    · rw [f25]
      exact cH_c c5.1.1.1.2.2.1 c5.1.1.1.2.2.2 c7 (fun j hj => x2 _ (by omega))
theorem m_restore_ok {k : Nat} (hk2 : k < 2) (h40 : M 40 k = nI 1) (hk : ∀ i, i < 46 → M 41 (46 * k + i) = nI (g i)) (hQ : ∀ M', mS M' g → M' 29 = upd (M 29) 19 (nI 0) → (∀ b, b ≠ 29 → b ≠ 33 → M' b = M b) → Q [.int (nI 1)] (gSH ++ rs) M') : gcl (d + 2) 185 [.ref 29, .int (nI k)] (gSH ++ rs) M Q := by
  have hx : gIn (nI k) 0 1 = true := by rw [gIn_n (by omega)]; exact decide_eq_true (by omega)
  have loop : ∀ m t M1, t + m = 46 → (∀ i, i < t → M1 33 i = nI (g i)) → (∀ b, b ≠ 33 → M1 b = M b) → gR (gcl (d + 1)) (0, fun _ => 0) 185 27 [some (.ref 29), some (.int (nI k)), some (.int (nI t))] [] (gSH ++ rs) M1 0 0 Q := by
    intro m
    induction m with
    | zero =>
      intro t M1 ht h1 h3
      obtain rfl : t = 46 := by omega
      rw [u185_27]
      simp (disch := first | omega | assumption) only [u185_0, u185_1, u185_2, u185_3, u185_4, u185_7, u185_10, u185_12, u185_13, u185_14, u185_17, u185_18, u185_19, u185_22, u185_24, u185_25, u185_26, u185_28, u185_30, u185_33, u185_34, u185_37, u185_38, u185_39, u185_42, u185_44, u185_45, u185_46, u185_47, u185_48, u185_49, u185_50, u185_53, u185_56, u185_57, u185_58, u185_61, u185_62, kc29, ks29_0, ks29_1, ks29_2, ks29_3, ks29_4, ks29_5, ks29_6, ks29_7, ks29_8, ks29_9, ks29_10, ks29_11, ks29_12, ks29_13, ks29_14, ks29_15, ks29_16, ks29_17, ks29_18, ks29_19, ks29_20, ks29_21, ks29_22, ks29_23, ks29_24, Nat.le_refl, kc0, kc1, kc13, kc15, kc19, kc23, kc27, kc29, gb_z, z0, z1, n11, true_or, false_or, nb0, nb1, gb_01, nlt0, nge0, neq0, ngt0, nle0, m1lt, m1ge, true_implies, false_implies, not_true_eq_false, not_false_eq_true, Bool.true_eq_false, Bool.false_eq_true, eq_self, and_self, Nat.reduceEqDiff, Nat.reduceLT, gfv_s, gfv_n, gop1_s, nI_add, pk_mul, nIcl, vinT, nIle, nIlt, nIeq, true_and, and_true, List.cons_append, List.nil_append, List.length_nil, List.length_cons, Nat.zero_le, Nat.reduceLeDiff, Nat.reduceAdd, Nat.reduceMul]
      refine hQ _ (fun i hi => by rw [gr_ne (by omega), h1 i hi]) (by rw [gr_at, h3 29 (by omega)]) (fun b q1 q2 => by rw [gr_ne q1, h3 b q2])
    | succ m ih =>
      intro t M1 ht h1 h3
      have e41 : M1 41 (46 * k + t) = nI (g t) := by rw [h3 41 (by omega)]; exact hk t (by omega)
      have q : ¬ 46 ≤ t := by omega
      rw [u185_27]
      simp (disch := first | omega | assumption) only [u185_0, u185_1, u185_2, u185_3, u185_4, u185_7, u185_10, u185_12, u185_13, u185_14, u185_17, u185_18, u185_19, u185_22, u185_24, u185_25, u185_26, u185_28, u185_30, u185_33, u185_34, u185_37, u185_38, u185_39, u185_42, u185_44, u185_45, u185_46, u185_47, u185_48, u185_49, u185_50, u185_53, u185_56, u185_57, u185_58, u185_61, u185_62, kc29, ks29_0, ks29_1, ks29_2, ks29_3, ks29_4, ks29_5, ks29_6, ks29_7, ks29_8, ks29_9, ks29_10, ks29_11, ks29_12, ks29_13, ks29_14, ks29_15, ks29_16, ks29_17, ks29_18, ks29_19, ks29_20, ks29_21, ks29_22, ks29_23, ks29_24, kk33, kl33, kk41, kl41, e41, q, kc0, kc1, kc13, kc15, kc19, kc23, kc27, kc29, gb_z, z0, z1, n11, true_or, false_or, nb0, nb1, gb_01, nlt0, nge0, neq0, ngt0, nle0, m1lt, m1ge, true_implies, false_implies, not_true_eq_false, not_false_eq_true, Bool.true_eq_false, Bool.false_eq_true, eq_self, and_self, Nat.reduceEqDiff, Nat.reduceLT, gfv_s, gfv_n, gop1_s, nI_add, pk_mul, nIcl, vinT, nIle, nIlt, nIeq, true_and, and_true, List.cons_append, List.nil_append, List.length_nil, List.length_cons, Nat.zero_le, Nat.reduceLeDiff, Nat.reduceAdd, Nat.reduceMul]
      refine ih (t + 1) _ (by omega) (fun i hi => ?_) (fun b q1 => by rw [gr_ne q1, h3 b q1])
      rw [gr_at]
      by_cases z : i = t
      · rw [z, upd_at]
      · rw [upd_ne (by omega), h1 i (by omega)]
  rw [e185]
  simp (disch := first | omega | assumption) only [u185_0, u185_1, u185_2, u185_3, u185_4, u185_7, u185_10, u185_12, u185_13, u185_14, u185_17, u185_18, u185_19, u185_22, u185_24, u185_25, u185_26, u185_28, u185_30, u185_33, u185_34, u185_37, u185_38, u185_39, u185_42, u185_44, u185_45, u185_46, u185_47, u185_48, u185_49, u185_50, u185_53, u185_56, u185_57, u185_58, u185_61, u185_62, kc29, ks29_0, ks29_1, ks29_2, ks29_3, ks29_4, ks29_5, ks29_6, ks29_7, ks29_8, ks29_9, ks29_10, ks29_11, ks29_12, ks29_13, ks29_14, ks29_15, ks29_16, ks29_17, ks29_18, ks29_19, ks29_20, ks29_21, ks29_22, ks29_23, ks29_24, kk40, kl40, m_inN, hx, h40, kc0, kc1, kc13, kc15, kc19, kc23, kc27, kc29, gb_z, z0, z1, n11, true_or, false_or, nb0, nb1, gb_01, nlt0, nge0, neq0, ngt0, nle0, m1lt, m1ge, true_implies, false_implies, not_true_eq_false, not_false_eq_true, Bool.true_eq_false, Bool.false_eq_true, eq_self, and_self, Nat.reduceEqDiff, Nat.reduceLT, gfv_s, gfv_n, gop1_s, nI_add, pk_mul, nIcl, vinT, nIle, nIlt, nIeq, true_and, and_true, List.cons_append, List.nil_append, List.length_nil, List.length_cons, Nat.zero_le, Nat.reduceLeDiff, Nat.reduceAdd, Nat.reduceMul]
  exact loop 46 0 M rfl (fun k hk => absurd hk (by omega)) (fun _ _ => rfl)
theorem o_restore (hI : gI M) : gcl (d + 20) 100 [.ref 0, .int x] (gSH ++ rs) M (gEo d 185 [.int x] rs) := by
  obtain ⟨f, ⟨hS, hO, h1, hok, h4, ht⟩⟩ := hI.1.2.2.1
  obtain ⟨a, n, G, hn, ⟨ha, k1, k2, k3⟩, ⟨m1, m2⟩, hG, hg0⟩ := hI.1.2.2.2.1
  rw [e100]
  cases hx : gIn x 0 1
  · simp (disch := first | omega | assumption) only [u100_0, u100_1, u100_2, u100_5, u100_8, u100_10, u100_11, u100_12, u100_15, u100_16, u100_17, u100_20, u100_22, u100_23, u100_24, u100_27, u100_28, u100_31, u100_32, u100_34, u100_35, u100_38, u100_39, u100_42, u100_45, u100_46, kc0, ks0_0, ks0_1, ks0_2, ks0_3, ks0_4, ks0_5, ks0_6, ks0_7, ks0_8, ks0_9, ks0_10, c_upTo, hx, kc0, kc1, kc13, kc15, kc19, kc23, kc27, kc29, gb_z, z0, z1, n11, true_or, false_or, nb0, nb1, gb_01, nlt0, nge0, neq0, ngt0, nle0, m1lt, m1ge, true_implies, false_implies, not_true_eq_false, not_false_eq_true, Bool.true_eq_false, Bool.false_eq_true, eq_self, and_self, Nat.reduceEqDiff, Nat.reduceLT, gfv_s, gfv_n, gop1_s, nI_add, pk_mul, nIcl, vinT, nIle, nIlt, nIeq, true_and, and_true, List.cons_append, List.nil_append, List.length_nil, List.length_cons, Nat.zero_le, Nat.reduceLeDiff, Nat.reduceAdd, Nat.reduceMul]
    refine gEo_i ?_
    rw [e185]
    simp (disch := first | omega | assumption) only [u185_0, u185_1, u185_2, u185_3, u185_4, u185_7, u185_10, u185_12, u185_13, u185_14, u185_17, u185_18, u185_19, u185_22, u185_24, u185_25, u185_26, u185_28, u185_30, u185_33, u185_34, u185_37, u185_38, u185_39, u185_42, u185_44, u185_45, u185_46, u185_47, u185_48, u185_49, u185_50, u185_53, u185_56, u185_57, u185_58, u185_61, u185_62, kc29, ks29_0, ks29_1, ks29_2, ks29_3, ks29_4, ks29_5, ks29_6, ks29_7, ks29_8, ks29_9, ks29_10, ks29_11, ks29_12, ks29_13, ks29_14, ks29_15, ks29_16, ks29_17, ks29_18, ks29_19, ks29_20, ks29_21, ks29_22, ks29_23, ks29_24, m_inN, hx, kc0, kc1, kc13, kc15, kc19, kc23, kc27, kc29, gb_z, z0, z1, n11, true_or, false_or, nb0, nb1, gb_01, nlt0, nge0, neq0, ngt0, nle0, m1lt, m1ge, true_implies, false_implies, not_true_eq_false, not_false_eq_true, Bool.true_eq_false, Bool.false_eq_true, eq_self, and_self, Nat.reduceEqDiff, Nat.reduceLT, gfv_s, gfv_n, gop1_s, nI_add, pk_mul, nIcl, vinT, nIle, nIlt, nIeq, true_and, and_true, List.cons_append, List.nil_append, List.length_nil, List.length_cons, Nat.zero_le, Nat.reduceLeDiff, Nat.reduceAdd, Nat.reduceMul]
    exact gFo_i hI
  obtain ⟨k, -, hk, rfl⟩ := gIn_t hx
  obtain ⟨c1, c2 | ⟨c3, c4, g, c5, c6, c7⟩⟩ := hI.1.2.2.2.2.1 k (by omega)
  · rw [c2] at c1
    simp (disch := first | omega | assumption) only [u100_0, u100_1, u100_2, u100_5, u100_8, u100_10, u100_11, u100_12, u100_15, u100_16, u100_17, u100_20, u100_22, u100_23, u100_24, u100_27, u100_28, u100_31, u100_32, u100_34, u100_35, u100_38, u100_39, u100_42, u100_45, u100_46, kc0, ks0_0, ks0_1, ks0_2, ks0_3, ks0_4, ks0_5, ks0_6, ks0_7, ks0_8, ks0_9, ks0_10, kk26, kl26, c_upTo, hx, c2, kc0, kc1, kc13, kc15, kc19, kc23, kc27, kc29, gb_z, z0, z1, n11, true_or, false_or, nb0, nb1, gb_01, nlt0, nge0, neq0, ngt0, nle0, m1lt, m1ge, true_implies, false_implies, not_true_eq_false, not_false_eq_true, Bool.true_eq_false, Bool.false_eq_true, eq_self, and_self, Nat.reduceEqDiff, Nat.reduceLT, gfv_s, gfv_n, gop1_s, nI_add, pk_mul, nIcl, vinT, nIle, nIlt, nIeq, true_and, and_true, List.cons_append, List.nil_append, List.length_nil, List.length_cons, Nat.zero_le, Nat.reduceLeDiff, Nat.reduceAdd, Nat.reduceMul]
    refine gEo_i ?_
    rw [e185]
    simp (disch := first | omega | assumption) only [u185_0, u185_1, u185_2, u185_3, u185_4, u185_7, u185_10, u185_12, u185_13, u185_14, u185_17, u185_18, u185_19, u185_22, u185_24, u185_25, u185_26, u185_28, u185_30, u185_33, u185_34, u185_37, u185_38, u185_39, u185_42, u185_44, u185_45, u185_46, u185_47, u185_48, u185_49, u185_50, u185_53, u185_56, u185_57, u185_58, u185_61, u185_62, kc29, ks29_0, ks29_1, ks29_2, ks29_3, ks29_4, ks29_5, ks29_6, ks29_7, ks29_8, ks29_9, ks29_10, ks29_11, ks29_12, ks29_13, ks29_14, ks29_15, ks29_16, ks29_17, ks29_18, ks29_19, ks29_20, ks29_21, ks29_22, ks29_23, ks29_24, kk40, kl40, m_inN, hx, c1, kc0, kc1, kc13, kc15, kc19, kc23, kc27, kc29, gb_z, z0, z1, n11, true_or, false_or, nb0, nb1, gb_01, nlt0, nge0, neq0, ngt0, nle0, m1lt, m1ge, true_implies, false_implies, not_true_eq_false, not_false_eq_true, Bool.true_eq_false, Bool.false_eq_true, eq_self, and_self, Nat.reduceEqDiff, Nat.reduceLT, gfv_s, gfv_n, gop1_s, nI_add, pk_mul, nIcl, vinT, nIle, nIlt, nIeq, true_and, and_true, List.cons_append, List.nil_append, List.length_nil, List.length_cons, Nat.zero_le, Nat.reduceLeDiff, Nat.reduceAdd, Nat.reduceMul]
    exact gFo_i hI
  rw [c3] at c1
  simp (disch := first | omega | assumption) only [u100_0, u100_1, u100_2, u100_5, u100_8, u100_10, u100_11, u100_12, u100_15, u100_16, u100_17, u100_20, u100_22, u100_23, u100_24, u100_27, u100_28, u100_31, u100_32, u100_34, u100_35, u100_38, u100_39, u100_42, u100_45, u100_46, kc0, ks0_0, ks0_1, ks0_2, ks0_3, ks0_4, ks0_5, ks0_6, ks0_7, ks0_8, ks0_9, ks0_10, kc15, ks15_0, ks15_1, ks15_2, kk25, kl25, kk26, kl26, c_upTo, hx, c3, kc0, kc1, kc13, kc15, kc19, kc23, kc27, kc29, gb_z, z0, z1, n11, true_or, false_or, nb0, nb1, gb_01, nlt0, nge0, neq0, ngt0, nle0, m1lt, m1ge, true_implies, false_implies, not_true_eq_false, not_false_eq_true, Bool.true_eq_false, Bool.false_eq_true, eq_self, and_self, Nat.reduceEqDiff, Nat.reduceLT, gfv_s, gfv_n, gop1_s, nI_add, pk_mul, nIcl, vinT, nIle, nIlt, nIeq, true_and, and_true, List.cons_append, List.nil_append, List.length_nil, List.length_cons, Nat.zero_le, Nat.reduceLeDiff, Nat.reduceAdd, Nat.reduceMul]
  refine c_fetchFrom (gHl_now rs) rfl (by show _ ≤ 94; omega) (by omega) (fun M1 x1 x2 => ?_)
  simp (disch := first | omega | assumption) only [u100_0, u100_1, u100_2, u100_5, u100_8, u100_10, u100_11, u100_12, u100_15, u100_16, u100_17, u100_20, u100_22, u100_23, u100_24, u100_27, u100_28, u100_31, u100_32, u100_34, u100_35, u100_38, u100_39, u100_42, u100_45, u100_46, kc0, ks0_0, ks0_1, ks0_2, ks0_3, ks0_4, ks0_5, ks0_6, ks0_7, ks0_8, ks0_9, ks0_10, kc15, ks15_0, ks15_1, ks15_2, kc23, ks23_0, ks23_1, ks23_2, kk25, kl25, kk26, kl26, c_forgetAll, kc0, kc1, kc13, kc15, kc19, kc23, kc27, kc29, gb_z, z0, z1, n11, true_or, false_or, nb0, nb1, gb_01, nlt0, nge0, neq0, ngt0, nle0, m1lt, m1ge, true_implies, false_implies, not_true_eq_false, not_false_eq_true, Bool.true_eq_false, Bool.false_eq_true, eq_self, and_self, Nat.reduceEqDiff, Nat.reduceLT, gfv_s, gfv_n, gop1_s, nI_add, pk_mul, nIcl, vinT, nIle, nIlt, nIeq, true_and, and_true, List.cons_append, List.nil_append, List.length_nil, List.length_cons, Nat.zero_le, Nat.reduceLeDiff, Nat.reduceAdd, Nat.reduceMul]
  refine gEo_i ?_
  refine m_restore_ok (g := g) (by omega) (by rw [gr_ne (by omega), x2 40 (by omega)]; exact c1) (fun i hi => by rw [gr_ne (by omega), x2 41 (by omega)]; exact c6 i hi) (fun M2 y1 y2 y3 => ?_)
  have f1 : ∀ b, b ≠ 16 → b ≠ 23 → b ≠ 29 → b ≠ 33 → M2 b = M b := fun b w1 w2 w3 w4 => by rw [y3 b w3 w4, gr_ne w2, x2 b w1]
  have f0 : M2 0 = M 0 := f1 0 (by omega) (by omega) (by omega) (by omega)
  have f29 : ∀ k, k ≠ 19 → M2 29 k = M 29 k := fun k hk => by rw [y2, upd_ne hk, gr_ne (by omega), x2 29 (by omega)]
  have e16 : M2 16 = M1 16 := by rw [y3 16 (by omega) (by omega), gr_ne (by omega)]
  have e23 : M2 23 = upd (upd (M1 23) 1 (nI 0)) 2 (nI 0) := by rw [y3 23 (by omega) (by omega), gr_at]
  have hH : cH (M2 16) g := cH_c c5.1.1.1.2.2.1 c5.1.1.1.2.2.2 c7 (fun k hk => by rw [e16]; exact x1 k hk)
  exact gFo_i (gI_hill (f' := g) (a' := 0) (n' := 0) (G' := G) hI (gHi_mk y1 hH c5 (by rw [f0, c4]) (by rw [f29 4 (by omega), h4, c4])) ⟨by omega, ⟨by omega, by rw [e23]; rfl, by rw [e23]; rfl, fun i hi => absurd hi (by omega)⟩, ⟨by rw [y2, upd_at], fun i hi => absurd hi (by omega)⟩, fun i hi => absurd hi (by omega), fun q => absurd q (by omega)⟩ (fun b hb => f1 b (by omega) (by omega) (by omega) (by omega)) (fun k _ => by rw [f0]) (Or.inl (by rw [f0])) (fun k hk => f29 k (by omega)))
end G60
