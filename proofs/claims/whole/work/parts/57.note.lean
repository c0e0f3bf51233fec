/-! hills kept on both sides -/
def aPuN (n : Nat) : Nat := if n < 24 then n + 1 else 24
def aPu (n : Nat) (G : Nat → Nat → Nat) (f : Nat → Nat) : Nat → Nat → Nat := fun i => if n < 24 then (if i = n then f else G i) else (if i = 23 then f else G (i + 1))
theorem aPuN_le (n : Nat) : aPuN n ≤ 24 := by unfold aPuN; split <;> omega
theorem aPu_ok {n : Nat} {G : Nat → Nat → Nat} {f : Nat → Nat} (hn : n ≤ 24) (hG : ∀ i, i < n → hOK (G i)) (hf : hOK f) : ∀ i, i < aPuN n → hOK (aPu n G f i) := by
  intro i hi
  unfold aPuN at hi
  unfold aPu
  by_cases q : n < 24
  · rw [if_pos q] at hi ⊢
    by_cases z : i = n
    · rw [if_pos z]; exact hf
    · rw [if_neg z]; exact hG i (by omega)
  · rw [if_neg q] at hi ⊢
    by_cases z : i = 23
    · rw [if_pos z]; exact hf
    · rw [if_neg z]; exact hG (i + 1) (by omega)
section G57
variable {d : Nat} {sh rs : gS} {M : gM} {Q : gQ} {f : Nat → Nat} {G : Nat → Nat → Nat} {a n : Nat}
theorem c_keep (hk : kC M a n G) (hn : n ≤ 24) (hG : ∀ i, i < n → hOK (G i)) (hH : cH (M 16) f) (hf : hOK f) (hQ : ∀ M' a', kC M' a' (aPuN n) (aPu n G f) → (∀ b, b ≠ 23 → b ≠ 24 → M' b = M b) → Q [] (gSH ++ rs) M') : gcl (d + 2) 1 [.ref 23, .ref 15] (gSH ++ rs) M Q := by
  obtain ⟨ha, k1, k2, k3⟩ := hk
  have f2 : f 2 ≤ 7 := hf.1.1.1.2.2.1
  have f3 : f 3 ≤ 4 := hf.1.1.1.2.2.2
  by_cases q : n < 24
  · refine c_keep_lo (gHl_now rs) (by omega) (by omega) k1 k2 ha q (fun M' x1 x2 x3 x4 x5 => ?_)
    refine hQ M' a ⟨ha, x1, by rw [x2]; unfold aPuN; rw [if_pos q], fun i hi => ?_⟩ x5
    unfold aPuN at hi
    rw [if_pos q] at hi
    unfold aPu
    rw [if_pos q]
    by_cases z : i = n
    · rw [if_pos z, z]
      exact cH_c f2 f3 hH (fun k hk => x3 k hk)
    · rw [if_neg z]
      have hg := hG i (by omega)
      exact cH_c hg.1.1.1.2.2.1 hg.1.1.1.2.2.2 (k3 i (by omega)) (fun k hk => x4 _ (by omega))
  · obtain rfl : n = 24 := by omega
    refine c_keep_hi (gHl_now rs) (by omega) (by omega) k1 k2 ha (fun M' x1 x2 x3 x4 x5 => ?_)
    refine hQ M' ((a + 1) % 24) ⟨by omega, x1, by rw [x2]; rfl, fun i hi => ?_⟩ x5
    have hi24 : i < 24 := hi
    unfold aPu
    rw [if_neg q]
    by_cases z : i = 23
    · rw [if_pos z, z]
      exact cH_c f2 f3 hH (fun k hk => x3 k hk)
    · rw [if_neg z]
      have hg := hG (i + 1) (by omega)
      refine cH_c hg.1.1.1.2.2.1 hg.1.1.1.2.2.2 (k3 (i + 1) (by omega)) (fun k hk => ?_)
      have e : ((a + 1) % 24 + i) % 24 = (a + (i + 1)) % 24 := by omega
      show M' 24 (((a + 1) % 24 + i) % 24 * 47 + k) = _
      rw [x4 _ (by omega), e]
theorem m_note_st (hn : n < 24) (h19 : M 29 19 = nI n) (hS : mS M f) {l1 : Option Value} (hQ : ∀ M', (∀ k, k < 46 → M' 38 (46 * n + k) = nI (f k)) → (∀ k, k < 46 * n ∨ 46 * n + 46 ≤ k → M' 38 k = M 38 k) → M' 29 = upd (M 29) 19 (nI (n + 1)) → (∀ b, b ≠ 29 → b ≠ 38 → M' b = M b) → Q [] (gSH ++ rs) M') : gR (gcl d) (0, fun _ => 0) 157 49 [some (.ref 29), l1] [] (gSH ++ rs) M 0 0 Q := by
  have loop : ∀ m t M1, t + m = 46 → (∀ k, k < t → M1 38 (46 * n + k) = nI (f k)) → (∀ k, k < 46 * n ∨ 46 * n + 46 ≤ k → M1 38 k = M 38 k) → (∀ b, b ≠ 38 → M1 b = M b) → gR (gcl d) (0, fun _ => 0) 157 51 [some (.ref 29), some (.int (nI t))] [] (gSH ++ rs) M1 0 0 Q := by
    intro m
    induction m with
    | zero =>
      intro t M1 ht h1 h2 h3
      obtain rfl : t = 46 := by omega
      have e19 : M1 29 19 = nI n := by rw [h3 29 (by omega)]; exact h19
      rw [u157_51]
      simp (disch := first | omega | assumption) only [u157_0, u157_1, u157_4, u157_6, u157_9, u157_10, u157_12, u157_15, u157_18, u157_19, u157_22, u157_23, u157_24, u157_27, u157_28, u157_30, u157_31, u157_32, u157_33, u157_36, u157_39, u157_40, u157_40i, u157_41, u157_44, u157_45, u157_46, u157_49, u157_50, u157_52, u157_54, u157_57, u157_58, u157_61, u157_63, u157_64, u157_67, u157_68, u157_69, u157_70, u157_71, u157_74, u157_75, u157_76, u157_77, u157_80, u157_83, u157_84, u157_84i, u157_85, u157_88, u157_89, u157_90, u157_93, kc29, ks29_0, ks29_1, ks29_2, ks29_3, ks29_4, ks29_5, ks29_6, ks29_7, ks29_8, ks29_9, ks29_10, ks29_11, ks29_12, ks29_13, ks29_14, ks29_15, ks29_16, ks29_17, ks29_18, ks29_19, ks29_20, ks29_21, ks29_22, ks29_23, ks29_24, e19, Nat.le_refl, kc0, kc1, kc13, kc15, kc19, kc23, kc27, kc29, gb_z, z0, z1, n11, true_or, false_or, nb0, nb1, gb_01, nlt0, nge0, neq0, ngt0, nle0, m1lt, m1ge, true_implies, false_implies, not_true_eq_false, not_false_eq_true, Bool.true_eq_false, Bool.false_eq_true, eq_self, and_self, Nat.reduceEqDiff, Nat.reduceLT, gfv_s, gfv_n, gop1_s, nI_add, pk_mul, nIcl, vinT, nIle, nIlt, nIeq, true_and, and_true, List.cons_append, List.nil_append, List.length_nil, List.length_cons, Nat.zero_le, Nat.reduceLeDiff, Nat.reduceAdd, Nat.reduceMul]
      refine hQ _ (fun k hk => ?_) (fun k hk => ?_) ?_ (fun b q1 q2 => ?_)
      · rw [gr_ne (by omega), h1 k hk]
      · rw [gr_ne (by omega), h2 k hk]
      · rw [gr_at, h3 29 (by omega)]
      · rw [gr_ne q1, h3 b q2]
    | succ m ih =>
      intro t M1 ht h1 h2 h3
      have e19 : M1 29 19 = nI n := by rw [h3 29 (by omega)]; exact h19
      have e33 : M1 33 t = nI (f t) := by rw [h3 33 (by omega)]; exact hS t (by omega)
      have q : ¬ 46 ≤ t := by omega
      rw [u157_51]
      simp (disch := first | omega | assumption) only [u157_0, u157_1, u157_4, u157_6, u157_9, u157_10, u157_12, u157_15, u157_18, u157_19, u157_22, u157_23, u157_24, u157_27, u157_28, u157_30, u157_31, u157_32, u157_33, u157_36, u157_39, u157_40, u157_40i, u157_41, u157_44, u157_45, u157_46, u157_49, u157_50, u157_52, u157_54, u157_57, u157_58, u157_61, u157_63, u157_64, u157_67, u157_68, u157_69, u157_70, u157_71, u157_74, u157_75, u157_76, u157_77, u157_80, u157_83, u157_84, u157_84i, u157_85, u157_88, u157_89, u157_90, u157_93, kc29, ks29_0, ks29_1, ks29_2, ks29_3, ks29_4, ks29_5, ks29_6, ks29_7, ks29_8, ks29_9, ks29_10, ks29_11, ks29_12, ks29_13, ks29_14, ks29_15, ks29_16, ks29_17, ks29_18, ks29_19, ks29_20, ks29_21, ks29_22, ks29_23, ks29_24, kk33, kl33, kk38, kl38, e19, e33, q, kc0, kc1, kc13, kc15, kc19, kc23, kc27, kc29, gb_z, z0, z1, n11, true_or, false_or, nb0, nb1, gb_01, nlt0, nge0, neq0, ngt0, nle0, m1lt, m1ge, true_implies, false_implies, not_true_eq_false, not_false_eq_true, Bool.true_eq_false, Bool.false_eq_true, eq_self, and_self, Nat.reduceEqDiff, Nat.reduceLT, gfv_s, gfv_n, gop1_s, nI_add, pk_mul, nIcl, vinT, nIle, nIlt, nIeq, true_and, and_true, List.cons_append, List.nil_append, List.length_nil, List.length_cons, Nat.zero_le, Nat.reduceLeDiff, Nat.reduceAdd, Nat.reduceMul]
      refine ih (t + 1) _ (by omega) (fun k hk => ?_) (fun k hk => ?_) (fun b q1 => by rw [gr_ne q1, h3 b q1])
      · rw [gr_at]
        by_cases z : k = t
        · rw [z, upd_at]
        · rw [upd_ne (by omega), h1 k (by omega)]
      · rw [gr_at, upd_ne (by omega), h2 k hk]
  simp (disch := first | omega | assumption) only [u157_0, u157_1, u157_4, u157_6, u157_9, u157_10, u157_12, u157_15, u157_18, u157_19, u157_22, u157_23, u157_24, u157_27, u157_28, u157_30, u157_31, u157_32, u157_33, u157_36, u157_39, u157_40, u157_40i, u157_41, u157_44, u157_45, u157_46, u157_49, u157_50, u157_52, u157_54, u157_57, u157_58, u157_61, u157_63, u157_64, u157_67, u157_68, u157_69, u157_70, u157_71, u157_74, u157_75, u157_76, u157_77, u157_80, u157_83, u157_84, u157_84i, u157_85, u157_88, u157_89, u157_90, u157_93, kc29, ks29_0, ks29_1, ks29_2, ks29_3, ks29_4, ks29_5, ks29_6, ks29_7, ks29_8, ks29_9, ks29_10, ks29_11, ks29_12, ks29_13, ks29_14, ks29_15, ks29_16, ks29_17, ks29_18, ks29_19, ks29_20, ks29_21, ks29_22, ks29_23, ks29_24, kc0, kc1, kc13, kc15, kc19, kc23, kc27, kc29, gb_z, z0, z1, n11, true_or, false_or, nb0, nb1, gb_01, nlt0, nge0, neq0, ngt0, nle0, m1lt, m1ge, true_implies, false_implies, not_true_eq_false, not_false_eq_true, Bool.true_eq_false, Bool.false_eq_true, eq_self, and_self, Nat.reduceEqDiff, Nat.reduceLT, gfv_s, gfv_n, gop1_s, nI_add, pk_mul, nIcl, vinT, nIle, nIlt, nIeq, true_and, and_true, List.cons_append, List.nil_append, List.length_nil, List.length_cons, Nat.zero_le, Nat.reduceLeDiff, Nat.reduceAdd, Nat.reduceMul]
  exact loop 46 0 M rfl (fun k hk => absurd hk (by omega)) (fun _ _ => rfl) (fun _ _ => rfl)
theorem m_note (hk : kM M n G) (hn : n ≤ 24) (hS : mS M f) (hQ : ∀ M', kM M' (aPuN n) (aPu n G f) → (∀ k, k ≠ 19 → M' 29 k = M 29 k) → (∀ b, b ≠ 29 → b ≠ 38 → M' b = M b) → Q [] (gSH ++ rs) M') : gcl (d + 1) 157 [.ref 29] (gSH ++ rs) M Q := by
  obtain ⟨k1, k2⟩ := hk
  rw [e157]
  by_cases q : n < 24
  · have q2 : ¬ n = 24 := by omega
    simp (disch := first | omega | assumption) only [u157_0, u157_1, u157_4, u157_6, u157_9, u157_10, u157_12, u157_15, u157_18, u157_19, u157_22, u157_23, u157_24, u157_27, u157_28, u157_30, u157_31, u157_32, u157_33, u157_36, u157_39, u157_40, u157_40i, u157_41, u157_44, u157_45, u157_46, u157_50, u157_52, u157_54, u157_57, u157_58, u157_61, u157_63, u157_64, u157_67, u157_68, u157_69, u157_70, u157_71, u157_74, u157_75, u157_76, u157_77, u157_80, u157_83, u157_84, u157_84i, u157_85, u157_88, u157_89, u157_90, u157_93, kc29, ks29_0, ks29_1, ks29_2, ks29_3, ks29_4, ks29_5, ks29_6, ks29_7, ks29_8, ks29_9, ks29_10, ks29_11, ks29_12, ks29_13, ks29_14, ks29_15, ks29_16, ks29_17, ks29_18, ks29_19, ks29_20, ks29_21, ks29_22, ks29_23, ks29_24, k1, q2, kc0, kc1, kc13, kc15, kc19, kc23, kc27, kc29, gb_z, z0, z1, n11, true_or, false_or, nb0, nb1, gb_01, nlt0, nge0, neq0, ngt0, nle0, m1lt, m1ge, true_implies, false_implies, not_true_eq_false, not_false_eq_true, Bool.true_eq_false, Bool.false_eq_true, eq_self, and_self, Nat.reduceEqDiff, Nat.reduceLT, gfv_s, gfv_n, gop1_s, nI_add, pk_mul, nIcl, vinT, nIle, nIlt, nIeq, true_and, and_true, List.cons_append, List.nil_append, List.length_nil, List.length_cons, Nat.zero_le, Nat.reduceLeDiff, Nat.reduceAdd, Nat.reduceMul]
    refine m_note_st q k1 hS (fun M' x1 x2 x3 x4 => ?_)
    refine hQ M' ⟨by rw [x3, upd_at]; unfold aPuN; rw [if_pos q], fun i hi k hk => ?_⟩ (fun k hk => by rw [x3, upd_ne hk]) x4
    unfold aPuN at hi
    rw [if_pos q] at hi
    unfold aPu
    rw [if_pos q]
    by_cases z : i = n
    · rw [if_pos z, z]
      exact x1 k hk
    · rw [if_neg z, x2 _ (by omega)]
      exact k2 i (by omega) k hk
  · obtain rfl : n = 24 := by omega
    have loop : ∀ m t M1, t + m = 1058 → (∀ k, k < t → M1 38 k = M 38 (k + 46)) → (∀ k, t ≤ k → M1 38 k = M 38 k) → (∀ b, b ≠ 38 → M1 b = M b) → gR (gcl d) (0, fun _ => 0) 157 11 [some (.ref 29), some (.int (nI t))] [] (gSH ++ rs) M1 0 0 Q := by
      intro m
      induction m with
      | zero =>
        intro t M1 ht h1 h2 h3
        obtain rfl : t = 1058 := by omega
        have e19 : M1 29 19 = nI 24 := by rw [h3 29 (by omega)]; exact k1
        rw [u157_11]
        simp (disch := first | omega | assumption) only [u157_0, u157_1, u157_4, u157_6, u157_9, u157_10, u157_12, u157_15, u157_18, u157_19, u157_22, u157_23, u157_24, u157_27, u157_28, u157_30, u157_31, u157_32, u157_33, u157_36, u157_39, u157_40, u157_40i, u157_41, u157_44, u157_45, u157_46, u157_50, u157_52, u157_54, u157_57, u157_58, u157_61, u157_63, u157_64, u157_67, u157_68, u157_69, u157_70, u157_71, u157_74, u157_75, u157_76, u157_77, u157_80, u157_83, u157_84, u157_84i, u157_85, u157_88, u157_89, u157_90, u157_93, kc29, ks29_0, ks29_1, ks29_2, ks29_3, ks29_4, ks29_5, ks29_6, ks29_7, ks29_8, ks29_9, ks29_10, ks29_11, ks29_12, ks29_13, ks29_14, ks29_15, ks29_16, ks29_17, ks29_18, ks29_19, ks29_20, ks29_21, ks29_22, ks29_23, ks29_24, e19, Nat.le_refl, nIsub, Nat.reduceSub, kc0, kc1, kc13, kc15, kc19, kc23, kc27, kc29, gb_z, z0, z1, n11, true_or, false_or, nb0, nb1, gb_01, nlt0, nge0, neq0, ngt0, nle0, m1lt, m1ge, true_implies, false_implies, not_true_eq_false, not_false_eq_true, Bool.true_eq_false, Bool.false_eq_true, eq_self, and_self, Nat.reduceEqDiff, Nat.reduceLT, gfv_s, gfv_n, gop1_s, nI_add, pk_mul, nIcl, vinT, nIle, nIlt, nIeq, true_and, and_true, List.cons_append, List.nil_append, List.length_nil, List.length_cons, Nat.zero_le, Nat.reduceLeDiff, Nat.reduceAdd, Nat.reduceMul]
        refine m_note_st (n := 23) (f := f) (by omega) (by rw [gr_at, upd_at]) (fun k hk => by rw [gr_ne (by omega), h3 33 (by omega)]; exact hS k hk) (fun M' x1 x2 x3 x4 => ?_)
        refine hQ M' ⟨by rw [x3, upd_at]; rfl, fun i hi k hk => ?_⟩ (fun k hk => by rw [x3, upd_ne hk, gr_at, upd_ne hk, h3 29 (by omega)]) (fun b q1 q2 => by rw [x4 b q1 q2, gr_ne q1, h3 b q2])
        have hi24 : i < 24 := hi
        unfold aPu
        rw [if_neg q]
        by_cases z : i = 23
        · rw [if_pos z, z]
          exact x1 k hk
        · rw [if_neg z, x2 _ (by omega), gr_ne (by omega), h1 _ (by omega), ← k2 (i + 1) (by omega) k hk]
          congr 1
          omega
      | succ m ih =>
        intro t M1 ht h1 h2 h3
        have q : ¬ 1058 ≤ t := by omega
        have e38 := h2 (t + 46) (by omega)
        rw [u157_11]
        simp (disch := first | omega | assumption) only [u157_0, u157_1, u157_4, u157_6, u157_9, u157_10, u157_12, u157_15, u157_18, u157_19, u157_22, u157_23, u157_24, u157_27, u157_28, u157_30, u157_31, u157_32, u157_33, u157_36, u157_39, u157_40, u157_40i, u157_41, u157_44, u157_45, u157_46, u157_50, u157_52, u157_54, u157_57, u157_58, u157_61, u157_63, u157_64, u157_67, u157_68, u157_69, u157_70, u157_71, u157_74, u157_75, u157_76, u157_77, u157_80, u157_83, u157_84, u157_84i, u157_85, u157_88, u157_89, u157_90, u157_93, kc29, ks29_0, ks29_1, ks29_2, ks29_3, ks29_4, ks29_5, ks29_6, ks29_7, ks29_8, ks29_9, ks29_10, ks29_11, ks29_12, ks29_13, ks29_14, ks29_15, ks29_16, ks29_17, ks29_18, ks29_19, ks29_20, ks29_21, ks29_22, ks29_23, ks29_24, kk38, kl38, q, e38, kc0, kc1, kc13, kc15, kc19, kc23, kc27, kc29, gb_z, z0, z1, n11, true_or, false_or, nb0, nb1, gb_01, nlt0, nge0, neq0, ngt0, nle0, m1lt, m1ge, true_implies, false_implies, not_true_eq_false, not_false_eq_true, Bool.true_eq_false, Bool.false_eq_true, eq_self, and_self, Nat.reduceEqDiff, Nat.reduceLT, gfv_s, gfv_n, gop1_s, nI_add, pk_mul, nIcl, vinT, nIle, nIlt, nIeq, true_and, and_true, List.cons_append, List.nil_append, List.length_nil, List.length_cons, Nat.zero_le, Nat.reduceLeDiff, Nat.reduceAdd, Nat.reduceMul]
        refine ih (t + 1) _ (by omega) (fun k hk => ?_) (fun k hk => ?_) (fun b q1 => by rw [gr_ne q1, h3 b q1])
        · rw [gr_at]
          by_cases z : k = t
          · rw [z, upd_at]
          · rw [upd_ne z, h1 k (by omega)]
        · rw [gr_at, upd_ne (by omega), h2 k (by omega)]
    simp (disch := first | omega | assumption) only [u157_0, u157_1, u157_4, u157_6, u157_9, u157_10, u157_12, u157_15, u157_18, u157_19, u157_22, u157_23, u157_24, u157_27, u157_28, u157_30, u157_31, u157_32, u157_33, u157_36, u157_39, u157_40, u157_40i, u157_41, u157_44, u157_45, u157_46, u157_50, u157_52, u157_54, u157_57, u157_58, u157_61, u157_63, u157_64, u157_67, u157_68, u157_69, u157_70, u157_71, u157_74, u157_75, u157_76, u157_77, u157_80, u157_83, u157_84, u157_84i, u157_85, u157_88, u157_89, u157_90, u157_93, kc29, ks29_0, ks29_1, ks29_2, ks29_3, ks29_4, ks29_5, ks29_6, ks29_7, ks29_8, ks29_9, ks29_10, ks29_11, ks29_12, ks29_13, ks29_14, ks29_15, ks29_16, ks29_17, ks29_18, ks29_19, ks29_20, ks29_21, ks29_22, ks29_23, ks29_24, k1, kc0, kc1, kc13, kc15, kc19, kc23, kc27, kc29, gb_z, z0, z1, n11, true_or, false_or, nb0, nb1, gb_01, nlt0, nge0, neq0, ngt0, nle0, m1lt, m1ge, true_implies, false_implies, not_true_eq_false, not_false_eq_true, Bool.true_eq_false, Bool.false_eq_true, eq_self, and_self, Nat.reduceEqDiff, Nat.reduceLT, gfv_s, gfv_n, gop1_s, nI_add, pk_mul, nIcl, vinT, nIle, nIlt, nIeq, true_and, and_true, List.cons_append, List.nil_append, List.length_nil, List.length_cons, Nat.zero_le, Nat.reduceLeDiff, Nat.reduceAdd, Nat.reduceMul]
    exact loop 1058 0 M rfl (fun k hk => absurd hk (by omega)) (fun _ _ => rfl) (fun _ _ => rfl)
end G57
