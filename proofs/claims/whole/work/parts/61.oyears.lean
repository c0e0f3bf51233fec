/-! calls on both sides: years -/
def aPY : Nat → Nat → (Nat → Nat → Nat) → (Nat → Nat) → Nat × (Nat → Nat → Nat) × (Nat → Nat)
  | 0, n, G, f => (n, G, f)
  | m + 1, n, G, f => aPY m (aPuN n) (aPu n G f) (aYear f)
def aCnt : Nat → (Nat → Nat) → Nat
  | 0, _ => 0
  | m + 1, f => (if aMover f = -1000000 then 0 else 1) + aCnt m (aYear f)
theorem aPY_f : ∀ m n G f, (aPY m n G f).2.2 = aYears m f
  | 0, _, _, _ => rfl
  | m + 1, n, G, f => aPY_f m _ _ _
theorem aPY_ok : ∀ m {n : Nat} {G : Nat → Nat → Nat} {f : Nat → Nat}, n ≤ 24 → (∀ i, i < n → hOK (G i)) → hOK f → f 4 + m ≤ 999 → (aPY m n G f).1 ≤ 24 ∧ (∀ i, i < (aPY m n G f).1 → hOK ((aPY m n G f).2.1 i)) ∧ hOK (aPY m n G f).2.2
  | 0, _, _, _, hn, hG, hf, _ => ⟨hn, hG, hf⟩
  | m + 1, n, G, f, hn, hG, hf, h9 => aPY_ok m (aPuN_le n) (aPu_ok hn hG hf) (hOK_year hf (by omega)) (by rw [aYear_4]; omega)
theorem aYear_5 {f : Nat → Nat} (hf : aWf f) : aYear f 5 = f 5 + (if aMover f = -1000000 then 0 else 1) := by
  have h2 := hf.1.2.2.1
  have h3 := hf.1.2.2.2
  have e2 : aMv f 2 = f 2 := aMv_e h3 (by omega) (by omega)
  have hw := aWho_lt f (f 3)
  have e : aYear f 5 = aMv f 5 := by
    unfold aYear
    rw [aUp_ne (by omega), aGrow_e _ (by omega) (by omega)]
  rw [e]
  unfold aMv aMover
  by_cases q : f 3 = 0 ∨ aB f = f (34 + aW f)
  · rw [if_pos q, if_pos q, if_pos rfl, aLit_lo _ _ _ (by omega), Nat.add_zero]
  · have hne : ¬ nI (aW f) = -1000000 := by rw [nIno (by unfold aW; omega)]; exact id
    rw [if_neg q, if_neg q, if_neg hne]
    exact aUp_at
theorem aYears_5 : ∀ m {f : Nat → Nat}, hOK f → f 4 + m ≤ 999 → aYears m f 5 = f 5 + aCnt m f
  | 0, _, _, _ => rfl
  | m + 1, f, hf, h9 => by
    have := aYears_5 m (hOK_year hf (by omega)) (by rw [aYear_4]; omega)
    rw [aYear_5 hf.1.1] at this
    unfold aCnt
    show aYears m (aYear f) 5 = _
    omega
theorem aCnt_le : ∀ m (f : Nat → Nat), aCnt m f ≤ m
  | 0, _ => Nat.le_refl _
  | m + 1, f => by
    have := aCnt_le m (aYear f)
    unfold aCnt
    split <;> omega
section G61
variable {d : Nat} {rs : gS} {M : gM} {Q : gQ} {x y z : Int32}
theorem c_years_loop {N : Nat} (hN : N ≤ 20) : ∀ m t M1 a n (G : Nat → Nat → Nat) (f : Nat → Nat) c, t + m = N → kC M1 a n G → n ≤ 24 → (∀ i, i < n → hOK (G i)) → cH (M1 16) f → hOK f → f 4 + m ≤ 999 → c ≤ t → (∀ M' a', kC M' a' (aPY m n G f).1 (aPY m n G f).2.1 → cH (M' 16) (aPY m n G f).2.2 → (∀ b, b ≠ 16 → b ≠ 17 → b ≠ 18 → b ≠ 23 → b ≠ 24 → M' b = M1 b) → Q [.int (nI (c + aCnt m f))] (gSH ++ rs) M') → gR (gcl (d + 6)) (0, fun _ => 0) 82 46 [some (.ref 0), some (.int (nI N)), some (.int (nI c)), some (.int (nI t))] [] (gSH ++ rs) M1 0 0 Q := by
  intro m
  induction m with
  | zero =>
    intro t M1 a n G f c ht hk hn hG hH hf h9 hc hQ
    have q : N ≤ t := by omega
    rw [u82_46]
    simp (disch := first | omega | assumption) only [u82_0, u82_1, u82_4, u82_7, u82_9, u82_10, u82_11, u82_12, u82_15, u82_16, u82_18, u82_21, u82_23, u82_24, u82_25, u82_28, u82_31, u82_32, u82_33, u82_36, u82_39, u82_41, u82_42, u82_43, u82_44, u82_45, u82_47, u82_48, u82_51, u82_52, u82_55, u82_56, u82_59, u82_62, u82_63, u82_66, u82_69, u82_71, u82_74, u82_77, u82_80, u82_83, u82_84, kc0, ks0_0, ks0_1, ks0_2, ks0_3, ks0_4, ks0_5, ks0_6, ks0_7, ks0_8, ks0_9, ks0_10, q, kc0, kc1, kc13, kc15, kc19, kc23, kc27, kc29, gb_z, z0, z1, n11, true_or, false_or, nb0, nb1, gb_01, nlt0, nge0, neq0, ngt0, nle0, m1lt, m1ge, true_implies, false_implies, not_true_eq_false, not_false_eq_true, Bool.true_eq_false, Bool.false_eq_true, eq_self, and_self, Nat.reduceEqDiff, Nat.reduceLT, gfv_s, gfv_n, gop1_s, nI_add, pk_mul, nIcl, vinT, nIle, nIlt, nIeq, true_and, and_true, List.cons_append, List.nil_append, List.length_nil, List.length_cons, Nat.zero_le, Nat.reduceLeDiff, Nat.reduceAdd, Nat.reduceMul]
    exact hQ M1 a hk hH (fun _ _ _ _ _ _ => rfl)
  | succ m ih =>
    intro t M1 a n G f c ht hk hn hG hH hf h9 hc hQ
    have q : ¬ N ≤ t := by omega
    rw [u82_46]
    simp (disch := first | omega | assumption) only [u82_0, u82_1, u82_4, u82_7, u82_9, u82_10, u82_11, u82_12, u82_15, u82_16, u82_18, u82_21, u82_23, u82_24, u82_25, u82_28, u82_31, u82_32, u82_33, u82_36, u82_39, u82_41, u82_42, u82_43, u82_44, u82_45, u82_47, u82_48, u82_51, u82_52, u82_55, u82_56, u82_59, u82_62, u82_63, u82_66, u82_69, u82_71, u82_74, u82_77, u82_80, u82_83, u82_84, kc0, ks0_0, ks0_1, ks0_2, ks0_3, ks0_4, ks0_5, ks0_6, ks0_7, ks0_8, ks0_9, ks0_10, kc15, ks15_0, ks15_1, ks15_2, kc23, ks23_0, ks23_1, ks23_2, q, kc0, kc1, kc13, kc15, kc19, kc23, kc27, kc29, gb_z, z0, z1, n11, true_or, false_or, nb0, nb1, gb_01, nlt0, nge0, neq0, ngt0, nle0, m1lt, m1ge, true_implies, false_implies, not_true_eq_false, not_false_eq_true, Bool.true_eq_false, Bool.false_eq_true, eq_self, and_self, Nat.reduceEqDiff, Nat.reduceLT, gfv_s, gfv_n, gop1_s, nI_add, pk_mul, nIcl, vinT, nIle, nIlt, nIeq, true_and, and_true, List.cons_append, List.nil_append, List.length_nil, List.length_cons, Nat.zero_le, Nat.reduceLeDiff, Nat.reduceAdd, Nat.reduceMul]
    refine c_keep hk hn hG hH hf (fun M2 a2 x1 x2 => ?_)
    simp (disch := first | omega | assumption) only [u82_0, u82_1, u82_4, u82_7, u82_9, u82_10, u82_11, u82_12, u82_15, u82_16, u82_18, u82_21, u82_23, u82_24, u82_25, u82_28, u82_31, u82_32, u82_33, u82_36, u82_39, u82_41, u82_42, u82_43, u82_44, u82_45, u82_47, u82_48, u82_51, u82_52, u82_55, u82_56, u82_59, u82_62, u82_63, u82_66, u82_69, u82_71, u82_74, u82_77, u82_80, u82_83, u82_84, kc0, ks0_0, ks0_1, ks0_2, ks0_3, ks0_4, ks0_5, ks0_6, ks0_7, ks0_8, ks0_9, ks0_10, kc15, ks15_0, ks15_1, ks15_2, kc23, ks23_0, ks23_1, ks23_2, kc0, kc1, kc13, kc15, kc19, kc23, kc27, kc29, gb_z, z0, z1, n11, true_or, false_or, nb0, nb1, gb_01, nlt0, nge0, neq0, ngt0, nle0, m1lt, m1ge, true_implies, false_implies, not_true_eq_false, not_false_eq_true, Bool.true_eq_false, Bool.false_eq_true, eq_self, and_self, Nat.reduceEqDiff, Nat.reduceLT, gfv_s, gfv_n, gop1_s, nI_add, pk_mul, nIcl, vinT, nIle, nIlt, nIeq, true_and, and_true, List.cons_append, List.nil_append, List.length_nil, List.length_cons, Nat.zero_le, Nat.reduceLeDiff, Nat.reduceAdd, Nat.reduceMul]
    refine c_passYear (f := f) (gHl_now rs) (by rw [x2 _ (by omega) (by omega)]; exact hH) hf.1 (by omega) (fun M3 y1 y2 => ?_)
    have hk3 : kC M3 a2 (aPuN n) (aPu n G f) := kC_c x1 (y2 23 (by omega) (by omega) (by omega)) (y2 24 (by omega) (by omega) (by omega))
    have hG3 := aPu_ok hn hG hf
    have hy : hOK (aYear f) := hOK_year hf (by omega)
    have h49 : aYear f 4 + m ≤ 999 := by rw [aYear_4]; omega
    have hfr : ∀ M' : gM, (∀ b, b ≠ 16 → b ≠ 17 → b ≠ 18 → b ≠ 23 → b ≠ 24 → M' b = M3 b) → ∀ b, b ≠ 16 → b ≠ 17 → b ≠ 18 → b ≠ 23 → b ≠ 24 → M' b = M1 b := fun M' hM b w1 w2 w3 w4 w5 => by rw [hM b w1 w2 w3 w4 w5, y2 b w1 w2 w3, x2 b w4 w5]
    by_cases z : aMover f = -1000000
    · rw [z]
      simp (disch := first | omega | assumption) only [u82_0, u82_1, u82_4, u82_7, u82_9, u82_10, u82_11, u82_12, u82_15, u82_16, u82_18, u82_21, u82_23, u82_24, u82_25, u82_28, u82_31, u82_32, u82_33, u82_36, u82_39, u82_41, u82_42, u82_43, u82_44, u82_45, u82_47, u82_48, u82_51, u82_52, u82_55, u82_56, u82_59, u82_62, u82_63, u82_66, u82_69, u82_71, u82_74, u82_77, u82_80, u82_83, u82_84, kc0, ks0_0, ks0_1, ks0_2, ks0_3, ks0_4, ks0_5, ks0_6, ks0_7, ks0_8, ks0_9, ks0_10, kc15, ks15_0, ks15_1, ks15_2, kc23, ks23_0, ks23_1, ks23_2, kc0, kc1, kc13, kc15, kc19, kc23, kc27, kc29, gb_z, z0, z1, n11, true_or, false_or, nb0, nb1, gb_01, nlt0, nge0, neq0, ngt0, nle0, m1lt, m1ge, true_implies, false_implies, not_true_eq_false, not_false_eq_true, Bool.true_eq_false, Bool.false_eq_true, eq_self, and_self, Nat.reduceEqDiff, Nat.reduceLT, gfv_s, gfv_n, gop1_s, nI_add, pk_mul, nIcl, vinT, nIle, nIlt, nIeq, true_and, and_true, List.cons_append, List.nil_append, List.length_nil, List.length_cons, Nat.zero_le, Nat.reduceLeDiff, Nat.reduceAdd, Nat.reduceMul]
      refine ih (t + 1) M3 a2 _ _ (aYear f) c (by omega) hk3 (aPuN_le n) hG3 y1 hy h49 (by omega) (fun M' a' u1 u2 u3 => ?_)
      have := hQ M' a' u1 u2 (hfr M' u3)
      unfold aCnt at this
      rw [if_pos z, Nat.zero_add] at this
      exact this
    · simp (disch := first | omega | assumption) only [u82_0, u82_1, u82_4, u82_7, u82_9, u82_10, u82_11, u82_12, u82_15, u82_16, u82_18, u82_21, u82_23, u82_24, u82_25, u82_28, u82_31, u82_32, u82_33, u82_36, u82_39, u82_41, u82_42, u82_43, u82_44, u82_45, u82_47, u82_48, u82_51, u82_52, u82_55, u82_56, u82_59, u82_62, u82_63, u82_66, u82_69, u82_71, u82_74, u82_77, u82_80, u82_83, u82_84, kc0, ks0_0, ks0_1, ks0_2, ks0_3, ks0_4, ks0_5, ks0_6, ks0_7, ks0_8, ks0_9, ks0_10, kc15, ks15_0, ks15_1, ks15_2, kc23, ks23_0, ks23_1, ks23_2, z, kc0, kc1, kc13, kc15, kc19, kc23, kc27, kc29, gb_z, z0, z1, n11, true_or, false_or, nb0, nb1, gb_01, nlt0, nge0, neq0, ngt0, nle0, m1lt, m1ge, true_implies, false_implies, not_true_eq_false, not_false_eq_true, Bool.true_eq_false, Bool.false_eq_true, eq_self, and_self, Nat.reduceEqDiff, Nat.reduceLT, gfv_s, gfv_n, gop1_s, nI_add, pk_mul, nIcl, vinT, nIle, nIlt, nIeq, true_and, and_true, List.cons_append, List.nil_append, List.length_nil, List.length_cons, Nat.zero_le, Nat.reduceLeDiff, Nat.reduceAdd, Nat.reduceMul]
      refine ih (t + 1) M3 a2 _ _ (aYear f) (c + 1) (by omega) hk3 (aPuN_le n) hG3 y1 hy h49 (by omega) (fun M' a' u1 u2 u3 => ?_)
      have := hQ M' a' u1 u2 (hfr M' u3)
      unfold aCnt at this
      rw [if_neg z, ← Nat.add_assoc] at this
      exact this
theorem m_years_loop {N H : Nat} (hN : N ≤ 20) (hH : H ≤ 100000) : ∀ m t M1 n (G : Nat → Nat → Nat) (f : Nat → Nat), t + m = N → kM M1 n G → n ≤ 24 → mS M1 f → hOK f → f 4 + m ≤ 999 → H ≤ aYears m f 5 → (∀ M', kM M' (aPY m n G f).1 (aPY m n G f).2.1 → mS M' (aPY m n G f).2.2 → (∀ k, k ≠ 16 → k ≠ 19 → M' 29 k = M1 29 k) → (∀ b, b ≠ 29 → b ≠ 33 → b ≠ 37 → b ≠ 38 → M' b = M1 b) → Q [.int (nI (aYears m f 5 - H))] (gSH ++ rs) M') → gR (gcl (d + 6)) (0, fun _ => 0) 158 51 [some (.ref 29), some (.int (nI N)), some (.int (nI H)), some (.int (nI t))] [] (gSH ++ rs) M1 0 0 Q := by
  intro m
  induction m with
  | zero =>
    intro t M1 n G f ht hk hn hS hf h9 h5 hQ
    have q : N ≤ t := by omega
    have e5 : M1 33 5 = nI (f 5) := hS 5 (by omega)
    have h5' : H ≤ f 5 := h5
    have b5 := hf.1.2 5 (by omega)
    rw [u158_51]
    simp (disch := first | omega | assumption) only [u158_0, u158_1, u158_4, u158_7, u158_9, u158_10, u158_11, u158_12, u158_13, u158_16, u158_19, u158_22, u158_24, u158_25, u158_26, u158_29, u158_30, u158_31, u158_32, u158_33, u158_36, u158_39, u158_41, u158_42, u158_43, u158_46, u158_47, u158_48, u158_49, u158_50, u158_52, u158_53, u158_56, u158_57, u158_60, u158_61, u158_64, u158_67, u158_70, u158_71, u158_74, u158_75, u158_76, u158_77, u158_78, kc29, ks29_0, ks29_1, ks29_2, ks29_3, ks29_4, ks29_5, ks29_6, ks29_7, ks29_8, ks29_9, ks29_10, ks29_11, ks29_12, ks29_13, ks29_14, ks29_15, ks29_16, ks29_17, ks29_18, ks29_19, ks29_20, ks29_21, ks29_22, ks29_23, ks29_24, kk33, kl33, q, e5, nIsub, kc0, kc1, kc13, kc15, kc19, kc23, kc27, kc29, gb_z, z0, z1, n11, true_or, false_or, nb0, nb1, gb_01, nlt0, nge0, neq0, ngt0, nle0, m1lt, m1ge, true_implies, false_implies, not_true_eq_false, not_false_eq_true, Bool.true_eq_false, Bool.false_eq_true, eq_self, and_self, Nat.reduceEqDiff, Nat.reduceLT, gfv_s, gfv_n, gop1_s, nI_add, pk_mul, nIcl, vinT, nIle, nIlt, nIeq, true_and, and_true, List.cons_append, List.nil_append, List.length_nil, List.length_cons, Nat.zero_le, Nat.reduceLeDiff, Nat.reduceAdd, Nat.reduceMul]
    exact hQ M1 hk hS (fun _ _ _ => rfl) (fun _ _ _ _ _ => rfl)
  | succ m ih =>
    intro t M1 n G f ht hk hn hS hf h9 h5 hQ
    have q : ¬ N ≤ t := by omega
    rw [u158_51]
    simp (disch := first | omega | assumption) only [u158_0, u158_1, u158_4, u158_7, u158_9, u158_10, u158_11, u158_12, u158_13, u158_16, u158_19, u158_22, u158_24, u158_25, u158_26, u158_29, u158_30, u158_31, u158_32, u158_33, u158_36, u158_39, u158_41, u158_42, u158_43, u158_46, u158_47, u158_48, u158_49, u158_50, u158_52, u158_53, u158_56, u158_57, u158_60, u158_61, u158_64, u158_67, u158_70, u158_71, u158_74, u158_75, u158_76, u158_77, u158_78, kc29, ks29_0, ks29_1, ks29_2, ks29_3, ks29_4, ks29_5, ks29_6, ks29_7, ks29_8, ks29_9, ks29_10, ks29_11, ks29_12, ks29_13, ks29_14, ks29_15, ks29_16, ks29_17, ks29_18, ks29_19, ks29_20, ks29_21, ks29_22, ks29_23, ks29_24, kk33, kl33, q, kc0, kc1, kc13, kc15, kc19, kc23, kc27, kc29, gb_z, z0, z1, n11, true_or, false_or, nb0, nb1, gb_01, nlt0, nge0, neq0, ngt0, nle0, m1lt, m1ge, true_implies, false_implies, not_true_eq_false, not_false_eq_true, Bool.true_eq_false, Bool.false_eq_true, eq_self, and_self, Nat.reduceEqDiff, Nat.reduceLT, gfv_s, gfv_n, gop1_s, nI_add, pk_mul, nIcl, vinT, nIle, nIlt, nIeq, true_and, and_true, List.cons_append, List.nil_append, List.length_nil, List.length_cons, Nat.zero_le, Nat.reduceLeDiff, Nat.reduceAdd, Nat.reduceMul]
    refine m_note (f := f) hk hn hS (fun M2 x1 x2 x3 => ?_)
    simp (disch := first | omega | assumption) only [u158_0, u158_1, u158_4, u158_7, u158_9, u158_10, u158_11, u158_12, u158_13, u158_16, u158_19, u158_22, u158_24, u158_25, u158_26, u158_29, u158_30, u158_31, u158_32, u158_33, u158_36, u158_39, u158_41, u158_42, u158_43, u158_46, u158_47, u158_48, u158_49, u158_50, u158_52, u158_53, u158_56, u158_57, u158_60, u158_61, u158_64, u158_67, u158_70, u158_71, u158_74, u158_75, u158_76, u158_77, u158_78, kc29, ks29_0, ks29_1, ks29_2, ks29_3, ks29_4, ks29_5, ks29_6, ks29_7, ks29_8, ks29_9, ks29_10, ks29_11, ks29_12, ks29_13, ks29_14, ks29_15, ks29_16, ks29_17, ks29_18, ks29_19, ks29_20, ks29_21, ks29_22, ks29_23, ks29_24, kk33, kl33, kc0, kc1, kc13, kc15, kc19, kc23, kc27, kc29, gb_z, z0, z1, n11, true_or, false_or, nb0, nb1, gb_01, nlt0, nge0, neq0, ngt0, nle0, m1lt, m1ge, true_implies, false_implies, not_true_eq_false, not_false_eq_true, Bool.true_eq_false, Bool.false_eq_true, eq_self, and_self, Nat.reduceEqDiff, Nat.reduceLT, gfv_s, gfv_n, gop1_s, nI_add, pk_mul, nIcl, vinT, nIle, nIlt, nIeq, true_and, and_true, List.cons_append, List.nil_append, List.length_nil, List.length_cons, Nat.zero_le, Nat.reduceLeDiff, Nat.reduceAdd, Nat.reduceMul]
    refine m_oneYear (f := f) (mS_c hS (x3 33 (by omega) (by omega))) hf.1 (by omega) (fun M3 y1 y2 y3 y4 => ?_)
    simp (disch := first | omega | assumption) only [u158_0, u158_1, u158_4, u158_7, u158_9, u158_10, u158_11, u158_12, u158_13, u158_16, u158_19, u158_22, u158_24, u158_25, u158_26, u158_29, u158_30, u158_31, u158_32, u158_33, u158_36, u158_39, u158_41, u158_42, u158_43, u158_46, u158_47, u158_48, u158_49, u158_50, u158_52, u158_53, u158_56, u158_57, u158_60, u158_61, u158_64, u158_67, u158_70, u158_71, u158_74, u158_75, u158_76, u158_77, u158_78, kc29, ks29_0, ks29_1, ks29_2, ks29_3, ks29_4, ks29_5, ks29_6, ks29_7, ks29_8, ks29_9, ks29_10, ks29_11, ks29_12, ks29_13, ks29_14, ks29_15, ks29_16, ks29_17, ks29_18, ks29_19, ks29_20, ks29_21, ks29_22, ks29_23, ks29_24, kk33, kl33, kc0, kc1, kc13, kc15, kc19, kc23, kc27, kc29, gb_z, z0, z1, n11, true_or, false_or, nb0, nb1, gb_01, nlt0, nge0, neq0, ngt0, nle0, m1lt, m1ge, true_implies, false_implies, not_true_eq_false, not_false_eq_true, Bool.true_eq_false, Bool.false_eq_true, eq_self, and_self, Nat.reduceEqDiff, Nat.reduceLT, gfv_s, gfv_n, gop1_s, nI_add, pk_mul, nIcl, vinT, nIle, nIlt, nIeq, true_and, and_true, List.cons_append, List.nil_append, List.length_nil, List.length_cons, Nat.zero_le, Nat.reduceLeDiff, Nat.reduceAdd, Nat.reduceMul]
    refine ih (t + 1) M3 _ _ (aYear f) (by omega) (kM_c x1 (y3 19 (by omega)) (y4 38 (by omega) (by omega) (by omega))) (aPuN_le n) y1 (hOK_year hf (by omega)) (by rw [aYear_4]; omega) h5 (fun M' u1 u2 u3 u4 => ?_)
    exact hQ M' u1 u2 (fun k w1 w2 => by rw [u3 k w1 w2, y3 k w1, x2 k w2]) (fun b w1 w2 w3 w4 => by rw [u4 b w1 w2 w3 w4, y4 b w2 w1 w3, x3 b w1 w4])
theorem o_years (hI : gI M) : gcl (d + 20) 82 [.ref 0, .int x] (gSH ++ rs) M (gEo d 158 [.int x] rs) := by
  obtain ⟨f, ⟨hS, hO, h1, hok, h4, ht⟩⟩ := hI.1.2.2.1
  obtain ⟨a, n, G, hn, hkC, hkM, hG, hg0⟩ := hI.1.2.2.2.1
  have o0 := hO.1
  have h9 := hok.2.2.1
  have e4 : M 33 4 = nI (f 4) := hS 4 (by omega)
  have e5 : M 33 5 = nI (f 5) := hS 5 (by omega)
  rw [e82]
  obtain ⟨q1, -⟩ | ⟨q1, hT⟩ := ht
  · rw [q1] at h4
    simp (disch := first | omega | assumption) only [u82_0, u82_1, u82_4, u82_7, u82_9, u82_10, u82_11, u82_12, u82_15, u82_16, u82_18, u82_21, u82_23, u82_24, u82_25, u82_28, u82_31, u82_32, u82_33, u82_36, u82_39, u82_41, u82_42, u82_43, u82_44, u82_45, u82_47, u82_48, u82_51, u82_52, u82_55, u82_56, u82_59, u82_62, u82_63, u82_66, u82_69, u82_71, u82_74, u82_77, u82_80, u82_83, u82_84, kc0, ks0_0, ks0_1, ks0_2, ks0_3, ks0_4, ks0_5, ks0_6, ks0_7, ks0_8, ks0_9, ks0_10, q1, kc0, kc1, kc13, kc15, kc19, kc23, kc27, kc29, gb_z, z0, z1, n11, true_or, false_or, nb0, nb1, gb_01, nlt0, nge0, neq0, ngt0, nle0, m1lt, m1ge, true_implies, false_implies, not_true_eq_false, not_false_eq_true, Bool.true_eq_false, Bool.false_eq_true, eq_self, and_self, Nat.reduceEqDiff, Nat.reduceLT, gfv_s, gfv_n, gop1_s, nI_add, pk_mul, nIcl, vinT, nIle, nIlt, nIeq, true_and, and_true, List.cons_append, List.nil_append, List.length_nil, List.length_cons, Nat.zero_le, Nat.reduceLeDiff, Nat.reduceAdd, Nat.reduceMul]
    refine gEo_i ?_
    rw [e158]
    simp (disch := first | omega | assumption) only [u158_0, u158_1, u158_4, u158_7, u158_9, u158_10, u158_11, u158_12, u158_13, u158_16, u158_19, u158_22, u158_24, u158_25, u158_26, u158_29, u158_30, u158_31, u158_32, u158_33, u158_36, u158_39, u158_41, u158_42, u158_43, u158_46, u158_47, u158_48, u158_49, u158_50, u158_52, u158_53, u158_56, u158_57, u158_60, u158_61, u158_64, u158_67, u158_70, u158_71, u158_74, u158_75, u158_76, u158_77, u158_78, kc29, ks29_0, ks29_1, ks29_2, ks29_3, ks29_4, ks29_5, ks29_6, ks29_7, ks29_8, ks29_9, ks29_10, ks29_11, ks29_12, ks29_13, ks29_14, ks29_15, ks29_16, ks29_17, ks29_18, ks29_19, ks29_20, ks29_21, ks29_22, ks29_23, ks29_24, h4, kc0, kc1, kc13, kc15, kc19, kc23, kc27, kc29, gb_z, z0, z1, n11, true_or, false_or, nb0, nb1, gb_01, nlt0, nge0, neq0, ngt0, nle0, m1lt, m1ge, true_implies, false_implies, not_true_eq_false, not_false_eq_true, Bool.true_eq_false, Bool.false_eq_true, eq_self, and_self, Nat.reduceEqDiff, Nat.reduceLT, gfv_s, gfv_n, gop1_s, nI_add, pk_mul, nIcl, vinT, nIle, nIlt, nIeq, true_and, and_true, List.cons_append, List.nil_append, List.length_nil, List.length_cons, Nat.zero_le, Nat.reduceLeDiff, Nat.reduceAdd, Nat.reduceMul]
    exact gFo_i hI
  rw [q1] at h4
  cases hx : gIn x 1 20
  · have hb : gEo d 158 [.int x] rs [.int (-1000001)] (gSH ++ rs) M := by
      refine gEo_i ?_
      rw [e158]
      simp (disch := first | omega | assumption) only [u158_0, u158_1, u158_4, u158_7, u158_9, u158_10, u158_11, u158_12, u158_13, u158_16, u158_19, u158_22, u158_24, u158_25, u158_26, u158_29, u158_30, u158_31, u158_32, u158_33, u158_36, u158_39, u158_41, u158_42, u158_43, u158_46, u158_47, u158_48, u158_49, u158_50, u158_52, u158_53, u158_56, u158_57, u158_60, u158_61, u158_64, u158_67, u158_70, u158_71, u158_74, u158_75, u158_76, u158_77, u158_78, kc29, ks29_0, ks29_1, ks29_2, ks29_3, ks29_4, ks29_5, ks29_6, ks29_7, ks29_8, ks29_9, ks29_10, ks29_11, ks29_12, ks29_13, ks29_14, ks29_15, ks29_16, ks29_17, ks29_18, ks29_19, ks29_20, ks29_21, ks29_22, ks29_23, ks29_24, h4, m_inN, hx, kc0, kc1, kc13, kc15, kc19, kc23, kc27, kc29, gb_z, z0, z1, n11, true_or, false_or, nb0, nb1, gb_01, nlt0, nge0, neq0, ngt0, nle0, m1lt, m1ge, true_implies, false_implies, not_true_eq_false, not_false_eq_true, Bool.true_eq_false, Bool.false_eq_true, eq_self, and_self, Nat.reduceEqDiff, Nat.reduceLT, gfv_s, gfv_n, gop1_s, nI_add, pk_mul, nIcl, vinT, nIle, nIlt, nIeq, true_and, and_true, List.cons_append, List.nil_append, List.length_nil, List.length_cons, Nat.zero_le, Nat.reduceLeDiff, Nat.reduceAdd, Nat.reduceMul]
      exact gFo_i hI
    have hq := gIn_f hx
    simp (disch := first | omega | assumption) only [u82_0, u82_1, u82_4, u82_7, u82_9, u82_10, u82_11, u82_12, u82_15, u82_16, u82_18, u82_21, u82_23, u82_24, u82_25, u82_28, u82_31, u82_32, u82_33, u82_36, u82_39, u82_41, u82_42, u82_43, u82_44, u82_45, u82_47, u82_48, u82_51, u82_52, u82_55, u82_56, u82_59, u82_62, u82_63, u82_66, u82_69, u82_71, u82_74, u82_77, u82_80, u82_83, u82_84, kc0, ks0_0, ks0_1, ks0_2, ks0_3, ks0_4, ks0_5, ks0_6, ks0_7, ks0_8, ks0_9, ks0_10, q1, xlt, xle, kc0, kc1, kc13, kc15, kc19, kc23, kc27, kc29, gb_z, z0, z1, n11, true_or, false_or, nb0, nb1, gb_01, nlt0, nge0, neq0, ngt0, nle0, m1lt, m1ge, true_implies, false_implies, not_true_eq_false, not_false_eq_true, Bool.true_eq_false, Bool.false_eq_true, eq_self, and_self, Nat.reduceEqDiff, Nat.reduceLT, gfv_s, gfv_n, gop1_s, nI_add, pk_mul, nIcl, vinT, nIle, nIlt, nIeq, true_and, and_true, List.cons_append, List.nil_append, List.length_nil, List.length_cons, Nat.zero_le, Nat.reduceLeDiff, Nat.reduceAdd, Nat.reduceMul]
    refine ⟨fun _ => hb, fun _ => ⟨fun q => absurd q (by omega), fun _ => hb⟩⟩
  obtain ⟨N, hN1, hN, rfl⟩ := gIn_t hx
  have n1 : ¬ N < 1 := by omega
  by_cases q9 : f 4 + N ≤ 999
  · have hok2 := aPY_ok N hn hG hok q9
    have h5 := aYears_5 N hok q9
    have b5 := hok.1.2 5 (by omega)
    simp (disch := first | omega | assumption) only [u82_0, u82_1, u82_4, u82_7, u82_9, u82_10, u82_11, u82_12, u82_15, u82_16, u82_18, u82_21, u82_23, u82_24, u82_25, u82_28, u82_31, u82_32, u82_33, u82_36, u82_39, u82_41, u82_42, u82_43, u82_44, u82_45, u82_47, u82_48, u82_51, u82_52, u82_55, u82_56, u82_59, u82_62, u82_63, u82_66, u82_69, u82_71, u82_74, u82_77, u82_80, u82_83, u82_84, kc0, ks0_0, ks0_1, ks0_2, ks0_3, ks0_4, ks0_5, ks0_6, ks0_7, ks0_8, ks0_9, ks0_10, kc15, ks15_0, ks15_1, ks15_2, q1, n1, hN, c_year (gHl_now rs), o0, q9, kc0, kc1, kc13, kc15, kc19, kc23, kc27, kc29, gb_z, z0, z1, n11, true_or, false_or, nb0, nb1, gb_01, nlt0, nge0, neq0, ngt0, nle0, m1lt, m1ge, true_implies, false_implies, not_true_eq_false, not_false_eq_true, Bool.true_eq_false, Bool.false_eq_true, eq_self, and_self, Nat.reduceEqDiff, Nat.reduceLT, gfv_s, gfv_n, gop1_s, nI_add, pk_mul, nIcl, vinT, nIle, nIlt, nIeq, true_and, and_true, List.cons_append, List.nil_append, List.length_nil, List.length_cons, Nat.zero_le, Nat.reduceLeDiff, Nat.reduceAdd, Nat.reduceMul]
    refine c_years_loop (d := d + 13) hN N 0 M a n G f 0 (by omega) hkC hn hG ⟨hT, hO⟩ hok q9 (by omega) (fun M1 a1 x1 x2 x3 => ?_)
    rw [Nat.zero_add]
    refine gEo_i ?_
    have f33 := x3 33 (by omega) (by omega) (by omega) (by omega) (by omega)
    have f29 := x3 29 (by omega) (by omega) (by omega) (by omega) (by omega)
    have h4' : M1 29 4 = nI 1 := by rw [f29]; exact h4
    have e4' : M1 33 4 = nI (f 4) := by rw [f33]; exact e4
    have e5' : M1 33 5 = nI (f 5) := by rw [f33]; exact e5
    rw [e158]
    simp (disch := first | omega | assumption) only [u158_0, u158_1, u158_4, u158_7, u158_9, u158_10, u158_11, u158_12, u158_13, u158_16, u158_19, u158_22, u158_24, u158_25, u158_26, u158_29, u158_30, u158_31, u158_32, u158_33, u158_36, u158_39, u158_41, u158_42, u158_43, u158_46, u158_47, u158_48, u158_49, u158_50, u158_52, u158_53, u158_56, u158_57, u158_60, u158_61, u158_64, u158_67, u158_70, u158_71, u158_74, u158_75, u158_76, u158_77, u158_78, kc29, ks29_0, ks29_1, ks29_2, ks29_3, ks29_4, ks29_5, ks29_6, ks29_7, ks29_8, ks29_9, ks29_10, ks29_11, ks29_12, ks29_13, ks29_14, ks29_15, ks29_16, ks29_17, ks29_18, ks29_19, ks29_20, ks29_21, ks29_22, ks29_23, ks29_24, kk33, kl33, h4', m_inN, hx, e4', e5', q9, kc0, kc1, kc13, kc15, kc19, kc23, kc27, kc29, gb_z, z0, z1, n11, true_or, false_or, nb0, nb1, gb_01, nlt0, nge0, neq0, ngt0, nle0, m1lt, m1ge, true_implies, false_implies, not_true_eq_false, not_false_eq_true, Bool.true_eq_false, Bool.false_eq_true, eq_self, and_self, Nat.reduceEqDiff, Nat.reduceLT, gfv_s, gfv_n, gop1_s, nI_add, pk_mul, nIcl, vinT, nIle, nIlt, nIeq, true_and, and_true, List.cons_append, List.nil_append, List.length_nil, List.length_cons, Nat.zero_le, Nat.reduceLeDiff, Nat.reduceAdd, Nat.reduceMul]
    refine m_years_loop (d := d + 13) hN (by omega) N 0 M1 n G f (by omega) (kM_c hkM (by rw [f29]) (x3 38 (by omega) (by omega) (by omega) (by omega) (by omega))) hn (mS_c hS f33) hok q9 (by omega) (fun M2 y1 y2 y3 y4 => ?_)
    rw [h5, Nat.add_sub_cancel_left]
    have g1 : ∀ b, b ≠ 16 → b ≠ 17 → b ≠ 18 → b ≠ 23 → b ≠ 24 → b ≠ 29 → b ≠ 33 → b ≠ 37 → b ≠ 38 → M2 b = M b := fun b w1 w2 w3 w4 w5 w6 w7 w8 w9 => by rw [y4 b w6 w7 w8 w9, x3 b w1 w2 w3 w4 w5]
    have g0 : M2 0 = M 0 := g1 0 (by omega) (by omega) (by omega) (by omega) (by omega) (by omega) (by omega) (by omega) (by omega)
    have g29 : ∀ k, k ≠ 16 → k ≠ 19 → M2 29 k = M 29 k := fun k w1 w2 => by rw [y3 k w1 w2, f29]
    have e16 : M2 16 = M1 16 := y4 16 (by omega) (by omega) (by omega) (by omega)
    exact gFo_i (gI_hill hI (gHi_mk y2 (by rw [e16]; exact x2) hok2.2.2 (by rw [g0, q1]) (by rw [g29 4 (by omega) (by omega), h4])) ⟨hok2.1, kC_c x1 (y4 23 (by omega) (by omega) (by omega) (by omega)) (y4 24 (by omega) (by omega) (by omega) (by omega)), y1, hok2.2.1, fun _ => by rw [g0, q1]⟩ (fun b hb => g1 b (by omega) (by omega) (by omega) (by omega) (by omega) (by omega) (by omega) (by omega) (by omega)) (fun k _ => by rw [g0]) (Or.inl (by rw [g0])) (fun k hk => g29 k (by omega) (by omega)))
  · simp (disch := first | omega | assumption) only [u82_0, u82_1, u82_4, u82_7, u82_9, u82_10, u82_11, u82_12, u82_15, u82_16, u82_18, u82_21, u82_23, u82_24, u82_25, u82_28, u82_31, u82_32, u82_33, u82_36, u82_39, u82_41, u82_42, u82_43, u82_44, u82_45, u82_47, u82_48, u82_51, u82_52, u82_55, u82_56, u82_59, u82_62, u82_63, u82_66, u82_69, u82_71, u82_74, u82_77, u82_80, u82_83, u82_84, kc0, ks0_0, ks0_1, ks0_2, ks0_3, ks0_4, ks0_5, ks0_6, ks0_7, ks0_8, ks0_9, ks0_10, kc15, ks15_0, ks15_1, ks15_2, q1, n1, hN, c_year (gHl_now rs), o0, q9, kc0, kc1, kc13, kc15, kc19, kc23, kc27, kc29, gb_z, z0, z1, n11, true_or, false_or, nb0, nb1, gb_01, nlt0, nge0, neq0, ngt0, nle0, m1lt, m1ge, true_implies, false_implies, not_true_eq_false, not_false_eq_true, Bool.true_eq_false, Bool.false_eq_true, eq_self, and_self, Nat.reduceEqDiff, Nat.reduceLT, gfv_s, gfv_n, gop1_s, nI_add, pk_mul, nIcl, vinT, nIle, nIlt, nIeq, true_and, and_true, List.cons_append, List.nil_append, List.length_nil, List.length_cons, Nat.zero_le, Nat.reduceLeDiff, Nat.reduceAdd, Nat.reduceMul]
    refine gEo_i ?_
    rw [e158]
    simp (disch := first | omega | assumption) only [u158_0, u158_1, u158_4, u158_7, u158_9, u158_10, u158_11, u158_12, u158_13, u158_16, u158_19, u158_22, u158_24, u158_25, u158_26, u158_29, u158_30, u158_31, u158_32, u158_33, u158_36, u158_39, u158_41, u158_42, u158_43, u158_46, u158_47, u158_48, u158_49, u158_50, u158_52, u158_53, u158_56, u158_57, u158_60, u158_61, u158_64, u158_67, u158_70, u158_71, u158_74, u158_75, u158_76, u158_77, u158_78, kc29, ks29_0, ks29_1, ks29_2, ks29_3, ks29_4, ks29_5, ks29_6, ks29_7, ks29_8, ks29_9, ks29_10, ks29_11, ks29_12, ks29_13, ks29_14, ks29_15, ks29_16, ks29_17, ks29_18, ks29_19, ks29_20, ks29_21, ks29_22, ks29_23, ks29_24, kk33, kl33, h4, m_inN, hx, e4, q9, kc0, kc1, kc13, kc15, kc19, kc23, kc27, kc29, gb_z, z0, z1, n11, true_or, false_or, nb0, nb1, gb_01, nlt0, nge0, neq0, ngt0, nle0, m1lt, m1ge, true_implies, false_implies, not_true_eq_false, not_false_eq_true, Bool.true_eq_false, Bool.false_eq_true, eq_self, and_self, Nat.reduceEqDiff, Nat.reduceLT, gfv_s, gfv_n, gop1_s, nI_add, pk_mul, nIcl, vinT, nIle, nIlt, nIeq, true_and, and_true, List.cons_append, List.nil_append, List.length_nil, List.length_cons, Nat.zero_le, Nat.reduceLeDiff, Nat.reduceAdd, Nat.reduceMul]
    exact gFo_i hI
end G61
