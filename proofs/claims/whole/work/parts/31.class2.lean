/-! the class: cells by their names; the growing of the trees -/
section G31
variable {d : Nat} {sh : gS} {M : gM} {Q : gQ} {f : Nat → Nat} {h : Nat}
theorem c_year (hh : gHl sh h) : gcl (d + 1) 14 [.ref h] sh M Q = Q [.int (M (h + 1) 0)] sh M := by
  obtain ⟨k1, k2, -, -, ⟨k5, k6⟩, -⟩ := hh
  rw [e14]
  simp (disch := omega) only [u14_0, u14_1, u14_4, u14_5, u14_6, k1, k2, k5, k6, gfv_s, gfv_n, gop1_s, nI_add, pk_mul, nIcl, vinT, nIle, nIlt, nIeq, true_and, and_true, List.cons_append, List.nil_append, List.length_nil, List.length_cons, Nat.zero_le, Nat.reduceLeDiff, Nat.reduceAdd, Nat.reduceMul]
theorem c_trees (hh : gHl sh h) : gcl (d + 1) 15 [.ref h] sh M Q = Q [.int (M (h + 1) 1)] sh M := by
  obtain ⟨k1, k2, -, -, ⟨k5, k6⟩, -⟩ := hh
  rw [e15]
  simp (disch := omega) only [u15_0, u15_1, u15_4, u15_5, u15_6, k1, k2, k5, k6, gfv_s, gfv_n, gop1_s, nI_add, pk_mul, nIcl, vinT, nIle, nIlt, nIeq, true_and, and_true, List.cons_append, List.nil_append, List.length_nil, List.length_cons, Nat.zero_le, Nat.reduceLeDiff, Nat.reduceAdd, Nat.reduceMul]
theorem c_houses (hh : gHl sh h) : gcl (d + 1) 16 [.ref h] sh M Q = Q [.int (M (h + 1) 2)] sh M := by
  obtain ⟨k1, k2, -, -, ⟨k5, k6⟩, -⟩ := hh
  rw [e16]
  simp (disch := omega) only [u16_0, u16_1, u16_4, u16_5, u16_6, k1, k2, k5, k6, gfv_s, gfv_n, gop1_s, nI_add, pk_mul, nIcl, vinT, nIle, nIlt, nIeq, true_and, and_true, List.cons_append, List.nil_append, List.length_nil, List.length_cons, Nat.zero_le, Nat.reduceLeDiff, Nat.reduceAdd, Nat.reduceMul]
theorem c_sort {t : Nat} (hh : gHl sh h) (ht : t < 7) : gcl (d + 1) 17 [.ref h, .int (nI t)] sh M Q = Q [.int (M (h + 1) (7 + t))] sh M := by
  obtain ⟨k1, k2, -, -, ⟨k5, k6⟩, -⟩ := hh
  rw [e17]
  simp (disch := omega) only [u17_0, u17_1, u17_4, u17_6, u17_7, u17_8, u17_9, k1, k2, k5, k6, gfv_s, gfv_n, gop1_s, nI_add, pk_mul, nIcl, vinT, nIle, nIlt, nIeq, true_and, and_true, List.cons_append, List.nil_append, List.length_nil, List.length_cons, Nat.zero_le, Nat.reduceLeDiff, Nat.reduceAdd, Nat.reduceMul]
theorem c_spot {t : Nat} (hh : gHl sh h) (ht : t < 7) : gcl (d + 1) 18 [.ref h, .int (nI t)] sh M Q = Q [.int (M (h + 1) (14 + t))] sh M := by
  obtain ⟨k1, k2, -, -, ⟨k5, k6⟩, -⟩ := hh
  rw [e18]
  simp (disch := omega) only [u18_0, u18_1, u18_4, u18_6, u18_7, u18_8, u18_9, k1, k2, k5, k6, gfv_s, gfv_n, gop1_s, nI_add, pk_mul, nIcl, vinT, nIle, nIlt, nIeq, true_and, and_true, List.cons_append, List.nil_append, List.length_nil, List.length_cons, Nat.zero_le, Nat.reduceLeDiff, Nat.reduceAdd, Nat.reduceMul]
theorem c_high {t : Nat} (hh : gHl sh h) (ht : t < 7) : gcl (d + 1) 19 [.ref h, .int (nI t)] sh M Q = Q [.int (M (h + 1) (21 + t))] sh M := by
  obtain ⟨k1, k2, -, -, ⟨k5, k6⟩, -⟩ := hh
  rw [e19]
  simp (disch := omega) only [u19_0, u19_1, u19_4, u19_6, u19_7, u19_8, u19_9, k1, k2, k5, k6, gfv_s, gfv_n, gop1_s, nI_add, pk_mul, nIcl, vinT, nIle, nIlt, nIeq, true_and, and_true, List.cons_append, List.nil_append, List.length_nil, List.length_cons, Nat.zero_le, Nat.reduceLeDiff, Nat.reduceAdd, Nat.reduceMul]
theorem c_age {t : Nat} (hh : gHl sh h) (ht : t < 7) : gcl (d + 1) 20 [.ref h, .int (nI t)] sh M Q = Q [.int (M (h + 1) (28 + t))] sh M := by
  obtain ⟨k1, k2, -, -, ⟨k5, k6⟩, -⟩ := hh
  rw [e20]
  simp (disch := omega) only [u20_0, u20_1, u20_4, u20_6, u20_7, u20_8, u20_9, k1, k2, k5, k6, gfv_s, gfv_n, gop1_s, nI_add, pk_mul, nIcl, vinT, nIle, nIlt, nIeq, true_and, and_true, List.cons_append, List.nil_append, List.length_nil, List.length_cons, Nat.zero_le, Nat.reduceLeDiff, Nat.reduceAdd, Nat.reduceMul]
theorem c_home {t : Nat} (hh : gHl sh h) (ht : t < 4) : gcl (d + 1) 21 [.ref h, .int (nI t)] sh M Q = Q [.int (M (h + 1) (35 + t))] sh M := by
  obtain ⟨k1, k2, -, -, ⟨k5, k6⟩, -⟩ := hh
  rw [e21]
  simp (disch := omega) only [u21_0, u21_1, u21_4, u21_6, u21_7, u21_8, u21_9, k1, k2, k5, k6, gfv_s, gfv_n, gop1_s, nI_add, pk_mul, nIcl, vinT, nIle, nIlt, nIeq, true_and, and_true, List.cons_append, List.nil_append, List.length_nil, List.length_cons, Nat.zero_le, Nat.reduceLeDiff, Nat.reduceAdd, Nat.reduceMul]
theorem c_had {t : Nat} (hh : gHl sh h) (ht : t < 4) : gcl (d + 1) 22 [.ref h, .int (nI t)] sh M Q = Q [.int (M (h + 1) (39 + t))] sh M := by
  obtain ⟨k1, k2, -, -, ⟨k5, k6⟩, -⟩ := hh
  rw [e22]
  simp (disch := omega) only [u22_0, u22_1, u22_4, u22_6, u22_7, u22_8, u22_9, k1, k2, k5, k6, gfv_s, gfv_n, gop1_s, nI_add, pk_mul, nIcl, vinT, nIle, nIlt, nIeq, true_and, and_true, List.cons_append, List.nil_append, List.length_nil, List.length_cons, Nat.zero_le, Nat.reduceLeDiff, Nat.reduceAdd, Nat.reduceMul]
theorem c_moved {t : Nat} (hh : gHl sh h) (ht : t < 4) : gcl (d + 1) 23 [.ref h, .int (nI t)] sh M Q = Q [.int (M (h + 1) (43 + t))] sh M := by
  obtain ⟨k1, k2, -, -, ⟨k5, k6⟩, -⟩ := hh
  rw [e23]
  simp (disch := omega) only [u23_0, u23_1, u23_4, u23_6, u23_7, u23_8, u23_9, k1, k2, k5, k6, gfv_s, gfv_n, gop1_s, nI_add, pk_mul, nIcl, vinT, nIle, nIlt, nIeq, true_and, and_true, List.cons_append, List.nil_append, List.length_nil, List.length_cons, Nat.zero_le, Nat.reduceLeDiff, Nat.reduceAdd, Nat.reduceMul]
theorem j_min {a b : Nat} (ha : a < 1000000) (hb : b < 1000000) (hQ : Q [.int (nI (if b < a then b else a))] sh M) : gcl (d + 1) 203 [.int (nI a), .int (nI b)] sh M Q := by
  rw [e203]
  simp (disch := omega) only [u203_0, u203_1, u203_2, u203_5, u203_6, u203_9, u203_10, gfv_s, gfv_n, gop1_s, nI_add, pk_mul, nIcl, vinT, nIle, nIlt, nIeq, true_and, and_true, List.cons_append, List.nil_append, List.length_nil, List.length_cons, Nat.zero_le, Nat.reduceLeDiff, Nat.reduceAdd, Nat.reduceMul]
  refine ⟨fun q => ?_, fun q => ?_⟩
  · rw [if_pos q] at hQ
    exact hQ
  · rw [if_neg q] at hQ
    exact hQ
theorem aLight_z : ∀ n, n < 16 → (4 - aPop n = 0 ↔ n = 15) := by decide +kernel
theorem c_gainOf {t : Nat} (hh : gHl sh h) (hT : cT (M (h + 1)) f) (hf : aWf f) (ht : t < f 2) (hQ : Q [.int (nI (aBy f t))] sh M) : gcl (d + 2) 48 [.ref h, .int (nI t)] sh M Q := by
  obtain ⟨k1, k2, k3, k4, ⟨k5, k6⟩, -⟩ := id hh
  obtain ⟨t1, t3, tt⟩ := id hT
  have h2 := hf.1.2.2.1
  obtain ⟨a1, a2, a3, a4⟩ := hf.2.1 t ht
  have ha := hf.2.2.2 (27 + t) (by omega)
  obtain ⟨b1, b2, b3, b4⟩ := tt t ht
  rcases (show f (6 + t) = 1 ∨ f (6 + t) = 2 ∨ f (6 + t) = 3 ∨ f (6 + t) = 4 ∨ f (6 + t) = 5 by omega) with e | e | e | e | e
  · rw [e48]
    simp (disch := first | omega | assumption) only [u48_0, u48_1, u48_2, u48_5_1, u48_5_2, u48_5_3, u48_5_4, u48_36, u48_37, u48_38, u48_39, u48_40, u48_43, u48_45, u48_48, u48_49, u48_52, u48_53, u48_54, u48_55, u48_56, u48_57, u48_60, u48_63, u48_65, u48_68, u48_69, u48_72, u48_73, u48_74, u48_75, u48_76, u48_77, k1, c_sort, b1, e, gfv_s, gfv_n, gop1_s, nI_add, pk_mul, nIcl, vinT, nIle, nIlt, nIeq, true_and, and_true, List.cons_append, List.nil_append, List.length_nil, List.length_cons, Nat.zero_le, Nat.reduceLeDiff, Nat.reduceAdd, Nat.reduceMul]
    rw [show aBy f t = 2 by simp [aBy, e]] at hQ
    exact hQ
  · rw [e48]
    simp (disch := first | omega | assumption) only [u48_0, u48_1, u48_2, u48_5_1, u48_5_2, u48_5_3, u48_5_4, u48_36, u48_37, u48_38, u48_39, u48_40, u48_43, u48_45, u48_48, u48_49, u48_52, u48_53, u48_54, u48_55, u48_56, u48_57, u48_60, u48_63, u48_65, u48_68, u48_69, u48_72, u48_73, u48_74, u48_75, u48_76, u48_77, k1, c_sort, c_age, b1, b4, e, gfv_s, gfv_n, gop1_s, nI_add, pk_mul, nIcl, vinT, nIle, nIlt, nIeq, true_and, and_true, List.cons_append, List.nil_append, List.length_nil, List.length_cons, Nat.zero_le, Nat.reduceLeDiff, Nat.reduceAdd, Nat.reduceMul]
    refine ⟨fun q => ?_, fun q => ?_⟩
    · rw [show aBy f t = 2 by simp [aBy, e]; omega] at hQ
      exact hQ
    · rw [show aBy f t = 1 by simp [aBy, e]; omega] at hQ
      exact hQ
  · rw [e48]
    simp (disch := first | omega | assumption) only [u48_0, u48_1, u48_2, u48_5_1, u48_5_2, u48_5_3, u48_5_4, u48_36, u48_37, u48_38, u48_39, u48_40, u48_43, u48_45, u48_48, u48_49, u48_52, u48_53, u48_54, u48_55, u48_56, u48_57, u48_60, u48_63, u48_65, u48_68, u48_69, u48_72, u48_73, u48_74, u48_75, u48_76, u48_77, k1, c_sort, c_spot, b1, b2, e, gfv_s, gfv_n, gop1_s, nI_add, pk_mul, nIcl, vinT, nIle, nIlt, nIeq, true_and, and_true, List.cons_append, List.nil_append, List.length_nil, List.length_cons, Nat.zero_le, Nat.reduceLeDiff, Nat.reduceAdd, Nat.reduceMul]
    refine c_shadeAt hh hT hf (by omega) ?_
    have h16 := aShade_lt f (f (13 + t))
    have hz := aLight_z _ h16
    simp (disch := first | omega | assumption) only [u48_0, u48_1, u48_2, u48_5_1, u48_5_2, u48_5_3, u48_5_4, u48_36, u48_37, u48_38, u48_39, u48_40, u48_43, u48_45, u48_48, u48_49, u48_52, u48_53, u48_54, u48_55, u48_56, u48_57, u48_60, u48_63, u48_65, u48_68, u48_69, u48_72, u48_73, u48_74, u48_75, u48_76, u48_77, gfv_s, gfv_n, gop1_s, nI_add, pk_mul, nIcl, vinT, nIle, nIlt, nIeq, true_and, and_true, List.cons_append, List.nil_append, List.length_nil, List.length_cons, Nat.zero_le, Nat.reduceLeDiff, Nat.reduceAdd, Nat.reduceMul]
    refine ⟨fun q => ?_, fun q => ?_⟩
    · rw [show aBy f t = 0 by simp [aBy, e, aLight]; omega] at hQ
      exact hQ
    · rw [show aBy f t = 2 by simp [aBy, e, aLight]; omega] at hQ
      exact hQ
  · rw [e48]
    simp (disch := first | omega | assumption) only [u48_0, u48_1, u48_2, u48_5_1, u48_5_2, u48_5_3, u48_5_4, u48_36, u48_37, u48_38, u48_39, u48_40, u48_43, u48_45, u48_48, u48_49, u48_52, u48_53, u48_54, u48_55, u48_56, u48_57, u48_60, u48_63, u48_65, u48_68, u48_69, u48_72, u48_73, u48_74, u48_75, u48_76, u48_77, k1, c_sort, b1, e, gfv_s, gfv_n, gop1_s, nI_add, pk_mul, nIcl, vinT, nIle, nIlt, nIeq, true_and, and_true, List.cons_append, List.nil_append, List.length_nil, List.length_cons, Nat.zero_le, Nat.reduceLeDiff, Nat.reduceAdd, Nat.reduceMul]
    rw [show aBy f t = 1 by simp [aBy, e]] at hQ
    exact hQ
  · rw [e48]
    simp (disch := first | omega | assumption) only [u48_0, u48_1, u48_2, u48_5_1, u48_5_2, u48_5_3, u48_5_4, u48_36, u48_37, u48_38, u48_39, u48_40, u48_43, u48_45, u48_48, u48_49, u48_52, u48_53, u48_54, u48_55, u48_56, u48_57, u48_60, u48_63, u48_65, u48_68, u48_69, u48_72, u48_73, u48_74, u48_75, u48_76, u48_77, k1, c_sort, b1, e, gfv_s, gfv_n, gop1_s, nI_add, pk_mul, nIcl, vinT, nIle, nIlt, nIeq, true_and, and_true, List.cons_append, List.nil_append, List.length_nil, List.length_cons, Nat.zero_le, Nat.reduceLeDiff, Nat.reduceAdd, Nat.reduceMul]
    rw [u48_5_d (by decide)]
    simp (disch := first | omega | assumption) only [u48_0, u48_1, u48_2, u48_5_1, u48_5_2, u48_5_3, u48_5_4, u48_36, u48_37, u48_38, u48_39, u48_40, u48_43, u48_45, u48_48, u48_49, u48_52, u48_53, u48_54, u48_55, u48_56, u48_57, u48_60, u48_63, u48_65, u48_68, u48_69, u48_72, u48_73, u48_74, u48_75, u48_76, u48_77, gfv_s, gfv_n, gop1_s, nI_add, pk_mul, nIcl, vinT, nIle, nIlt, nIeq, true_and, and_true, List.cons_append, List.nil_append, List.length_nil, List.length_cons, Nat.zero_le, Nat.reduceLeDiff, Nat.reduceAdd, Nat.reduceMul]
    rw [show aBy f t = 0 by simp [aBy, e]] at hQ
    exact hQ
/-- the trees after n of them have grown -/
theorem cT_c {r r' : Nat → Int32} (hT : cT r f) (he : ∀ k, k < 35 → r' k = r k) (h2 : f 2 ≤ 7) : cT r' f := by
  obtain ⟨t1, t3, tt⟩ := hT
  refine ⟨by rw [he 1 (by omega), t1], fun s hs => by rw [he _ (by omega), t3 s hs], fun t ht => ?_⟩
  rw [he _ (by omega), he _ (by omega), he _ (by omega), he _ (by omega)]
  exact tt t ht
theorem aGrowN_0 (f : Nat → Nat) : aGrowN f 0 = f := by
  funext k
  unfold aGrowN
  rw [if_neg (by omega), if_neg (by omega)]
theorem aGrowN_lo (f : Nat → Nat) (n : Nat) {k : Nat} (hk : k < 20) : aGrowN f n k = f k := by
  unfold aGrowN
  rw [if_neg (by omega), if_neg (by omega)]
theorem aGrowN_hi (f : Nat → Nat) {n : Nat} (hn : n ≤ 7) {k : Nat} (hk : 34 ≤ k) : aGrowN f n k = f k := by
  unfold aGrowN
  rw [if_neg (by omega), if_neg (by omega)]
theorem aFall_c {f g : Nat → Nat} (h0 : g 0 = f 0) (h1 : g 1 = f 1) (s : Nat) : aFall g s = aFall f s := by
  unfold aFall
  rw [h0, h1]
set_option maxHeartbeats 2000000 in
theorem c_growTrees (hh : gHl sh h) (hT : cT (M (h + 1)) f) (hf : aWf f) (hQ : ∀ M', cT (M' (h + 1)) (aGrow f) → (∀ k, k < 14 ∨ 35 ≤ k → M' (h + 1) k = M (h + 1) k) → (∀ a, a ≠ h + 1 → a ≠ h + 3 → M' a = M a) → Q [] sh M') : gcl (d + 3) 47 [.ref h] sh M Q := by
  obtain ⟨k1, k2, k3, k4, ⟨k5, k6⟩, -, k7, k8⟩ := id hh
  have h2 := hf.1.2.2.1
  have second : ∀ n t M2 l3, t + n = f 2 → cT (M2 (h + 1)) (aGrowN f t) → (∀ j, j < f 2 → M2 (h + 3) j = nI (aBy f j)) → (∀ k, k < 14 ∨ 35 ≤ k → M2 (h + 1) k = M (h + 1) k) → (∀ a, a ≠ h + 1 → a ≠ h + 3 → M2 a = M a) → gR (gcl (d + 2)) (0, fun _ => 0) 47 31 [some (.ref h), some (.int (nI (f 2))), some (.int (nI t)), l3] [] sh M2 0 0 Q := by
    intro n
    induction n with
    | zero =>
      intro t M2 l3 ht hT2 h37 hK hM
      obtain rfl : t = f 2 := by omega
      rw [u47_31]
      simp (disch := omega) only [u47_0, u47_1, u47_4, u47_5, u47_6, u47_8, u47_9, u47_12, u47_13, u47_16, u47_17, u47_18, u47_19, u47_22, u47_23, u47_26, u47_29, u47_30, u47_32, u47_33, u47_36, u47_37, u47_38, u47_41, u47_42, u47_45, u47_47, u47_50, u47_52, u47_53, u47_54, u47_55, u47_58, u47_59, u47_62, u47_63, u47_66, u47_68, u47_69, u47_70, u47_71, u47_72, u47_73, u47_76, u47_77, u47_80, u47_81, u47_82, u47_83, u47_86, u47_87, u47_88, u47_91, u47_93, u47_94, u47_95, u47_96, u47_97, u47_98, u47_99, u47_100, u47_103, u47_106, gfv_s, gfv_n, gop1_s, nI_add, pk_mul, nIcl, vinT, nIle, nIlt, nIeq, true_and, and_true, List.cons_append, List.nil_append, List.length_nil, List.length_cons, Nat.zero_le, Nat.reduceLeDiff, Nat.reduceAdd, Nat.reduceMul]
      exact ⟨fun _ => hQ M2 hT2 hK hM, fun q => (q (Nat.le_refl _)).elim⟩
    | succ n ih =>
      intro t M2 l3 ht hT2 h37 hK hM
      have e2 : aGrowN f t 2 = f 2 := aGrowN_lo f t (by omega)
      obtain ⟨t1, t3, tt⟩ := id hT2
      obtain ⟨b1, b2, b3, b4⟩ := tt t (by omega)
      rw [aGrowN_lo f t (by omega)] at b1
      rw [aGrowN_lo f t (by omega)] at b2
      have e20 : aGrowN f t (20 + t) = f (20 + t) := by unfold aGrowN; rw [if_neg (by omega), if_neg (by omega)]
      have e27 : aGrowN f t (27 + t) = f (27 + t) := by unfold aGrowN; rw [if_neg (by omega), if_neg (by omega)]
      rw [e20] at b3
      rw [e27] at b4
      obtain ⟨a1, a2, a3, a4⟩ := hf.2.1 t (by omega)
      have hbd := aBd_le f t
      have hby := aBy_le f t
      have hag := hf.2.2.2 (27 + t) (by omega)
      have fin : ∀ r : Nat → Int32, r (21 + t) = nI (aHi f t) → (∀ k, k ≠ 21 + t → r k = M2 (h + 1) k) → ∀ l3, gR (gcl (d + 2)) (0, fun _ => 0) 47 87 [some (.ref h), some (.int (nI (f 2))), some (.int (nI t)), l3] [] sh (gr M2 (h + 1) r) 0 0 Q := by
        intro r hr1 hr2 l3
        have hr28 : r (28 + t) = nI (f (27 + t)) := by rw [hr2 _ (by omega), b4]
        simp (disch := omega) only [u47_0, u47_1, u47_4, u47_5, u47_6, u47_8, u47_9, u47_12, u47_13, u47_16, u47_17, u47_18, u47_19, u47_22, u47_23, u47_26, u47_29, u47_30, u47_32, u47_33, u47_36, u47_37, u47_38, u47_41, u47_42, u47_45, u47_47, u47_50, u47_52, u47_53, u47_54, u47_55, u47_58, u47_59, u47_62, u47_63, u47_66, u47_68, u47_69, u47_70, u47_71, u47_72, u47_73, u47_76, u47_77, u47_80, u47_81, u47_82, u47_83, u47_86, u47_87, u47_88, u47_91, u47_93, u47_94, u47_95, u47_96, u47_97, u47_98, u47_99, u47_100, u47_103, u47_106, k1, k2, k5, k6, gr_at, gr_gr, hr28, gfv_s, gfv_n, gop1_s, nI_add, pk_mul, nIcl, vinT, nIle, nIlt, nIeq, true_and, and_true, List.cons_append, List.nil_append, List.length_nil, List.length_cons, Nat.zero_le, Nat.reduceLeDiff, Nat.reduceAdd, Nat.reduceMul]
        refine ih (t + 1) _ l3 (by omega) ?_ (fun j hj => ?_) (fun k hk => ?_) (fun a q1 q2 => ?_)
        · rw [gr_at]
          refine ⟨?_, fun s hs => ?_, fun j hj => ?_⟩
          · rw [upd_ne (by omega), hr2 _ (by omega), t1, aGrowN_lo _ _ (by omega), aGrowN_lo _ _ (by omega)]
          · rw [upd_ne (by omega), hr2 _ (by omega), t3 s hs]
            exact congrArg nI (aFall_c (by rw [aGrowN_lo _ _ (by omega), aGrowN_lo _ _ (by omega)]) (by rw [aGrowN_lo _ _ (by omega), aGrowN_lo _ _ (by omega)]) s)
          · rw [aGrowN_lo _ _ (by omega)] at hj
            obtain ⟨c1, c2, c3, c4⟩ := tt j (by omega)
            refine ⟨?_, ?_, ?_, ?_⟩
            · rw [upd_ne (by omega), hr2 _ (by omega), c1, aGrowN_lo _ _ (by omega), aGrowN_lo _ _ (by omega)]
            · rw [upd_ne (by omega), hr2 _ (by omega), c2, aGrowN_lo _ _ (by omega), aGrowN_lo _ _ (by omega)]
            · rw [upd_ne (by omega)]
              by_cases q : j = t
              · subst q
                rw [hr1]
                congr 1
                unfold aGrowN
                rw [if_pos (by omega), Nat.add_sub_cancel_left]
              · rw [hr2 _ (by omega), c3]
                congr 1
                unfold aGrowN
                (repeat' split) <;> first | rfl | omega
            · by_cases q : j = t
              · subst q
                rw [upd_at]
                congr 1
                unfold aGrowN
                rw [if_neg (by omega), if_pos (by omega)]
              · rw [upd_ne (by omega), hr2 _ (by omega), c4]
                congr 1
                unfold aGrowN
                (repeat' split) <;> first | rfl | omega
        · rw [gr_ne (by omega)]
          exact h37 j hj
        · rw [gr_at, upd_ne (by omega), hr2 _ (by omega)]
          exact hK k hk
        · rw [gr_ne q1]
          exact hM a q1 q2
      have c52 : gR (gcl (d + 2)) (0, fun _ => 0) 47 52 [some (.ref h), some (.int (nI (f 2))), some (.int (nI t)), l3] [.int (nI (aBd f t))] sh M2 0 0 Q := by
        simp (disch := first | omega | assumption) only [u47_0, u47_1, u47_4, u47_5, u47_6, u47_8, u47_9, u47_12, u47_13, u47_16, u47_17, u47_18, u47_19, u47_22, u47_23, u47_26, u47_29, u47_30, u47_32, u47_33, u47_36, u47_37, u47_38, u47_41, u47_42, u47_45, u47_47, u47_50, u47_52, u47_53, u47_54, u47_55, u47_58, u47_59, u47_62, u47_63, u47_66, u47_68, u47_69, u47_70, u47_71, u47_72, u47_73, u47_76, u47_77, u47_80, u47_81, u47_82, u47_83, u47_86, u47_88, u47_91, u47_93, u47_94, u47_95, u47_96, u47_97, u47_98, u47_99, u47_100, u47_103, u47_106, k1, k2, k4, k5, k6, k7, k8, c_high, b3, h37 t (by omega), gfv_s, gfv_n, gop1_s, nI_add, pk_mul, nIcl, vinT, nIle, nIlt, nIeq, true_and, and_true, List.cons_append, List.nil_append, List.length_nil, List.length_cons, Nat.zero_le, Nat.reduceLeDiff, Nat.reduceAdd, Nat.reduceMul]
        refine ⟨fun q => ?_, fun q => ?_⟩
        · have := fin (M2 (h + 1)) (by rw [b3]; congr 1; unfold aHi; rw [if_pos q]) (fun _ _ => rfl) (some (.int (nI (aBd f t))))
          rw [show gr M2 (h + 1) (M2 (h + 1)) = M2 by funext a; unfold gr; split <;> simp_all] at this
          exact this
        · refine j_min (by omega) (by omega) ?_
          simp (disch := first | omega | assumption) only [u47_0, u47_1, u47_4, u47_5, u47_6, u47_8, u47_9, u47_12, u47_13, u47_16, u47_17, u47_18, u47_19, u47_22, u47_23, u47_26, u47_29, u47_30, u47_32, u47_33, u47_36, u47_37, u47_38, u47_41, u47_42, u47_45, u47_47, u47_50, u47_52, u47_53, u47_54, u47_55, u47_58, u47_59, u47_62, u47_63, u47_66, u47_68, u47_69, u47_70, u47_71, u47_72, u47_73, u47_76, u47_77, u47_80, u47_81, u47_82, u47_83, u47_86, u47_88, u47_91, u47_93, u47_94, u47_95, u47_96, u47_97, u47_98, u47_99, u47_100, u47_103, u47_106, k1, k2, k4, k5, k6, k7, k8, gfv_s, gfv_n, gop1_s, nI_add, pk_mul, nIcl, vinT, nIle, nIlt, nIeq, true_and, and_true, List.cons_append, List.nil_append, List.length_nil, List.length_cons, Nat.zero_le, Nat.reduceLeDiff, Nat.reduceAdd, Nat.reduceMul]
          refine fin _ ?_ (fun k hk => upd_ne (by omega)) _
          rw [upd_at]
          congr 1
          unfold aHi
          rw [if_neg q]
          (repeat' split) <;> first | rfl | omega
      rw [u47_31]
      simp (disch := first | omega | assumption) only [u47_0, u47_1, u47_4, u47_5, u47_6, u47_8, u47_9, u47_12, u47_13, u47_16, u47_17, u47_18, u47_19, u47_22, u47_23, u47_26, u47_29, u47_30, u47_32, u47_33, u47_36, u47_37, u47_38, u47_41, u47_42, u47_45, u47_47, u47_50, u47_53, u47_54, u47_55, u47_58, u47_59, u47_62, u47_63, u47_66, u47_68, u47_69, u47_70, u47_71, u47_72, u47_73, u47_76, u47_77, u47_80, u47_81, u47_82, u47_83, u47_86, u47_87, u47_88, u47_91, u47_93, u47_94, u47_95, u47_96, u47_97, u47_98, u47_99, u47_100, u47_103, u47_106, k1, c_sort, b1, gfv_s, gfv_n, gop1_s, nI_add, pk_mul, nIcl, vinT, nIle, nIlt, nIeq, true_and, and_true, List.cons_append, List.nil_append, List.length_nil, List.length_cons, Nat.zero_le, Nat.reduceLeDiff, Nat.reduceAdd, Nat.reduceMul]
      refine ⟨fun q => absurd q (by omega), fun _ => ⟨fun q => ?_, fun q => ?_⟩⟩
      · rw [show aBd f t = 8 by unfold aBd; rw [if_pos (by omega)]] at c52
        exact c52
      · rw [show aBd f t = 60 by unfold aBd; rw [if_neg (by omega)]] at c52
        exact c52
  have first : ∀ n t M1 l3, t + n = f 2 → (∀ j, j < t → M1 (h + 3) j = nI (aBy f j)) → (∀ a, a ≠ h + 3 → M1 a = M a) → gR (gcl (d + 2)) (0, fun _ => 0) 47 7 [some (.ref h), some (.int (nI (f 2))), some (.int (nI t)), l3] [] sh M1 0 0 Q := by
    intro n
    induction n with
    | zero =>
      intro t M1 l3 ht h37 hM
      obtain rfl : t = f 2 := by omega
      rw [u47_7]
      simp (disch := omega) only [u47_0, u47_1, u47_4, u47_5, u47_6, u47_8, u47_9, u47_12, u47_13, u47_16, u47_17, u47_18, u47_19, u47_22, u47_23, u47_26, u47_29, u47_30, u47_32, u47_33, u47_36, u47_37, u47_38, u47_41, u47_42, u47_45, u47_47, u47_50, u47_52, u47_53, u47_54, u47_55, u47_58, u47_59, u47_62, u47_63, u47_66, u47_68, u47_69, u47_70, u47_71, u47_72, u47_73, u47_76, u47_77, u47_80, u47_81, u47_82, u47_83, u47_86, u47_87, u47_88, u47_91, u47_93, u47_94, u47_95, u47_96, u47_97, u47_98, u47_99, u47_100, u47_103, u47_106, gfv_s, gfv_n, gop1_s, nI_add, pk_mul, nIcl, vinT, nIle, nIlt, nIeq, true_and, and_true, List.cons_append, List.nil_append, List.length_nil, List.length_cons, Nat.zero_le, Nat.reduceLeDiff, Nat.reduceAdd, Nat.reduceMul]
      refine ⟨fun _ => ?_, fun q => (q (Nat.le_refl _)).elim⟩
      refine second (f 2) 0 M1 l3 (by omega) ?_ h37 (fun k _ => by rw [hM _ (by omega)]) (fun a _ q => hM a q)
      rw [aGrowN_0, hM _ (by omega)]
      exact hT
    | succ n ih =>
      intro t M1 l3 ht h37 hM
      rw [u47_7]
      simp (disch := omega) only [u47_0, u47_1, u47_4, u47_5, u47_6, u47_8, u47_9, u47_12, u47_13, u47_16, u47_17, u47_18, u47_19, u47_22, u47_23, u47_26, u47_29, u47_30, u47_32, u47_33, u47_36, u47_37, u47_38, u47_41, u47_42, u47_45, u47_47, u47_50, u47_52, u47_53, u47_54, u47_55, u47_58, u47_59, u47_62, u47_63, u47_66, u47_68, u47_69, u47_70, u47_71, u47_72, u47_73, u47_76, u47_77, u47_80, u47_81, u47_82, u47_83, u47_86, u47_87, u47_88, u47_91, u47_93, u47_94, u47_95, u47_96, u47_97, u47_98, u47_99, u47_100, u47_103, u47_106, k1, k4, gfv_s, gfv_n, gop1_s, nI_add, pk_mul, nIcl, vinT, nIle, nIlt, nIeq, true_and, and_true, List.cons_append, List.nil_append, List.length_nil, List.length_cons, Nat.zero_le, Nat.reduceLeDiff, Nat.reduceAdd, Nat.reduceMul]
      refine ⟨fun q => absurd q (by omega), fun _ => ?_⟩
      refine c_gainOf hh (by rw [hM _ (by omega)]; exact hT) hf (by omega) ?_
      simp (disch := omega) only [u47_0, u47_1, u47_4, u47_5, u47_6, u47_8, u47_9, u47_12, u47_13, u47_16, u47_17, u47_18, u47_19, u47_22, u47_23, u47_26, u47_29, u47_30, u47_32, u47_33, u47_36, u47_37, u47_38, u47_41, u47_42, u47_45, u47_47, u47_50, u47_52, u47_53, u47_54, u47_55, u47_58, u47_59, u47_62, u47_63, u47_66, u47_68, u47_69, u47_70, u47_71, u47_72, u47_73, u47_76, u47_77, u47_80, u47_81, u47_82, u47_83, u47_86, u47_87, u47_88, u47_91, u47_93, u47_94, u47_95, u47_96, u47_97, u47_98, u47_99, u47_100, u47_103, u47_106, k1, k4, k7, k8, gfv_s, gfv_n, gop1_s, nI_add, pk_mul, nIcl, vinT, nIle, nIlt, nIeq, true_and, and_true, List.cons_append, List.nil_append, List.length_nil, List.length_cons, Nat.zero_le, Nat.reduceLeDiff, Nat.reduceAdd, Nat.reduceMul]
      refine ih (t + 1) _ l3 (by omega) (fun j hj => ?_) (fun a ha => by rw [gr_ne ha]; exact hM a ha)
      rw [gr_at]
      by_cases q : j = t
      · rw [q, upd_at]
      · rw [upd_ne q]
        exact h37 j (by omega)
  rw [e47]
  simp (disch := first | omega | assumption) only [u47_0, u47_1, u47_4, u47_5, u47_6, u47_8, u47_9, u47_12, u47_13, u47_16, u47_17, u47_18, u47_19, u47_22, u47_23, u47_26, u47_29, u47_30, u47_32, u47_33, u47_36, u47_37, u47_38, u47_41, u47_42, u47_45, u47_47, u47_50, u47_52, u47_53, u47_54, u47_55, u47_58, u47_59, u47_62, u47_63, u47_66, u47_68, u47_69, u47_70, u47_71, u47_72, u47_73, u47_76, u47_77, u47_80, u47_81, u47_82, u47_83, u47_86, u47_87, u47_88, u47_91, u47_93, u47_94, u47_95, u47_96, u47_97, u47_98, u47_99, u47_100, u47_103, u47_106, k1, c_trees, hT.1, gfv_s, gfv_n, gop1_s, nI_add, pk_mul, nIcl, vinT, nIle, nIlt, nIeq, true_and, and_true, List.cons_append, List.nil_append, List.length_nil, List.length_cons, Nat.zero_le, Nat.reduceLeDiff, Nat.reduceAdd, Nat.reduceMul]
  exact first (f 2) 0 M none (by omega) (fun j hj => absurd hj (by omega)) (fun _ _ => rfl)
end G31
