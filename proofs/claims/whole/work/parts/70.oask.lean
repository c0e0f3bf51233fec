/-! calls on both sides: as, ask -/
theorem gro_1 (mi : Nat) (X : Nat × (Nat → Int32)) : gro mi X 1 = (6, gst1) := rfl
theorem gro_2 (mi : Nat) (X : Nat × (Nat → Int32)) : gro mi X 2 = (6, gst2) := rfl
theorem gro_3 (mi : Nat) (X : Nat × (Nat → Int32)) : gro mi X 3 = (6, gst3) := rfl
theorem s1_0 : gst1 0 = -1000000 := rfl
theorem s1_1 : gst1 1 = nI 0 := rfl
theorem s1_2 : gst1 2 = nI 1 := rfl
theorem s1_3 : gst1 3 = nI 1 := rfl
theorem s1_4 : gst1 4 = nI 0 := rfl
theorem s1_5 : gst1 5 = nI 4 := rfl
theorem s2_1 : gst2 1 = nI 11 := rfl
theorem s2_2 : gst2 2 = nI 12 := rfl
theorem s2_3 : gst2 3 = nI 0 := rfl
theorem s2_4 : gst2 4 = nI 13 := rfl
theorem s2_5 : gst2 5 = nI 14 := rfl
theorem s3_1 : gst3 1 = nI 21 := rfl
theorem s3_2 : gst3 2 = nI 24 := rfl
theorem s3_3 : gst3 3 = nI 22 := rfl
theorem s3_4 : gst3 4 = nI 23 := rfl
theorem s3_5 : gst3 5 = nI 0 := rfl
def aKd (s k : Nat) : Bool := decide (k = 0 ∨ s = k ∨ (k = 1 ∧ s < 4) ∨ (k = 4 ∧ s = 5))
def aBf (s w : Nat) : Nat := if w = 0 then (if s = 1 ∨ s = 3 then 11 else if s = 2 then 12 else if s = 4 then 13 else 14) else (if s = 1 then 21 else if s = 2 then 24 else if s = 3 then 22 else 23)
section G70
variable {d : Nat} {sh rs : gS} {M : gM} {Q : gQ} {x y z v w : Int32} {f : Nat → Nat}
theorem c_isOne {s k : Nat} (hs1 : 1 ≤ s) (hs5 : s ≤ 5) (hk : k ≤ 5) : gcl (d + 1) 6 [.int (nI s), .int (nI k)] sh M Q = Q [.int (gb (aKd s k))] sh M := by
  rw [e6]
  rcases (show s = 1 ∨ s = 2 ∨ s = 3 ∨ s = 4 ∨ s = 5 by omega) with rfl | rfl | rfl | rfl | rfl <;> rcases (show k = 0 ∨ k = 1 ∨ k = 2 ∨ k = 3 ∨ k = 4 ∨ k = 5 by omega) with rfl | rfl | rfl | rfl | rfl | rfl <;> (simp (disch := omega) only [u6_0, u6_1, u6_2, u6_3, u6_5, u6_8, u6_9, u6_12, u6_13, u6_16, u6_17, u6_20, u6_21, u6_24, u6_25, u6_26, u6_29, u6_30, u6_31, u6_34, u6_35, u6_36, u6_37, u6_40, u6_43, u6_44]; (repeat (rw [u6_4]; simp (disch := omega) only [u6_0, u6_1, u6_2, u6_3, u6_5, u6_8, u6_9, u6_12, u6_13, u6_16, u6_17, u6_20, u6_21, u6_24, u6_25, u6_26, u6_29, u6_30, u6_31, u6_34, u6_35, u6_36, u6_37, u6_40, u6_43, u6_44, gro_1, s1_0, s1_1, s1_2, s1_3, s1_4, s1_5, noneLt, gb_z, z0, z1, n11, true_or, false_or, nb0, nb1, gb_01, nlt0, nge0, neq0, ngt0, nle0, m1lt, m1ge, true_implies, false_implies, not_true_eq_false, not_false_eq_true, Bool.true_eq_false, Bool.false_eq_true, eq_self, and_self, Nat.reduceEqDiff, Nat.reduceLT, gfv_s, gfv_n, gop1_s, nI_add, pk_mul, nIcl, vinT, nIle, nIlt, nIeq, true_and, and_true, List.cons_append, List.nil_append, List.length_nil, List.length_cons, Nat.zero_le, Nat.reduceLeDiff, Nat.reduceAdd, Nat.reduceMul]))) <;> rfl
theorem m_isKind {s k : Nat} (hs1 : 1 ≤ s) (hs5 : s ≤ 5) (hk : k ≤ 5) : gcl (d + 1) 187 [.int (nI s), .int (nI k)] sh M Q = Q [.int (gb (aKd s k))] sh M := by
  rw [e187]
  rcases (show s = 1 ∨ s = 2 ∨ s = 3 ∨ s = 4 ∨ s = 5 by omega) with rfl | rfl | rfl | rfl | rfl <;> rcases (show k = 0 ∨ k = 1 ∨ k = 2 ∨ k = 3 ∨ k = 4 ∨ k = 5 by omega) with rfl | rfl | rfl | rfl | rfl | rfl <;> simp (disch := omega) only [u187_0, u187_1, u187_4, u187_5, u187_6, u187_9, u187_10, u187_11, u187_14, u187_15, u187_16, u187_19, u187_20, u187_21, u187_24, u187_25, u187_26, u187_29, u187_30, u187_33, u187_34, gb_z, z0, z1, n11, true_or, false_or, nb0, nb1, gb_01, nlt0, nge0, neq0, ngt0, nle0, m1lt, m1ge, true_implies, false_implies, not_true_eq_false, not_false_eq_true, Bool.true_eq_false, Bool.false_eq_true, eq_self, and_self, Nat.reduceEqDiff, Nat.reduceLT, gfv_s, gfv_n, gop1_s, nI_add, pk_mul, nIcl, vinT, nIle, nIlt, nIeq, true_and, and_true, List.cons_append, List.nil_append, List.length_nil, List.length_cons, Nat.zero_le, Nat.reduceLeDiff, Nat.reduceAdd, Nat.reduceMul] <;> rfl
theorem o_as (hI : gI M) : gcl (d + 20) 102 [.ref 0, .int x, .int y] (gSH ++ rs) M (gEo d 188 [.int x, .int y] rs) := by
  obtain ⟨f, ⟨hS, hO, h1, hok, h4, ht⟩⟩ := hI.1.2.2.1
  have hS' : ∀ k, k < 46 → M 33 k = nI (f k) := hS
  have h6 := hok.2.1
  have e2 := hS' 2 (by omega)
  rw [e102]
  cases hx : gHo x (f 2) 1
  · simp (disch := first | omega | assumption) only [u102_0, u102_1, u102_2, u102_5, u102_8, u102_9, u102_10, u102_13, u102_16, u102_18, u102_19, u102_20, u102_23, u102_24, u102_27, u102_28, u102_31, u102_34, u102_35, u102_36, u102_39, u102_40, u102_41, u102_42, u102_45, kc0, ks0_0, ks0_1, ks0_2, ks0_3, ks0_4, ks0_5, ks0_6, ks0_7, ks0_8, ks0_9, ks0_10, c_isTree h1, hx, kc0, kc1, kc13, kc15, kc19, kc23, kc27, kc29, gb_z, z0, z1, n11, true_or, false_or, nb0, nb1, gb_01, nlt0, nge0, neq0, ngt0, nle0, m1lt, m1ge, true_implies, false_implies, not_true_eq_false, not_false_eq_true, Bool.true_eq_false, Bool.false_eq_true, eq_self, and_self, Nat.reduceEqDiff, Nat.reduceLT, gfv_s, gfv_n, gop1_s, nI_add, pk_mul, nIcl, vinT, nIle, nIlt, nIeq, true_and, and_true, List.cons_append, List.nil_append, List.length_nil, List.length_cons, Nat.zero_le, Nat.reduceLeDiff, Nat.reduceAdd, Nat.reduceMul]
    refine gEo_i ?_
    rw [e188]
    simp (disch := first | omega | assumption) only [u188_0, u188_1, u188_2, u188_5, u188_8, u188_9, u188_10, u188_11, u188_14, u188_17, u188_20, u188_22, u188_23, u188_24, u188_27, u188_29, u188_30, u188_31, u188_32, u188_33, u188_36, u188_39, u188_40, u188_41, u188_44, u188_47, u188_48, u188_49, u188_52, kc29, ks29_0, ks29_1, ks29_2, ks29_3, ks29_4, ks29_5, ks29_6, ks29_7, ks29_8, ks29_9, ks29_10, ks29_11, ks29_12, ks29_13, ks29_14, ks29_15, ks29_16, ks29_17, ks29_18, ks29_19, ks29_20, ks29_21, ks29_22, ks29_23, ks29_24, m_isTree e2, hx, kc0, kc1, kc13, kc15, kc19, kc23, kc27, kc29, gb_z, z0, z1, n11, true_or, false_or, nb0, nb1, gb_01, nlt0, nge0, neq0, ngt0, nle0, m1lt, m1ge, true_implies, false_implies, not_true_eq_false, not_false_eq_true, Bool.true_eq_false, Bool.false_eq_true, eq_self, and_self, Nat.reduceEqDiff, Nat.reduceLT, gfv_s, gfv_n, gop1_s, nI_add, pk_mul, nIcl, vinT, nIle, nIlt, nIeq, true_and, and_true, List.cons_append, List.nil_append, List.length_nil, List.length_cons, Nat.zero_le, Nat.reduceLeDiff, Nat.reduceAdd, Nat.reduceMul]
    exact gFo_i hI
  cases hy : gIn y 0 5
  · simp (disch := first | omega | assumption) only [u102_0, u102_1, u102_2, u102_5, u102_8, u102_9, u102_10, u102_13, u102_16, u102_18, u102_19, u102_20, u102_23, u102_24, u102_27, u102_28, u102_31, u102_34, u102_35, u102_36, u102_39, u102_40, u102_41, u102_42, u102_45, kc0, ks0_0, ks0_1, ks0_2, ks0_3, ks0_4, ks0_5, ks0_6, ks0_7, ks0_8, ks0_9, ks0_10, c_isTree h1, hx, c_upTo, hy, kc0, kc1, kc13, kc15, kc19, kc23, kc27, kc29, gb_z, z0, z1, n11, true_or, false_or, nb0, nb1, gb_01, nlt0, nge0, neq0, ngt0, nle0, m1lt, m1ge, true_implies, false_implies, not_true_eq_false, not_false_eq_true, Bool.true_eq_false, Bool.false_eq_true, eq_self, and_self, Nat.reduceEqDiff, Nat.reduceLT, gfv_s, gfv_n, gop1_s, nI_add, pk_mul, nIcl, vinT, nIle, nIlt, nIeq, true_and, and_true, List.cons_append, List.nil_append, List.length_nil, List.length_cons, Nat.zero_le, Nat.reduceLeDiff, Nat.reduceAdd, Nat.reduceMul]
    refine gEo_i ?_
    rw [e188]
    simp (disch := first | omega | assumption) only [u188_0, u188_1, u188_2, u188_5, u188_8, u188_9, u188_10, u188_11, u188_14, u188_17, u188_20, u188_22, u188_23, u188_24, u188_27, u188_29, u188_30, u188_31, u188_32, u188_33, u188_36, u188_39, u188_40, u188_41, u188_44, u188_47, u188_48, u188_49, u188_52, kc29, ks29_0, ks29_1, ks29_2, ks29_3, ks29_4, ks29_5, ks29_6, ks29_7, ks29_8, ks29_9, ks29_10, ks29_11, ks29_12, ks29_13, ks29_14, ks29_15, ks29_16, ks29_17, ks29_18, ks29_19, ks29_20, ks29_21, ks29_22, ks29_23, ks29_24, m_isTree e2, hx, m_inN, hy, kc0, kc1, kc13, kc15, kc19, kc23, kc27, kc29, gb_z, z0, z1, n11, true_or, false_or, nb0, nb1, gb_01, nlt0, nge0, neq0, ngt0, nle0, m1lt, m1ge, true_implies, false_implies, not_true_eq_false, not_false_eq_true, Bool.true_eq_false, Bool.false_eq_true, eq_self, and_self, Nat.reduceEqDiff, Nat.reduceLT, gfv_s, gfv_n, gop1_s, nI_add, pk_mul, nIcl, vinT, nIle, nIlt, nIeq, true_and, and_true, List.cons_append, List.nil_append, List.length_nil, List.length_cons, Nat.zero_le, Nat.reduceLeDiff, Nat.reduceAdd, Nat.reduceMul]
    exact gFo_i hI
  obtain ⟨t, htt, rfl⟩ := gHo_t hx
  obtain ⟨k, -, hk, rfl⟩ := gIn_t hy
  obtain ⟨-, q2, -⟩ | ⟨q1, hT⟩ := ht
  · omega
  have et := (hT.2.2 t (by omega)).1
  have hw := hok.1.1.2.1 t (by omega)
  have k1 := hw.1
  have k5 := hw.2.1
  cases hd : aKd (f (6 + t)) k
  · simp (disch := first | omega | assumption) only [u102_0, u102_1, u102_2, u102_5, u102_8, u102_9, u102_10, u102_13, u102_16, u102_18, u102_19, u102_20, u102_23, u102_24, u102_27, u102_28, u102_31, u102_34, u102_35, u102_36, u102_39, u102_40, u102_41, u102_42, u102_45, kc0, ks0_0, ks0_1, ks0_2, ks0_3, ks0_4, ks0_5, ks0_6, ks0_7, ks0_8, ks0_9, ks0_10, kc15, ks15_0, ks15_1, ks15_2, c_isTree h1, hx, c_upTo, hy, c_sort (gHl_now rs), et, c_isOne, hd, c_found, kc0, kc1, kc13, kc15, kc19, kc23, kc27, kc29, gb_z, z0, z1, n11, true_or, false_or, nb0, nb1, gb_01, nlt0, nge0, neq0, ngt0, nle0, m1lt, m1ge, true_implies, false_implies, not_true_eq_false, not_false_eq_true, Bool.true_eq_false, Bool.false_eq_true, eq_self, and_self, Nat.reduceEqDiff, Nat.reduceLT, gfv_s, gfv_n, gop1_s, nI_add, pk_mul, nIcl, vinT, nIle, nIlt, nIeq, true_and, and_true, List.cons_append, List.nil_append, List.length_nil, List.length_cons, Nat.zero_le, Nat.reduceLeDiff, Nat.reduceAdd, Nat.reduceMul]
    refine gEo_i ?_
    rw [e188]
    have e2' : ∀ A : Nat → Int32, gr M 0 A 33 2 = nI (f 2) := fun A => by rw [gr_ne (by omega)]; exact e2
    have et' : ∀ A : Nat → Int32, gr M 0 A 33 (6 + t) = nI (f (6 + t)) := fun A => by rw [gr_ne (by omega)]; exact hS' _ (by omega)
    simp (disch := first | omega | assumption) only [u188_0, u188_1, u188_2, u188_5, u188_8, u188_9, u188_10, u188_11, u188_14, u188_17, u188_20, u188_22, u188_23, u188_24, u188_27, u188_29, u188_30, u188_31, u188_32, u188_33, u188_36, u188_39, u188_40, u188_41, u188_44, u188_47, u188_48, u188_49, u188_52, kc29, ks29_0, ks29_1, ks29_2, ks29_3, ks29_4, ks29_5, ks29_6, ks29_7, ks29_8, ks29_9, ks29_10, ks29_11, ks29_12, ks29_13, ks29_14, ks29_15, ks29_16, ks29_17, ks29_18, ks29_19, ks29_20, ks29_21, ks29_22, ks29_23, ks29_24, kk33, kl33, m_isTree (e2' _), hx, m_inN, hy, et', m_isKind, hd, m_find, kc0, kc1, kc13, kc15, kc19, kc23, kc27, kc29, gb_z, z0, z1, n11, true_or, false_or, nb0, nb1, gb_01, nlt0, nge0, neq0, ngt0, nle0, m1lt, m1ge, true_implies, false_implies, not_true_eq_false, not_false_eq_true, Bool.true_eq_false, Bool.false_eq_true, eq_self, and_self, Nat.reduceEqDiff, Nat.reduceLT, gfv_s, gfv_n, gop1_s, nI_add, pk_mul, nIcl, vinT, nIle, nIlt, nIeq, true_and, and_true, List.cons_append, List.nil_append, List.length_nil, List.length_cons, Nat.zero_le, Nat.reduceLeDiff, Nat.reduceAdd, Nat.reduceMul]
    exact gFo_i (gI_f hI.1)
  · simp (disch := first | omega | assumption) only [u102_0, u102_1, u102_2, u102_5, u102_8, u102_9, u102_10, u102_13, u102_16, u102_18, u102_19, u102_20, u102_23, u102_24, u102_27, u102_28, u102_31, u102_34, u102_35, u102_36, u102_39, u102_40, u102_41, u102_42, u102_45, kc0, ks0_0, ks0_1, ks0_2, ks0_3, ks0_4, ks0_5, ks0_6, ks0_7, ks0_8, ks0_9, ks0_10, kc15, ks15_0, ks15_1, ks15_2, c_isTree h1, hx, c_upTo, hy, c_sort (gHl_now rs), et, c_isOne, hd, c_fine, kc0, kc1, kc13, kc15, kc19, kc23, kc27, kc29, gb_z, z0, z1, n11, true_or, false_or, nb0, nb1, gb_01, nlt0, nge0, neq0, ngt0, nle0, m1lt, m1ge, true_implies, false_implies, not_true_eq_false, not_false_eq_true, Bool.true_eq_false, Bool.false_eq_true, eq_self, and_self, Nat.reduceEqDiff, Nat.reduceLT, gfv_s, gfv_n, gop1_s, nI_add, pk_mul, nIcl, vinT, nIle, nIlt, nIeq, true_and, and_true, List.cons_append, List.nil_append, List.length_nil, List.length_cons, Nat.zero_le, Nat.reduceLeDiff, Nat.reduceAdd, Nat.reduceMul]
    refine gEo_i ?_
    rw [e188]
    have e2' : ∀ A : Nat → Int32, gr M 0 A 33 2 = nI (f 2) := fun A => by rw [gr_ne (by omega)]; exact e2
    have et' : ∀ A : Nat → Int32, gr M 0 A 33 (6 + t) = nI (f (6 + t)) := fun A => by rw [gr_ne (by omega)]; exact hS' _ (by omega)
    simp (disch := first | omega | assumption) only [u188_0, u188_1, u188_2, u188_5, u188_8, u188_9, u188_10, u188_11, u188_14, u188_17, u188_20, u188_22, u188_23, u188_24, u188_27, u188_29, u188_30, u188_31, u188_32, u188_33, u188_36, u188_39, u188_40, u188_41, u188_44, u188_47, u188_48, u188_49, u188_52, kc29, ks29_0, ks29_1, ks29_2, ks29_3, ks29_4, ks29_5, ks29_6, ks29_7, ks29_8, ks29_9, ks29_10, ks29_11, ks29_12, ks29_13, ks29_14, ks29_15, ks29_16, ks29_17, ks29_18, ks29_19, ks29_20, ks29_21, ks29_22, ks29_23, ks29_24, kk33, kl33, m_isTree (e2' _), hx, m_inN, hy, et', m_isKind, hd, m_well, kc0, kc1, kc13, kc15, kc19, kc23, kc27, kc29, gb_z, z0, z1, n11, true_or, false_or, nb0, nb1, gb_01, nlt0, nge0, neq0, ngt0, nle0, m1lt, m1ge, true_implies, false_implies, not_true_eq_false, not_false_eq_true, Bool.true_eq_false, Bool.false_eq_true, eq_self, and_self, Nat.reduceEqDiff, Nat.reduceLT, gfv_s, gfv_n, gop1_s, nI_add, pk_mul, nIcl, vinT, nIle, nIlt, nIeq, true_and, and_true, List.cons_append, List.nil_append, List.length_nil, List.length_cons, Nat.zero_le, Nat.reduceLeDiff, Nat.reduceAdd, Nat.reduceMul]
    exact gFo_i (gI_f hI.1)
theorem c_bodyFor {s w : Nat} (hs1 : 1 ≤ s) (hs5 : s ≤ 5) (hw : w ≤ 1) : gcl (d + 1) 10 [.int (nI s), .int (nI w)] sh M Q = Q [.int (nI (aBf s w))] sh M := by
  rw [e10]
  rcases (show s = 1 ∨ s = 2 ∨ s = 3 ∨ s = 4 ∨ s = 5 by omega) with rfl | rfl | rfl | rfl | rfl <;> rcases (show w = 0 ∨ w = 1 by omega) with rfl | rfl <;> (simp (disch := omega) only [u10_0, u10_1, u10_4, u10_7, u10_10, u10_13, u10_13f, u10_14, u10_15, u10_16, u10_17, u10_21, u10_24, u10_25, u10_28, u10_29, u10_32, u10_33, u10_36, u10_37, u10_40, u10_40f, u10_41, u10_42, u10_43, u10_46, u10_46f, u10_47, u10_48, u10_49, u10_50, u10_53, u10_54, u10_55, u10_56, u10_59, u10_62, u10_62f, u10_63, u10_64, u10_65, gb_z, z0, z1, n11, true_or, false_or, nb0, nb1, gb_01, nlt0, nge0, neq0, ngt0, nle0, m1lt, m1ge, true_implies, false_implies, not_true_eq_false, not_false_eq_true, Bool.true_eq_false, Bool.false_eq_true, eq_self, and_self, Nat.reduceEqDiff, Nat.reduceLT]; (repeat (rw [u10_19]; simp (disch := omega) only [u10_0, u10_1, u10_4, u10_7, u10_10, u10_13, u10_13f, u10_14, u10_15, u10_16, u10_17, u10_21, u10_24, u10_25, u10_28, u10_29, u10_32, u10_33, u10_36, u10_37, u10_40, u10_40f, u10_41, u10_42, u10_43, u10_46, u10_46f, u10_47, u10_48, u10_49, u10_50, u10_53, u10_54, u10_55, u10_56, u10_59, u10_62, u10_62f, u10_63, u10_64, u10_65, gro_1, gro_2, gro_3, s1_0, s1_1, s1_2, s1_3, s1_4, s1_5, s2_1, s2_2, s2_3, s2_4, s2_5, s3_1, s3_2, s3_3, s3_4, s3_5, noneLt, gb_z, z0, z1, n11, true_or, false_or, nb0, nb1, gb_01, nlt0, nge0, neq0, ngt0, nle0, m1lt, m1ge, true_implies, false_implies, not_true_eq_false, not_false_eq_true, Bool.true_eq_false, Bool.false_eq_true, eq_self, and_self, Nat.reduceEqDiff, Nat.reduceLT, gfv_s, gfv_n, gop1_s, nI_add, pk_mul, nIcl, vinT, nIle, nIlt, nIeq, true_and, and_true, List.cons_append, List.nil_append, List.length_nil, List.length_cons, Nat.zero_le, Nat.reduceLeDiff, Nat.reduceAdd, Nat.reduceMul]))) <;> rfl
end G70
/-- the two traces, n numbers so far -/
def tC (M : gM) (n : Nat) (g : Nat → Int32) : gM := gr (gr M 28 (fun k => if k < n then g k else M 28 k)) 27 (upd (M 27) 1 (nI n))
def tM (M : gM) (n : Nat) (g : Nat → Int32) : gM := gr (gr M 42 (fun k => if k < n then g k else M 42 k)) 29 (upd (M 29) 24 (nI n))
theorem tC_ne {M : gM} {n a : Nat} {g : Nat → Int32} (h1 : a ≠ 27) (h2 : a ≠ 28) : tC M n g a = M a := by
  unfold tC
  rw [gr_ne h1, gr_ne h2]
theorem tM_ne {M : gM} {n a : Nat} {g : Nat → Int32} (h1 : a ≠ 29) (h2 : a ≠ 42) : tM M n g a = M a := by
  unfold tM
  rw [gr_ne h1, gr_ne h2]
theorem upd_upd {f : Nat → Int32} {k : Nat} {x y : Int32} : upd (upd f k x) k y = upd f k y := by
  funext j
  by_cases q : j = k
  · rw [q, upd_at, upd_at]
  · rw [upd_ne q, upd_ne q, upd_ne q]
theorem tC_27 {M : gM} {n : Nat} {g : Nat → Int32} : tC M n g 27 = upd (M 27) 1 (nI n) := gr_at
theorem tC_28 {M : gM} {n : Nat} {g : Nat → Int32} : tC M n g 28 = fun k => if k < n then g k else M 28 k := by
  unfold tC
  rw [gr_ne (by omega), gr_at]
theorem tM_29 {M : gM} {n : Nat} {g : Nat → Int32} : tM M n g 29 = upd (M 29) 24 (nI n) := gr_at
theorem tM_42 {M : gM} {n : Nat} {g : Nat → Int32} : tM M n g 42 = fun k => if k < n then g k else M 42 k := by
  unfold tM
  rw [gr_ne (by omega), gr_at]
theorem tr_p {r g : Nat → Int32} {n : Nat} {x : Int32} : upd (fun k => if k < n then g k else r k) n x = fun k => if k < n + 1 then upd g n x k else r k := by
  funext k
  by_cases q : k = n
  · rw [q, upd_at, if_pos (by omega), upd_at]
  · rw [upd_ne q]
    by_cases q2 : k < n
    · rw [if_pos q2, if_pos (by omega), upd_ne q]
    · rw [if_neg q2, if_neg (by omega)]
theorem tC_p {M : gM} {n : Nat} {g : Nat → Int32} {x : Int32} : gr (gr (tC M n g) 28 (upd (tC M n g 28) n x)) 27 (upd (tC M n g 27) 1 (nI (n + 1))) = tC M (n + 1) (upd g n x) := by
  funext a
  by_cases q : a = 27
  · rw [q, gr_at, tC_27, tC_27, upd_upd]
  · rw [gr_ne q]
    by_cases q2 : a = 28
    · rw [q2, gr_at, tC_28, tC_28, tr_p]
    · rw [gr_ne q2, tC_ne q q2, tC_ne q q2]
theorem tM_p {M : gM} {n : Nat} {g : Nat → Int32} {x : Int32} : gr (gr (tM M n g) 42 (upd (tM M n g 42) n x)) 29 (upd (tM M n g 29) 24 (nI (n + 1))) = tM M (n + 1) (upd g n x) := by
  funext a
  by_cases q : a = 29
  · rw [q, gr_at, tM_29, tM_29, upd_upd]
  · rw [gr_ne q]
    by_cases q2 : a = 42
    · rw [q2, gr_at, tM_42, tM_42, tr_p]
    · rw [gr_ne q2, tM_ne q q2, tM_ne q q2]
theorem tC_0 {M : gM} : gr M 27 (upd (M 27) 1 (nI 0)) = tC M 0 (fun _ => 0) := by
  funext a
  by_cases q : a = 27
  · rw [q, gr_at, tC_27]
  · rw [gr_ne q]
    by_cases q2 : a = 28
    · rw [q2, tC_28]
      funext k
      rw [if_neg (by omega)]
    · rw [tC_ne q q2]
theorem tM_0 {M : gM} : gr M 29 (upd (M 29) 24 (nI 0)) = tM M 0 (fun _ => 0) := by
  funext a
  by_cases q : a = 29
  · rw [q, gr_at, tM_29]
  · rw [gr_ne q]
    by_cases q2 : a = 42
    · rw [q2, tM_42]
      funext k
      rw [if_neg (by omega)]
    · rw [tM_ne q q2]
theorem gI_t {M : gM} {n : Nat} {g : Nat → Int32} (hI : gI M) (hn : n ≤ 16) : gI (tM (tC M n g) n g) := by
  obtain ⟨⟨b1, ⟨n2, b, b2⟩, ⟨f, b3⟩, ⟨a, m, G, b4⟩, b5, -, b7⟩, b8⟩ := hI
  have e : ∀ a, a ≠ 27 → a ≠ 28 → a ≠ 29 → a ≠ 42 → tM (tC M n g) n g a = M a := fun a w1 w2 w3 w4 => by rw [tM_ne w3 w4, tC_ne w1 w2]
  have e0 := e 0 (by omega) (by omega) (by omega) (by omega)
  have e29 : tM (tC M n g) n g 29 = upd (M 29) 24 (nI n) := by rw [tM_29, tC_ne (by omega) (by omega)]
  have e2 : ∀ a, (3 ≤ a ∧ a ≤ 26) ∨ (30 ≤ a ∧ a ≤ 41) → tM (tC M n g) n g a = M a := fun a ha => e a (by omega) (by omega) (by omega) (by omega)
  refine ⟨⟨fun r hr => gRw_c (b1 r hr) hr (fun c hc => e2 c (by omega)), ⟨n2, b, gTp_c b2 (by rw [e2 13 (by omega)]) (e2 14 (by omega)) (e2 35 (by omega)) (by rw [e29, upd_ne (by omega)])⟩, ⟨f, gHi_c b3 (e2 16 (by omega)) (e2 33 (by omega)) (by rw [e0]) (by rw [e29, upd_ne (by omega)])⟩, ⟨a, m, G, gAc_c b4 (e2 23 (by omega)) (e2 24 (by omega)) (e2 38 (by omega)) (by rw [e0]) (by rw [e29, upd_ne (by omega)])⟩, fun k hk => gIm_c (b5 k hk) (e2 25 (by omega)) (e2 26 (by omega)) (e2 40 (by omega)) (e2 41 (by omega)) (Or.inl (by rw [e0])), ⟨n, hn, ?_, by rw [e29, upd_at], fun i hi => ?_⟩, by rw [e0, e29, upd_ne (by omega)]; exact b7⟩, by rw [e0, e29, upd_ne (by omega)]; exact b8⟩
  · rw [tM_ne (by omega) (by omega), tC_27, upd_at]
  · rw [tM_ne (by omega) (by omega), tC_28, tM_42]
    simp only [if_pos hi]
theorem gFo_e {rs : gS} {x y : Int32} {M : gM} (h : y = x) (hI : gI M) : gFo rs x [.int y] (gSH ++ rs) M := ⟨by rw [h], rfl, hI⟩
section G70
variable {d : Nat} {sh rs : gS} {M : gM} {Q : gQ} {x y z v w : Int32} {f : Nat → Nat}
theorem c_leave {n : Nat} {g : Nat → Int32} (hn : n < 16) : gcl (d + 1) 12 [.ref 27, .int x] (gSH ++ rs) (tC M n g) Q = Q [] (gSH ++ rs) (tC M (n + 1) (upd g n x)) := by
  have e1 : tC M n g 27 1 = nI n := by rw [tC_27, upd_at]
  have e2 : ∀ A : Nat → Int32, gr (tC M n g) 28 A 27 = tC M n g 27 := fun A => gr_ne (by omega)
  have q : ¬ 16 ≤ n := by omega
  rw [e12]
  simp (disch := first | omega | assumption) only [u12_0, u12_1, u12_4, u12_6, u12_9, u12_10, u12_13, u12_14, u12_17, u12_18, u12_19, u12_20, u12_20i, u12_21, u12_24, u12_25, u12_26, u12_29, kc27, ks27_0, ks27_1, kk28, kl28, e1, e2, q, tC_p, kc0, kc1, kc13, kc15, kc19, kc23, kc27, kc29, gb_z, z0, z1, n11, true_or, false_or, nb0, nb1, gb_01, nlt0, nge0, neq0, ngt0, nle0, m1lt, m1ge, true_implies, false_implies, not_true_eq_false, not_false_eq_true, Bool.true_eq_false, Bool.false_eq_true, eq_self, and_self, Nat.reduceEqDiff, Nat.reduceLT, gfv_s, gfv_n, gop1_s, nI_add, pk_mul, nIcl, vinT, nIle, nIlt, nIeq, true_and, and_true, List.cons_append, List.nil_append, List.length_nil, List.length_cons, Nat.zero_le, Nat.reduceLeDiff, Nat.reduceAdd, Nat.reduceMul]
theorem m_begin {n : Nat} {g : Nat → Int32} (hn : n < 16) : gcl (d + 1) 189 [.ref 29, .int x] (gSH ++ rs) (tM M n g) Q = Q [] (gSH ++ rs) (tM M (n + 1) (upd g n x)) := by
  have e1 : tM M n g 29 24 = nI n := by rw [tM_29, upd_at]
  have e2 : ∀ A : Nat → Int32, gr (tM M n g) 42 A 29 = tM M n g 29 := fun A => gr_ne (by omega)
  have q : ¬ 16 ≤ n := by omega
  rw [e189]
  simp (disch := first | omega | assumption) only [u189_0, u189_1, u189_4, u189_6, u189_9, u189_10, u189_13, u189_14, u189_17, u189_18, u189_19, u189_20, u189_20i, u189_21, u189_24, u189_25, u189_26, u189_29, kc29, ks29_0, ks29_1, ks29_2, ks29_3, ks29_4, ks29_5, ks29_6, ks29_7, ks29_8, ks29_9, ks29_10, ks29_11, ks29_12, ks29_13, ks29_14, ks29_15, ks29_16, ks29_17, ks29_18, ks29_19, ks29_20, ks29_21, ks29_22, ks29_23, ks29_24, kk42, kl42, e1, e2, q, tM_p, kc0, kc1, kc13, kc15, kc19, kc23, kc27, kc29, gb_z, z0, z1, n11, true_or, false_or, nb0, nb1, gb_01, nlt0, nge0, neq0, ngt0, nle0, m1lt, m1ge, true_implies, false_implies, not_true_eq_false, not_false_eq_true, Bool.true_eq_false, Bool.false_eq_true, eq_self, and_self, Nat.reduceEqDiff, Nat.reduceLT, gfv_s, gfv_n, gop1_s, nI_add, pk_mul, nIcl, vinT, nIle, nIlt, nIeq, true_and, and_true, List.cons_append, List.nil_append, List.length_nil, List.length_cons, Nat.zero_le, Nat.reduceLeDiff, Nat.reduceAdd, Nat.reduceMul]
end G70
