/-! calls on both sides: row, set -/
theorem nar8 (v : Int32) : (v <<< (nI 24 &&& 31)) >>> (nI 24 &&& 31) = v.toInt8.toInt32 := by
  apply Int32.toBitVec_inj.1
  have e1 : ((nI 24 &&& 31).toBitVec.smod 32) = 24#32 := by decide
  have e2 : ((v <<< (nI 24 &&& 31)) >>> (nI 24 &&& 31)).toBitVec = (v.toBitVec <<< ((nI 24 &&& 31).toBitVec.smod 32)).sshiftRight ((nI 24 &&& 31).toBitVec.smod 32).toNat := rfl
  have e3 : v.toInt8.toInt32.toBitVec = (v.toBitVec.signExtend 8).signExtend 32 := rfl
  rw [e2, e3, e1]
  apply BitVec.eq_of_getLsbD_eq
  intro i hi
  have e4 : (24#32).toNat = 24 := rfl
  rw [BitVec.getLsbD_sshiftRight, BitVec.getLsbD_signExtend, BitVec.getLsbD_signExtend, e4, BitVec.shiftLeft_eq', e4, BitVec.getLsbD_shiftLeft, BitVec.msb_shiftLeft, BitVec.msb_signExtend]
  by_cases q : i < 8
  · simp [q, hi, show 24 + i < 32 by omega, show ¬ (24 + i < 24) by omega, show ¬ (32 ≤ i) by omega]
  · simp [q, hi, show ¬ 24 + i < 32 by omega, show ¬ (32 ≤ i) by omega]
theorem nar16 (v : Int32) : (v <<< (nI 16 &&& 31)) >>> (nI 16 &&& 31) = v.toInt16.toInt32 := by
  apply Int32.toBitVec_inj.1
  have e1 : ((nI 16 &&& 31).toBitVec.smod 32) = 16#32 := by decide
  have e2 : ((v <<< (nI 16 &&& 31)) >>> (nI 16 &&& 31)).toBitVec = (v.toBitVec <<< ((nI 16 &&& 31).toBitVec.smod 32)).sshiftRight ((nI 16 &&& 31).toBitVec.smod 32).toNat := rfl
  have e3 : v.toInt16.toInt32.toBitVec = (v.toBitVec.signExtend 16).signExtend 32 := rfl
  rw [e2, e3, e1]
  apply BitVec.eq_of_getLsbD_eq
  intro i hi
  have e4 : (16#32).toNat = 16 := rfl
  rw [BitVec.getLsbD_sshiftRight, BitVec.getLsbD_signExtend, BitVec.getLsbD_signExtend, e4, BitVec.shiftLeft_eq', e4, BitVec.getLsbD_shiftLeft, BitVec.msb_shiftLeft, BitVec.msb_signExtend]
  by_cases q : i < 16
  · simp [q, hi, show 16 + i < 32 by omega, show ¬ (16 + i < 16) by omega, show ¬ (32 ≤ i) by omega]
  · simp [q, hi, show ¬ 16 + i < 32 by omega, show ¬ (32 ≤ i) by omega]
theorem gI_h {M2 : gM} {x : Int32} {U : Nat → Int32} (h : gJ M2) (h0 : M2 0 10 = x) (e : U = M2 29) : gI (gr M2 29 (upd U 3 x)) := by
  subst e
  exact gI_g h h0
theorem hold_gb {x : Int32} {s m : Nat} (hs : s ≤ 40) (hm : m < 2147483648) : (if 0 ≤ x ∧ 0 ≤ nI m ∧ x ≤ nI s ∧ nI m ≤ nI s - x then nI 1 else nI 0) = gb (gHo x s m) := by
  have key : (0 ≤ x ∧ 0 ≤ nI m ∧ x ≤ nI s ∧ nI m ≤ nI s - x) ↔ gHo x s m = true := by
    unfold gHo
    rw [decide_eq_true_iff, xge0, nge0 hm, xle (by omega)]
    by_cases q : 0 ≤ x.toInt ∧ x.toInt ≤ s
    · obtain ⟨p, e1, e2, e3⟩ := xnI (x := x) q.1
      rw [e2] at q ⊢
      rw [e1, nIsub (by omega), nIle hm (by omega)]
      simp only [true_and]
      omega
    · simp only [true_and]
      constructor
      · rintro ⟨a, b, c⟩
        omega
      · rintro ⟨a, b⟩
        omega
  unfold gb
  by_cases q : gHo x s m = true
  · rw [if_pos q, if_pos (key.2 q)]
  · rw [if_neg q, if_neg (fun z => q (key.1 z))]
section G54
variable {d : Nat} {sh rs : gS} {M : gM} {Q : gQ} {x y z : Int32}
theorem m_asLane : gcl (d + 1) 130 [.int x, .int y] sh M Q = Q [.int (aNar x y)] sh M := by
  unfold aNar
  rw [e130]
  by_cases q0 : x = nI 0
  · subst q0
    simp (disch := first | omega | assumption) only [u130_0, u130_1, u130_4, u130_5, u130_7, u130_8, u130_10, u130_11, u130_14, u130_15, u130_16, u130_19, u130_20, u130_22, u130_23, u130_25, u130_26, u130_29, u130_30, nar8, if_true, kc0, kc1, kc13, kc15, kc19, kc23, kc27, kc29, gb_z, z0, z1, n11, true_or, false_or, nb0, nb1, gb_01, nlt0, nge0, neq0, ngt0, nle0, m1lt, m1ge, true_implies, false_implies, not_true_eq_false, not_false_eq_true, Bool.true_eq_false, Bool.false_eq_true, eq_self, and_self, Nat.reduceEqDiff, Nat.reduceLT, gfv_s, gfv_n, gop1_s, nI_add, pk_mul, nIcl, vinT, nIle, nIlt, nIeq, true_and, and_true, List.cons_append, List.nil_append, List.length_nil, List.length_cons, Nat.zero_le, Nat.reduceLeDiff, Nat.reduceAdd, Nat.reduceMul]
  · have q00 : ¬ x = 0 := q0
    by_cases q1 : x = nI 1
    · subst q1
      simp (disch := first | omega | assumption) only [u130_0, u130_1, u130_4, u130_5, u130_7, u130_8, u130_10, u130_11, u130_14, u130_15, u130_16, u130_19, u130_20, u130_22, u130_23, u130_25, u130_26, u130_29, u130_30, nar16, if_true, q0, if_false, kc0, kc1, kc13, kc15, kc19, kc23, kc27, kc29, gb_z, z0, z1, n11, true_or, false_or, nb0, nb1, gb_01, nlt0, nge0, neq0, ngt0, nle0, m1lt, m1ge, true_implies, false_implies, not_true_eq_false, not_false_eq_true, Bool.true_eq_false, Bool.false_eq_true, eq_self, and_self, Nat.reduceEqDiff, Nat.reduceLT, gfv_s, gfv_n, gop1_s, nI_add, pk_mul, nIcl, vinT, nIle, nIlt, nIeq, true_and, and_true, List.cons_append, List.nil_append, List.length_nil, List.length_cons, Nat.zero_le, Nat.reduceLeDiff, Nat.reduceAdd, Nat.reduceMul]
    · simp (disch := first | omega | assumption) only [u130_0, u130_1, u130_4, u130_5, u130_7, u130_8, u130_10, u130_11, u130_14, u130_15, u130_16, u130_19, u130_20, u130_22, u130_23, u130_25, u130_26, u130_29, u130_30, q00, q0, q1, if_false, kc0, kc1, kc13, kc15, kc19, kc23, kc27, kc29, gb_z, z0, z1, n11, true_or, false_or, nb0, nb1, gb_01, nlt0, nge0, neq0, ngt0, nle0, m1lt, m1ge, true_implies, false_implies, not_true_eq_false, not_false_eq_true, Bool.true_eq_false, Bool.false_eq_true, eq_self, and_self, Nat.reduceEqDiff, Nat.reduceLT, gfv_s, gfv_n, gop1_s, nI_add, pk_mul, nIcl, vinT, nIle, nIlt, nIeq, true_and, and_true, List.cons_append, List.nil_append, List.length_nil, List.length_cons, Nat.zero_le, Nat.reduceLeDiff, Nat.reduceAdd, Nat.reduceMul]
theorem m_row_ok {r n : Nat} (hr : r < 8) (hy : gIn y 0 2 = true) (hn : n ≤ 40) (hQ : ∀ M', M' 30 = upd (M 30) r y → M' 31 = upd (M 31) r (nI n) → (∀ k, k < 40 → M' 32 (40 * r + k) = nI 0) → (∀ k, k < 40 * r ∨ 40 * r + 40 ≤ k → M' 32 k = M 32 k) → M' 29 = upd (M 29) 3 (nI 0) → (∀ a, a ≠ 29 → a ≠ 30 → a ≠ 31 → a ≠ 32 → M' a = M a) → Q [.int (nI n)] (gSH ++ rs) M') : gcl (d + 4) 129 [.ref 29, .int (nI r), .int y, .int (nI n)] (gSH ++ rs) M Q := by
  have hx : gIn (nI r) 0 7 = true := by rw [gIn_n (by omega)]; exact decide_eq_true (by omega)
  have loop : ∀ m t M1, t + m = 40 → M1 30 = upd (M 30) r y → M1 31 = upd (M 31) r (nI n) → (∀ k, k < t → M1 32 (40 * r + k) = nI 0) → (∀ k, k < 40 * r ∨ 40 * r + 40 ≤ k → M1 32 k = M 32 k) → (∀ a, a ≠ 30 → a ≠ 31 → a ≠ 32 → M1 a = M a) → gR (gcl (d + 3)) (0, fun _ => 0) 129 55 [some (.ref 29), some (.int (nI r)), some (.int y), some (.int (nI n)), some (.int (nI t))] [] (gSH ++ rs) M1 0 0 Q := by
    intro m
    induction m with
    | zero =>
      intro t M1 ht h30 h31 h32 h32' hM
      obtain rfl : t = 40 := by omega
      rw [u129_55]
      simp (disch := first | omega | assumption) only [u129_0, u129_1, u129_4, u129_7, u129_8, u129_9, u129_10, u129_13, u129_16, u129_19, u129_20, u129_22, u129_25, u129_27, u129_28, u129_29, u129_32, u129_33, u129_34, u129_37, u129_38, u129_39, u129_42, u129_43, u129_44, u129_45, u129_46, u129_49, u129_50, u129_51, u129_52, u129_53, u129_57, u129_59, u129_62, u129_63, u129_66, u129_68, u129_69, u129_70, u129_72, u129_73, u129_74, u129_75, u129_78, u129_81, u129_82, u129_83, u129_86, kc29, ks29_0, ks29_1, ks29_2, ks29_3, ks29_4, ks29_5, ks29_6, ks29_7, ks29_8, ks29_9, ks29_10, ks29_11, ks29_12, ks29_13, ks29_14, ks29_15, ks29_16, ks29_17, ks29_18, ks29_19, ks29_20, ks29_21, ks29_22, ks29_23, ks29_24, m_well, kc0, kc1, kc13, kc15, kc19, kc23, kc27, kc29, gb_z, z0, z1, n11, true_or, false_or, nb0, nb1, gb_01, nlt0, nge0, neq0, ngt0, nle0, m1lt, m1ge, true_implies, false_implies, not_true_eq_false, not_false_eq_true, Bool.true_eq_false, Bool.false_eq_true, eq_self, and_self, Nat.reduceEqDiff, Nat.reduceLT, gfv_s, gfv_n, gop1_s, nI_add, pk_mul, nIcl, vinT, nIle, nIlt, nIeq, true_and, and_true, List.cons_append, List.nil_append, List.length_nil, List.length_cons, Nat.zero_le, Nat.reduceLeDiff, Nat.reduceAdd, Nat.reduceMul]
      refine hQ _ ?_ ?_ (fun k hk => ?_) (fun k hk => ?_) ?_ (fun a q1 q2 q3 q4 => ?_)
      · rw [gr_ne (by omega), h30]
      · rw [gr_ne (by omega), h31]
      · rw [gr_ne (by omega), h32 k hk]
      · rw [gr_ne (by omega), h32' k hk]
      · rw [gr_at, hM 29 (by omega) (by omega) (by omega)]
      · rw [gr_ne q1, hM a q2 q3 q4]
    | succ m ih =>
      intro t M1 ht h30 h31 h32 h32' hM
      have q : ¬ 40 ≤ t := by omega
      rw [u129_55]
      simp (disch := first | omega | assumption) only [u129_0, u129_1, u129_4, u129_7, u129_8, u129_9, u129_10, u129_13, u129_16, u129_19, u129_20, u129_22, u129_25, u129_27, u129_28, u129_29, u129_32, u129_33, u129_34, u129_37, u129_38, u129_39, u129_42, u129_43, u129_44, u129_45, u129_46, u129_49, u129_50, u129_51, u129_52, u129_53, u129_57, u129_59, u129_62, u129_63, u129_66, u129_68, u129_69, u129_70, u129_72, u129_73, u129_74, u129_75, u129_78, u129_81, u129_82, u129_83, u129_86, kc29, ks29_0, ks29_1, ks29_2, ks29_3, ks29_4, ks29_5, ks29_6, ks29_7, ks29_8, ks29_9, ks29_10, ks29_11, ks29_12, ks29_13, ks29_14, ks29_15, ks29_16, ks29_17, ks29_18, ks29_19, ks29_20, ks29_21, ks29_22, ks29_23, ks29_24, kk32, kl32, q, kc0, kc1, kc13, kc15, kc19, kc23, kc27, kc29, gb_z, z0, z1, n11, true_or, false_or, nb0, nb1, gb_01, nlt0, nge0, neq0, ngt0, nle0, m1lt, m1ge, true_implies, false_implies, not_true_eq_false, not_false_eq_true, Bool.true_eq_false, Bool.false_eq_true, eq_self, and_self, Nat.reduceEqDiff, Nat.reduceLT, gfv_s, gfv_n, gop1_s, nI_add, pk_mul, nIcl, vinT, nIle, nIlt, nIeq, true_and, and_true, List.cons_append, List.nil_append, List.length_nil, List.length_cons, Nat.zero_le, Nat.reduceLeDiff, Nat.reduceAdd, Nat.reduceMul]
      refine ih (t + 1) _ (by omega) (by rw [gr_ne (by omega), h30]) (by rw [gr_ne (by omega), h31]) (fun k hk => ?_) (fun k hk => ?_) (fun a q2 q3 q4 => by rw [gr_ne q4, hM a q2 q3 q4])
      · rw [gr_at]
        by_cases z : k = t
        · rw [z, upd_at]
        · rw [upd_ne (by omega), h32 k (by omega)]
      · rw [gr_at, upd_ne (by omega), h32' k hk]
  rw [e129]
  have hn1 : n ≤ 40 := hn
  simp (disch := first | omega | assumption) only [u129_0, u129_1, u129_4, u129_7, u129_8, u129_9, u129_10, u129_13, u129_16, u129_19, u129_20, u129_22, u129_25, u129_27, u129_28, u129_29, u129_32, u129_33, u129_34, u129_37, u129_38, u129_39, u129_42, u129_43, u129_44, u129_45, u129_46, u129_49, u129_50, u129_51, u129_52, u129_53, u129_57, u129_59, u129_62, u129_63, u129_66, u129_68, u129_69, u129_70, u129_72, u129_73, u129_74, u129_75, u129_78, u129_81, u129_82, u129_83, u129_86, kc29, ks29_0, ks29_1, ks29_2, ks29_3, ks29_4, ks29_5, ks29_6, ks29_7, ks29_8, ks29_9, ks29_10, ks29_11, ks29_12, ks29_13, ks29_14, ks29_15, ks29_16, ks29_17, ks29_18, ks29_19, ks29_20, ks29_21, ks29_22, ks29_23, ks29_24, kk30, kl30, kk31, kl31, kk32, kl32, m_isRow, hx, m_inN, hy, hn1, kc0, kc1, kc13, kc15, kc19, kc23, kc27, kc29, gb_z, z0, z1, n11, true_or, false_or, nb0, nb1, gb_01, nlt0, nge0, neq0, ngt0, nle0, m1lt, m1ge, true_implies, false_implies, not_true_eq_false, not_false_eq_true, Bool.true_eq_false, Bool.false_eq_true, eq_self, and_self, Nat.reduceEqDiff, Nat.reduceLT, gfv_s, gfv_n, gop1_s, nI_add, pk_mul, nIcl, vinT, nIle, nIlt, nIeq, true_and, and_true, List.cons_append, List.nil_append, List.length_nil, List.length_cons, Nat.zero_le, Nat.reduceLeDiff, Nat.reduceAdd, Nat.reduceMul]
  refine loop 40 0 _ (by omega) ?_ ?_ (fun k hk => absurd hk (by omega)) (fun k hk => ?_) (fun a q2 q3 q4 => ?_)
  · rw [gr_ne (by omega), gr_at]
  · rw [gr_at, gr_ne (by omega)]
  · rw [gr_ne (by omega), gr_ne (by omega)]
  · rw [gr_ne q3, gr_ne q2]
theorem o_row (hI : gI M) : gcl (d + 20) 75 [.ref 0, .int x, .int y, .int z] (gSH ++ rs) M (gEo d 129 [.int x, .int y, .int z] rs) := by
  rw [e75]
  cases hx : gIn x 0 7
  · simp (disch := first | omega | assumption) only [u75_0, u75_1, u75_3, u75_6, u75_9, u75_10, u75_11, u75_14, u75_17, u75_18, u75_20, u75_23, u75_25, u75_26, u75_27, u75_30, u75_31, u75_32, u75_35, u75_36, u75_37, u75_40, u75_41, u75_42, u75_43, u75_46, u75_47, u75_48, u75_51, kc0, ks0_0, ks0_1, ks0_2, ks0_3, ks0_4, ks0_5, ks0_6, ks0_7, ks0_8, ks0_9, ks0_10, c_upTo, hx, kc0, kc1, kc13, kc15, kc19, kc23, kc27, kc29, gb_z, z0, z1, n11, true_or, false_or, nb0, nb1, gb_01, nlt0, nge0, neq0, ngt0, nle0, m1lt, m1ge, true_implies, false_implies, not_true_eq_false, not_false_eq_true, Bool.true_eq_false, Bool.false_eq_true, eq_self, and_self, Nat.reduceEqDiff, Nat.reduceLT, gfv_s, gfv_n, gop1_s, nI_add, pk_mul, nIcl, vinT, nIle, nIlt, nIeq, true_and, and_true, List.cons_append, List.nil_append, List.length_nil, List.length_cons, Nat.zero_le, Nat.reduceLeDiff, Nat.reduceAdd, Nat.reduceMul]
    refine gEo_i ?_
    rw [e129]
    simp (disch := first | omega | assumption) only [u129_0, u129_1, u129_4, u129_7, u129_8, u129_9, u129_10, u129_13, u129_16, u129_19, u129_20, u129_22, u129_25, u129_27, u129_28, u129_29, u129_32, u129_33, u129_34, u129_37, u129_38, u129_39, u129_42, u129_43, u129_44, u129_45, u129_46, u129_49, u129_50, u129_51, u129_52, u129_53, u129_57, u129_59, u129_62, u129_63, u129_66, u129_68, u129_69, u129_70, u129_72, u129_73, u129_74, u129_75, u129_78, u129_81, u129_82, u129_83, u129_86, kc29, ks29_0, ks29_1, ks29_2, ks29_3, ks29_4, ks29_5, ks29_6, ks29_7, ks29_8, ks29_9, ks29_10, ks29_11, ks29_12, ks29_13, ks29_14, ks29_15, ks29_16, ks29_17, ks29_18, ks29_19, ks29_20, ks29_21, ks29_22, ks29_23, ks29_24, m_isRow, hx, kc0, kc1, kc13, kc15, kc19, kc23, kc27, kc29, gb_z, z0, z1, n11, true_or, false_or, nb0, nb1, gb_01, nlt0, nge0, neq0, ngt0, nle0, m1lt, m1ge, true_implies, false_implies, not_true_eq_false, not_false_eq_true, Bool.true_eq_false, Bool.false_eq_true, eq_self, and_self, Nat.reduceEqDiff, Nat.reduceLT, gfv_s, gfv_n, gop1_s, nI_add, pk_mul, nIcl, vinT, nIle, nIlt, nIeq, true_and, and_true, List.cons_append, List.nil_append, List.length_nil, List.length_cons, Nat.zero_le, Nat.reduceLeDiff, Nat.reduceAdd, Nat.reduceMul]
    exact gFo_i hI
  · cases hy : gIn y 0 2
    · simp (disch := first | omega | assumption) only [u75_0, u75_1, u75_3, u75_6, u75_9, u75_10, u75_11, u75_14, u75_17, u75_18, u75_20, u75_23, u75_25, u75_26, u75_27, u75_30, u75_31, u75_32, u75_35, u75_36, u75_37, u75_40, u75_41, u75_42, u75_43, u75_46, u75_47, u75_48, u75_51, kc0, ks0_0, ks0_1, ks0_2, ks0_3, ks0_4, ks0_5, ks0_6, ks0_7, ks0_8, ks0_9, ks0_10, c_upTo, hx, hy, kc0, kc1, kc13, kc15, kc19, kc23, kc27, kc29, gb_z, z0, z1, n11, true_or, false_or, nb0, nb1, gb_01, nlt0, nge0, neq0, ngt0, nle0, m1lt, m1ge, true_implies, false_implies, not_true_eq_false, not_false_eq_true, Bool.true_eq_false, Bool.false_eq_true, eq_self, and_self, Nat.reduceEqDiff, Nat.reduceLT, gfv_s, gfv_n, gop1_s, nI_add, pk_mul, nIcl, vinT, nIle, nIlt, nIeq, true_and, and_true, List.cons_append, List.nil_append, List.length_nil, List.length_cons, Nat.zero_le, Nat.reduceLeDiff, Nat.reduceAdd, Nat.reduceMul]
      refine gEo_i ?_
      rw [e129]
      simp (disch := first | omega | assumption) only [u129_0, u129_1, u129_4, u129_7, u129_8, u129_9, u129_10, u129_13, u129_16, u129_19, u129_20, u129_22, u129_25, u129_27, u129_28, u129_29, u129_32, u129_33, u129_34, u129_37, u129_38, u129_39, u129_42, u129_43, u129_44, u129_45, u129_46, u129_49, u129_50, u129_51, u129_52, u129_53, u129_57, u129_59, u129_62, u129_63, u129_66, u129_68, u129_69, u129_70, u129_72, u129_73, u129_74, u129_75, u129_78, u129_81, u129_82, u129_83, u129_86, kc29, ks29_0, ks29_1, ks29_2, ks29_3, ks29_4, ks29_5, ks29_6, ks29_7, ks29_8, ks29_9, ks29_10, ks29_11, ks29_12, ks29_13, ks29_14, ks29_15, ks29_16, ks29_17, ks29_18, ks29_19, ks29_20, ks29_21, ks29_22, ks29_23, ks29_24, m_isRow, hx, hy, m_inN, kc0, kc1, kc13, kc15, kc19, kc23, kc27, kc29, gb_z, z0, z1, n11, true_or, false_or, nb0, nb1, gb_01, nlt0, nge0, neq0, ngt0, nle0, m1lt, m1ge, true_implies, false_implies, not_true_eq_false, not_false_eq_true, Bool.true_eq_false, Bool.false_eq_true, eq_self, and_self, Nat.reduceEqDiff, Nat.reduceLT, gfv_s, gfv_n, gop1_s, nI_add, pk_mul, nIcl, vinT, nIle, nIlt, nIeq, true_and, and_true, List.cons_append, List.nil_append, List.length_nil, List.length_cons, Nat.zero_le, Nat.reduceLeDiff, Nat.reduceAdd, Nat.reduceMul]
      exact gFo_i hI
    · by_cases hz : z ≤ nI 40
      · by_cases hz0 : 0 ≤ z
        · obtain ⟨r, -, hr, rfl⟩ := gIn_t hx
          obtain ⟨l, -, hl, rfl⟩ := gIn_t hy
          obtain ⟨n, e1, e2, e3⟩ := xnI (x := z) (by rw [xge0] at hz0; exact hz0)
          have hn : n ≤ 40 := by rw [xle (by omega), e2] at hz; omega
          subst e1
          simp (disch := first | omega | assumption) only [u75_0, u75_1, u75_3, u75_6, u75_9, u75_10, u75_11, u75_14, u75_17, u75_18, u75_20, u75_23, u75_25, u75_26, u75_27, u75_30, u75_31, u75_32, u75_35, u75_36, u75_37, u75_40, u75_41, u75_42, u75_43, u75_46, u75_47, u75_48, u75_51, kc0, ks0_0, ks0_1, ks0_2, ks0_3, ks0_4, ks0_5, ks0_6, ks0_7, ks0_8, ks0_9, ks0_10, c_upTo, hx, hy, hn, kc0, kc1, kc13, kc15, kc19, kc23, kc27, kc29, gb_z, z0, z1, n11, true_or, false_or, nb0, nb1, gb_01, nlt0, nge0, neq0, ngt0, nle0, m1lt, m1ge, true_implies, false_implies, not_true_eq_false, not_false_eq_true, Bool.true_eq_false, Bool.false_eq_true, eq_self, and_self, Nat.reduceEqDiff, Nat.reduceLT, gfv_s, gfv_n, gop1_s, nI_add, pk_mul, nIcl, vinT, nIle, nIlt, nIeq, true_and, and_true, List.cons_append, List.nil_append, List.length_nil, List.length_cons, Nat.zero_le, Nat.reduceLeDiff, Nat.reduceAdd, Nat.reduceMul]
          refine c_make (by omega) (fun M1 a1 a2 a3 a4 => ?_)
          simp (disch := first | omega | assumption) only [u75_0, u75_1, u75_3, u75_6, u75_9, u75_10, u75_11, u75_14, u75_17, u75_18, u75_20, u75_23, u75_25, u75_26, u75_27, u75_30, u75_31, u75_32, u75_35, u75_36, u75_37, u75_40, u75_41, u75_42, u75_43, u75_46, u75_47, u75_48, u75_51, kc0, ks0_0, ks0_1, ks0_2, ks0_3, ks0_4, ks0_5, ks0_6, ks0_7, ks0_8, ks0_9, ks0_10, c_fine, kc0, kc1, kc13, kc15, kc19, kc23, kc27, kc29, gb_z, z0, z1, n11, true_or, false_or, nb0, nb1, gb_01, nlt0, nge0, neq0, ngt0, nle0, m1lt, m1ge, true_implies, false_implies, not_true_eq_false, not_false_eq_true, Bool.true_eq_false, Bool.false_eq_true, eq_self, and_self, Nat.reduceEqDiff, Nat.reduceLT, gfv_s, gfv_n, gop1_s, nI_add, pk_mul, nIcl, vinT, nIle, nIlt, nIeq, true_and, and_true, List.cons_append, List.nil_append, List.length_nil, List.length_cons, Nat.zero_le, Nat.reduceLeDiff, Nat.reduceAdd, Nat.reduceMul]
          refine gEo_i ?_
          refine m_row_ok (by omega) hy hn (fun M2 c1 c2 c3 c4 c5 c6 => ?_)
          have f1 : ∀ a, a ≠ 0 → a ≠ 11 → a ≠ 12 → a ≠ 3 + r → a ≠ 29 → a ≠ 30 → a ≠ 31 → a ≠ 32 → M2 a = M a := fun a q1 q2 q3 q4 q5 q6 q7 q8 => by rw [c6 a q5 q6 q7 q8, gr_ne q1, a4 a q2 q3 q4]
          have f0 : M2 0 = upd (M 0) 10 (nI 0) := by rw [c6 0 (by omega) (by omega) (by omega) (by omega), gr_at, a4 0 (by omega) (by omega) (by omega)]
          have f29 : M2 29 = upd (M 29) 3 (nI 0) := by rw [c5, gr_ne (by omega), a4 29 (by omega) (by omega) (by omega)]
          have f11 : M2 11 = upd (M 11) r (nI l) := by rw [c6 11 (by omega) (by omega) (by omega) (by omega), gr_ne (by omega), a1]
          have f12 : M2 12 = upd (M 12) r (nI n) := by rw [c6 12 (by omega) (by omega) (by omega) (by omega), gr_ne (by omega), a2]
          have f30 : M2 30 = upd (M 30) r (nI l) := by rw [c1, gr_ne (by omega), a4 30 (by omega) (by omega) (by omega)]
          have f31 : M2 31 = upd (M 31) r (nI n) := by rw [c2, gr_ne (by omega), a4 31 (by omega) (by omega) (by omega)]
          obtain ⟨b1, ⟨n2, b, b2⟩, ⟨f, b3⟩, ⟨a, m, G, b4⟩, b5, ⟨u, b6⟩, b7⟩ := hI.1
          refine gFo_i ⟨⟨fun s hs => ?_, ⟨n2, b, gTp_c b2 (by rw [f1 13 (by omega) (by omega) (by omega) (by omega) (by omega) (by omega) (by omega) (by omega)]) (f1 14 (by omega) (by omega) (by omega) (by omega) (by omega) (by omega) (by omega) (by omega)) (f1 35 (by omega) (by omega) (by omega) (by omega) (by omega) (by omega) (by omega) (by omega)) (by rw [f29]; rfl)⟩, ⟨f, gHi_c b3 (f1 16 (by omega) (by omega) (by omega) (by omega) (by omega) (by omega) (by omega) (by omega)) (f1 33 (by omega) (by omega) (by omega) (by omega) (by omega) (by omega) (by omega) (by omega)) (by rw [f0]; rfl) (by rw [f29]; rfl)⟩, ⟨a, m, G, gAc_c b4 (f1 23 (by omega) (by omega) (by omega) (by omega) (by omega) (by omega) (by omega) (by omega)) (f1 24 (by omega) (by omega) (by omega) (by omega) (by omega) (by omega) (by omega) (by omega)) (f1 38 (by omega) (by omega) (by omega) (by omega) (by omega) (by omega) (by omega) (by omega)) (by rw [f0]; rfl) (by rw [f29]; rfl)⟩, fun k hk => gIm_c (b5 k hk) (f1 25 (by omega) (by omega) (by omega) (by omega) (by omega) (by omega) (by omega) (by omega)) (f1 26 (by omega) (by omega) (by omega) (by omega) (by omega) (by omega) (by omega) (by omega)) (f1 40 (by omega) (by omega) (by omega) (by omega) (by omega) (by omega) (by omega) (by omega)) (f1 41 (by omega) (by omega) (by omega) (by omega) (by omega) (by omega) (by omega) (by omega)) (Or.inl (by rw [f0]; rfl)), ⟨u, gAk_c b6 (by rw [f1 27 (by omega) (by omega) (by omega) (by omega) (by omega) (by omega) (by omega) (by omega)]) (f1 28 (by omega) (by omega) (by omega) (by omega) (by omega) (by omega) (by omega) (by omega)) (f1 42 (by omega) (by omega) (by omega) (by omega) (by omega) (by omega) (by omega) (by omega)) (by rw [f29]; rfl)⟩, by rw [f0, f29]; exact b7⟩, by rw [f0, f29]; rfl⟩
          by_cases q : s = r
          · subst q
            refine Or.inr ⟨n, l, hn, hl, by rw [f11, upd_at], by rw [f12, upd_at], by rw [f30, upd_at], by rw [f31, upd_at], fun i hi => ?_⟩
            rw [c3 i hi, c6 (3 + s) (by omega) (by omega) (by omega) (by omega), gr_ne (by omega), a3 i hi]
          · have := b1 s hs
            unfold gRw at this ⊢
            rw [f11, f12, f30, f31, upd_ne q, upd_ne q, upd_ne q, upd_ne q, f1 (3 + s) (by omega) (by omega) (by omega) (by omega) (by omega) (by omega) (by omega) (by omega)]
            refine this.imp_right (fun ⟨n, l, v1, v2, v3, v4, v5, v6, v7⟩ => ⟨n, l, v1, v2, v3, v4, v5, v6, fun i hi => ?_⟩)
            rw [c4 _ (by omega), gr_ne (by omega), a4 32 (by omega) (by omega) (by omega)]
            exact v7 i hi
        · simp (disch := first | omega | assumption) only [u75_0, u75_1, u75_3, u75_6, u75_9, u75_10, u75_11, u75_14, u75_17, u75_18, u75_20, u75_23, u75_25, u75_26, u75_27, u75_30, u75_31, u75_32, u75_35, u75_36, u75_37, u75_40, u75_41, u75_42, u75_43, u75_46, u75_47, u75_48, u75_51, kc0, ks0_0, ks0_1, ks0_2, ks0_3, ks0_4, ks0_5, ks0_6, ks0_7, ks0_8, ks0_9, ks0_10, c_upTo, hx, hy, hz, hz0, c_found, kc0, kc1, kc13, kc15, kc19, kc23, kc27, kc29, gb_z, z0, z1, n11, true_or, false_or, nb0, nb1, gb_01, nlt0, nge0, neq0, ngt0, nle0, m1lt, m1ge, true_implies, false_implies, not_true_eq_false, not_false_eq_true, Bool.true_eq_false, Bool.false_eq_true, eq_self, and_self, Nat.reduceEqDiff, Nat.reduceLT, gfv_s, gfv_n, gop1_s, nI_add, pk_mul, nIcl, vinT, nIle, nIlt, nIeq, true_and, and_true, List.cons_append, List.nil_append, List.length_nil, List.length_cons, Nat.zero_le, Nat.reduceLeDiff, Nat.reduceAdd, Nat.reduceMul]
          refine gEo_i ?_
          rw [e129]
          simp (disch := first | omega | assumption) only [u129_0, u129_1, u129_4, u129_7, u129_8, u129_9, u129_10, u129_13, u129_16, u129_19, u129_20, u129_22, u129_25, u129_27, u129_28, u129_29, u129_32, u129_33, u129_34, u129_37, u129_38, u129_39, u129_42, u129_43, u129_44, u129_45, u129_46, u129_49, u129_50, u129_51, u129_52, u129_53, u129_57, u129_59, u129_62, u129_63, u129_66, u129_68, u129_69, u129_70, u129_72, u129_73, u129_74, u129_75, u129_78, u129_81, u129_82, u129_83, u129_86, kc29, ks29_0, ks29_1, ks29_2, ks29_3, ks29_4, ks29_5, ks29_6, ks29_7, ks29_8, ks29_9, ks29_10, ks29_11, ks29_12, ks29_13, ks29_14, ks29_15, ks29_16, ks29_17, ks29_18, ks29_19, ks29_20, ks29_21, ks29_22, ks29_23, ks29_24, m_isRow, hx, hy, m_inN, hz, hz0, m_find, kc0, kc1, kc13, kc15, kc19, kc23, kc27, kc29, gb_z, z0, z1, n11, true_or, false_or, nb0, nb1, gb_01, nlt0, nge0, neq0, ngt0, nle0, m1lt, m1ge, true_implies, false_implies, not_true_eq_false, not_false_eq_true, Bool.true_eq_false, Bool.false_eq_true, eq_self, and_self, Nat.reduceEqDiff, Nat.reduceLT, gfv_s, gfv_n, gop1_s, nI_add, pk_mul, nIcl, vinT, nIle, nIlt, nIeq, true_and, and_true, List.cons_append, List.nil_append, List.length_nil, List.length_cons, Nat.zero_le, Nat.reduceLeDiff, Nat.reduceAdd, Nat.reduceMul]
          exact gFo_i (gI_f hI.1)
      · simp (disch := first | omega | assumption) only [u75_0, u75_1, u75_3, u75_6, u75_9, u75_10, u75_11, u75_14, u75_17, u75_18, u75_20, u75_23, u75_25, u75_26, u75_27, u75_30, u75_31, u75_32, u75_35, u75_36, u75_37, u75_40, u75_41, u75_42, u75_43, u75_46, u75_47, u75_48, u75_51, kc0, ks0_0, ks0_1, ks0_2, ks0_3, ks0_4, ks0_5, ks0_6, ks0_7, ks0_8, ks0_9, ks0_10, c_upTo, hx, hy, hz, kc0, kc1, kc13, kc15, kc19, kc23, kc27, kc29, gb_z, z0, z1, n11, true_or, false_or, nb0, nb1, gb_01, nlt0, nge0, neq0, ngt0, nle0, m1lt, m1ge, true_implies, false_implies, not_true_eq_false, not_false_eq_true, Bool.true_eq_false, Bool.false_eq_true, eq_self, and_self, Nat.reduceEqDiff, Nat.reduceLT, gfv_s, gfv_n, gop1_s, nI_add, pk_mul, nIcl, vinT, nIle, nIlt, nIeq, true_and, and_true, List.cons_append, List.nil_append, List.length_nil, List.length_cons, Nat.zero_le, Nat.reduceLeDiff, Nat.reduceAdd, Nat.reduceMul]
        refine gEo_i ?_
        rw [e129]
        simp (disch := first | omega | assumption) only [u129_0, u129_1, u129_4, u129_7, u129_8, u129_9, u129_10, u129_13, u129_16, u129_19, u129_20, u129_22, u129_25, u129_27, u129_28, u129_29, u129_32, u129_33, u129_34, u129_37, u129_38, u129_39, u129_42, u129_43, u129_44, u129_45, u129_46, u129_49, u129_50, u129_51, u129_52, u129_53, u129_57, u129_59, u129_62, u129_63, u129_66, u129_68, u129_69, u129_70, u129_72, u129_73, u129_74, u129_75, u129_78, u129_81, u129_82, u129_83, u129_86, kc29, ks29_0, ks29_1, ks29_2, ks29_3, ks29_4, ks29_5, ks29_6, ks29_7, ks29_8, ks29_9, ks29_10, ks29_11, ks29_12, ks29_13, ks29_14, ks29_15, ks29_16, ks29_17, ks29_18, ks29_19, ks29_20, ks29_21, ks29_22, ks29_23, ks29_24, m_isRow, hx, hy, m_inN, hz, kc0, kc1, kc13, kc15, kc19, kc23, kc27, kc29, gb_z, z0, z1, n11, true_or, false_or, nb0, nb1, gb_01, nlt0, nge0, neq0, ngt0, nle0, m1lt, m1ge, true_implies, false_implies, not_true_eq_false, not_false_eq_true, Bool.true_eq_false, Bool.false_eq_true, eq_self, and_self, Nat.reduceEqDiff, Nat.reduceLT, gfv_s, gfv_n, gop1_s, nI_add, pk_mul, nIcl, vinT, nIle, nIlt, nIeq, true_and, and_true, List.cons_append, List.nil_append, List.length_nil, List.length_cons, Nat.zero_le, Nat.reduceLeDiff, Nat.reduceAdd, Nat.reduceMul]
        exact gFo_i hI
theorem o_set (hI : gI M) : gcl (d + 20) 76 [.ref 0, .int x, .int y, .int z] (gSH ++ rs) M (gEo d 131 [.int x, .int y, .int z] rs) := by
  rw [e76]
  cases hx : gIn x 0 7
  · simp (disch := first | omega | assumption) only [u76_0, u76_1, u76_3, u76_6, u76_9, u76_11, u76_12, u76_13, u76_16, u76_17, u76_20, u76_23, u76_24, u76_25, u76_28, u76_29, u76_30, u76_33, u76_34, u76_35, u76_36, u76_39, u76_42, u76_43, u76_44, u76_47, u76_48, u76_49, u76_50, u76_53, u76_54, u76_55, u76_56, u76_59, u76_62, kc0, ks0_0, ks0_1, ks0_2, ks0_3, ks0_4, ks0_5, ks0_6, ks0_7, ks0_8, ks0_9, ks0_10, c_upTo, hx, kc0, kc1, kc13, kc15, kc19, kc23, kc27, kc29, gb_z, z0, z1, n11, true_or, false_or, nb0, nb1, gb_01, nlt0, nge0, neq0, ngt0, nle0, m1lt, m1ge, true_implies, false_implies, not_true_eq_false, not_false_eq_true, Bool.true_eq_false, Bool.false_eq_true, eq_self, and_self, Nat.reduceEqDiff, Nat.reduceLT, gfv_s, gfv_n, gop1_s, nI_add, pk_mul, nIcl, vinT, nIle, nIlt, nIeq, true_and, and_true, List.cons_append, List.nil_append, List.length_nil, List.length_cons, Nat.zero_le, Nat.reduceLeDiff, Nat.reduceAdd, Nat.reduceMul]
    refine gEo_i ?_
    rw [e131]
    simp (disch := first | omega | assumption) only [u131_0, u131_1, u131_4, u131_7, u131_9, u131_10, u131_11, u131_14, u131_15, u131_16, u131_19, u131_20, u131_21, u131_24, u131_25, u131_26, u131_27, u131_28, u131_29, u131_32, u131_33, u131_34, u131_35, u131_36, u131_37, u131_40, u131_43, u131_44, u131_45, u131_48, u131_49, u131_50, u131_53, u131_55, u131_56, u131_57, u131_58, u131_59, u131_60, u131_63, u131_64, u131_65, u131_66, u131_69, u131_70, u131_71, u131_72, u131_75, u131_77, u131_78, u131_79, u131_80, u131_81, u131_82, u131_85, kc29, ks29_0, ks29_1, ks29_2, ks29_3, ks29_4, ks29_5, ks29_6, ks29_7, ks29_8, ks29_9, ks29_10, ks29_11, ks29_12, ks29_13, ks29_14, ks29_15, ks29_16, ks29_17, ks29_18, ks29_19, ks29_20, ks29_21, ks29_22, ks29_23, ks29_24, m_isRow, hx, kc0, kc1, kc13, kc15, kc19, kc23, kc27, kc29, gb_z, z0, z1, n11, true_or, false_or, nb0, nb1, gb_01, nlt0, nge0, neq0, ngt0, nle0, m1lt, m1ge, true_implies, false_implies, not_true_eq_false, not_false_eq_true, Bool.true_eq_false, Bool.false_eq_true, eq_self, and_self, Nat.reduceEqDiff, Nat.reduceLT, gfv_s, gfv_n, gop1_s, nI_add, pk_mul, nIcl, vinT, nIle, nIlt, nIeq, true_and, and_true, List.cons_append, List.nil_append, List.length_nil, List.length_cons, Nat.zero_le, Nat.reduceLeDiff, Nat.reduceAdd, Nat.reduceMul]
    exact gFo_i hI
  · obtain ⟨r, -, hr, rfl⟩ := gIn_t hx
    simp (disch := first | omega | assumption) only [u76_0, u76_1, u76_3, u76_6, u76_9, u76_11, u76_12, u76_13, u76_16, u76_17, u76_20, u76_23, u76_24, u76_25, u76_28, u76_29, u76_30, u76_33, u76_34, u76_35, u76_36, u76_39, u76_42, u76_43, u76_44, u76_47, u76_48, u76_49, u76_50, u76_53, u76_54, u76_55, u76_56, u76_59, u76_62, kc0, ks0_0, ks0_1, ks0_2, ks0_3, ks0_4, ks0_5, ks0_6, ks0_7, ks0_8, ks0_9, ks0_10, c_upTo, hx, kc0, kc1, kc13, kc15, kc19, kc23, kc27, kc29, gb_z, z0, z1, n11, true_or, false_or, nb0, nb1, gb_01, nlt0, nge0, neq0, ngt0, nle0, m1lt, m1ge, true_implies, false_implies, not_true_eq_false, not_false_eq_true, Bool.true_eq_false, Bool.false_eq_true, eq_self, and_self, Nat.reduceEqDiff, Nat.reduceLT, gfv_s, gfv_n, gop1_s, nI_add, pk_mul, nIcl, vinT, nIle, nIlt, nIeq, true_and, and_true, List.cons_append, List.nil_append, List.length_nil, List.length_cons, Nat.zero_le, Nat.reduceLeDiff, Nat.reduceAdd, Nat.reduceMul]
    refine c_isMissing (by omega) ?_
    obtain ⟨q11, q31⟩ | ⟨n, l, hn, hl, e11, e12, e30, e31, ei⟩ := hI.1.1 r (by omega)
    · rw [if_pos q11]
      simp (disch := first | omega | assumption) only [u76_0, u76_1, u76_3, u76_6, u76_9, u76_11, u76_12, u76_13, u76_16, u76_17, u76_20, u76_23, u76_24, u76_25, u76_28, u76_29, u76_30, u76_33, u76_34, u76_35, u76_36, u76_39, u76_42, u76_43, u76_44, u76_47, u76_48, u76_49, u76_50, u76_53, u76_54, u76_55, u76_56, u76_59, u76_62, kc0, ks0_0, ks0_1, ks0_2, ks0_3, ks0_4, ks0_5, ks0_6, ks0_7, ks0_8, ks0_9, ks0_10, c_found, kc0, kc1, kc13, kc15, kc19, kc23, kc27, kc29, gb_z, z0, z1, n11, true_or, false_or, nb0, nb1, gb_01, nlt0, nge0, neq0, ngt0, nle0, m1lt, m1ge, true_implies, false_implies, not_true_eq_false, not_false_eq_true, Bool.true_eq_false, Bool.false_eq_true, eq_self, and_self, Nat.reduceEqDiff, Nat.reduceLT, gfv_s, gfv_n, gop1_s, nI_add, pk_mul, nIcl, vinT, nIle, nIlt, nIeq, true_and, and_true, List.cons_append, List.nil_append, List.length_nil, List.length_cons, Nat.zero_le, Nat.reduceLeDiff, Nat.reduceAdd, Nat.reduceMul]
      refine gEo_i ?_
      rw [e131]
      simp (disch := first | omega | assumption) only [u131_0, u131_1, u131_4, u131_7, u131_9, u131_10, u131_11, u131_14, u131_15, u131_16, u131_19, u131_20, u131_21, u131_24, u131_25, u131_26, u131_27, u131_28, u131_29, u131_32, u131_33, u131_34, u131_35, u131_36, u131_37, u131_40, u131_43, u131_44, u131_45, u131_48, u131_49, u131_50, u131_53, u131_55, u131_56, u131_57, u131_58, u131_59, u131_60, u131_63, u131_64, u131_65, u131_66, u131_69, u131_70, u131_71, u131_72, u131_75, u131_77, u131_78, u131_79, u131_80, u131_81, u131_82, u131_85, kc29, ks29_0, ks29_1, ks29_2, ks29_3, ks29_4, ks29_5, ks29_6, ks29_7, ks29_8, ks29_9, ks29_10, ks29_11, ks29_12, ks29_13, ks29_14, ks29_15, ks29_16, ks29_17, ks29_18, ks29_19, ks29_20, ks29_21, ks29_22, ks29_23, ks29_24, kk31, kl31, m_isRow, hx, gr_ne, q31, m_find, kc0, kc1, kc13, kc15, kc19, kc23, kc27, kc29, gb_z, z0, z1, n11, true_or, false_or, nb0, nb1, gb_01, nlt0, nge0, neq0, ngt0, nle0, m1lt, m1ge, true_implies, false_implies, not_true_eq_false, not_false_eq_true, Bool.true_eq_false, Bool.false_eq_true, eq_self, and_self, Nat.reduceEqDiff, Nat.reduceLT, gfv_s, gfv_n, gop1_s, nI_add, pk_mul, nIcl, vinT, nIle, nIlt, nIeq, true_and, and_true, List.cons_append, List.nil_append, List.length_nil, List.length_cons, Nat.zero_le, Nat.reduceLeDiff, Nat.reduceAdd, Nat.reduceMul]
      exact gFo_i (gI_f hI.1)
    · rw [if_neg (by rw [e11]; exact nIm1 (by omega))]
      simp (disch := first | omega | assumption) only [u76_0, u76_1, u76_3, u76_6, u76_9, u76_11, u76_12, u76_13, u76_16, u76_17, u76_20, u76_23, u76_24, u76_25, u76_28, u76_29, u76_30, u76_33, u76_34, u76_35, u76_36, u76_39, u76_42, u76_43, u76_44, u76_47, u76_48, u76_49, u76_50, u76_53, u76_54, u76_55, u76_56, u76_59, u76_62, kc0, ks0_0, ks0_1, ks0_2, ks0_3, ks0_4, ks0_5, ks0_6, ks0_7, ks0_8, ks0_9, ks0_10, kc0, kc1, kc13, kc15, kc19, kc23, kc27, kc29, gb_z, z0, z1, n11, true_or, false_or, nb0, nb1, gb_01, nlt0, nge0, neq0, ngt0, nle0, m1lt, m1ge, true_implies, false_implies, not_true_eq_false, not_false_eq_true, Bool.true_eq_false, Bool.false_eq_true, eq_self, and_self, Nat.reduceEqDiff, Nat.reduceLT, gfv_s, gfv_n, gop1_s, nI_add, pk_mul, nIcl, vinT, nIle, nIlt, nIeq, true_and, and_true, List.cons_append, List.nil_append, List.length_nil, List.length_cons, Nat.zero_le, Nat.reduceLeDiff, Nat.reduceAdd, Nat.reduceMul]
      refine c_holds (by omega) e12 ?_
      rw [hold_gb hn (by omega)]
      cases hy : gHo y n 1
      · simp (disch := first | omega | assumption) only [u76_0, u76_1, u76_3, u76_6, u76_9, u76_11, u76_12, u76_13, u76_16, u76_17, u76_20, u76_23, u76_24, u76_25, u76_28, u76_29, u76_30, u76_33, u76_34, u76_35, u76_36, u76_39, u76_42, u76_43, u76_44, u76_47, u76_48, u76_49, u76_50, u76_53, u76_54, u76_55, u76_56, u76_59, u76_62, kc0, ks0_0, ks0_1, ks0_2, ks0_3, ks0_4, ks0_5, ks0_6, ks0_7, ks0_8, ks0_9, ks0_10, c_found, kc0, kc1, kc13, kc15, kc19, kc23, kc27, kc29, gb_z, z0, z1, n11, true_or, false_or, nb0, nb1, gb_01, nlt0, nge0, neq0, ngt0, nle0, m1lt, m1ge, true_implies, false_implies, not_true_eq_false, not_false_eq_true, Bool.true_eq_false, Bool.false_eq_true, eq_self, and_self, Nat.reduceEqDiff, Nat.reduceLT, gfv_s, gfv_n, gop1_s, nI_add, pk_mul, nIcl, vinT, nIle, nIlt, nIeq, true_and, and_true, List.cons_append, List.nil_append, List.length_nil, List.length_cons, Nat.zero_le, Nat.reduceLeDiff, Nat.reduceAdd, Nat.reduceMul]
        refine gEo_i ?_
        rw [e131]
        simp (disch := first | omega | assumption) only [u131_0, u131_1, u131_4, u131_7, u131_9, u131_10, u131_11, u131_14, u131_15, u131_16, u131_19, u131_20, u131_21, u131_24, u131_25, u131_26, u131_27, u131_28, u131_29, u131_32, u131_33, u131_34, u131_35, u131_36, u131_37, u131_40, u131_43, u131_44, u131_45, u131_48, u131_49, u131_50, u131_53, u131_55, u131_56, u131_57, u131_58, u131_59, u131_60, u131_63, u131_64, u131_65, u131_66, u131_69, u131_70, u131_71, u131_72, u131_75, u131_77, u131_78, u131_79, u131_80, u131_81, u131_82, u131_85, kc29, ks29_0, ks29_1, ks29_2, ks29_3, ks29_4, ks29_5, ks29_6, ks29_7, ks29_8, ks29_9, ks29_10, ks29_11, ks29_12, ks29_13, ks29_14, ks29_15, ks29_16, ks29_17, ks29_18, ks29_19, ks29_20, ks29_21, ks29_22, ks29_23, ks29_24, kk31, kl31, m_isRow, hx, gr_ne, e31, m_inS, hy, m_find, kc0, kc1, kc13, kc15, kc19, kc23, kc27, kc29, gb_z, z0, z1, n11, true_or, false_or, nb0, nb1, gb_01, nlt0, nge0, neq0, ngt0, nle0, m1lt, m1ge, true_implies, false_implies, not_true_eq_false, not_false_eq_true, Bool.true_eq_false, Bool.false_eq_true, eq_self, and_self, Nat.reduceEqDiff, Nat.reduceLT, gfv_s, gfv_n, gop1_s, nI_add, pk_mul, nIcl, vinT, nIle, nIlt, nIeq, true_and, and_true, List.cons_append, List.nil_append, List.length_nil, List.length_cons, Nat.zero_le, Nat.reduceLeDiff, Nat.reduceAdd, Nat.reduceMul]
        exact gFo_i (gI_f hI.1)
      · obtain ⟨i, hi, rfl⟩ := gHo_t hy
        simp (disch := first | omega | assumption) only [u76_0, u76_1, u76_3, u76_6, u76_9, u76_11, u76_12, u76_13, u76_16, u76_17, u76_20, u76_23, u76_24, u76_25, u76_28, u76_29, u76_30, u76_33, u76_34, u76_35, u76_36, u76_39, u76_42, u76_43, u76_44, u76_47, u76_48, u76_49, u76_50, u76_53, u76_54, u76_55, u76_56, u76_59, u76_62, kc0, ks0_0, ks0_1, ks0_2, ks0_3, ks0_4, ks0_5, ks0_6, ks0_7, ks0_8, ks0_9, ks0_10, kc1, ks1_0, ks1_1, ks1_2, c_put, c_fine, kc0, kc1, kc13, kc15, kc19, kc23, kc27, kc29, gb_z, z0, z1, n11, true_or, false_or, nb0, nb1, gb_01, nlt0, nge0, neq0, ngt0, nle0, m1lt, m1ge, true_implies, false_implies, not_true_eq_false, not_false_eq_true, Bool.true_eq_false, Bool.false_eq_true, eq_self, and_self, Nat.reduceEqDiff, Nat.reduceLT, gfv_s, gfv_n, gop1_s, nI_add, pk_mul, nIcl, vinT, nIle, nIlt, nIeq, true_and, and_true, List.cons_append, List.nil_append, List.length_nil, List.length_cons, Nat.zero_le, Nat.reduceLeDiff, Nat.reduceAdd, Nat.reduceMul]
        refine gEo_i ?_
        rw [e131]
        simp (disch := first | omega | assumption) only [u131_0, u131_1, u131_4, u131_7, u131_9, u131_10, u131_11, u131_14, u131_15, u131_16, u131_19, u131_20, u131_21, u131_24, u131_25, u131_26, u131_27, u131_28, u131_29, u131_32, u131_33, u131_34, u131_35, u131_36, u131_37, u131_40, u131_43, u131_44, u131_45, u131_48, u131_49, u131_50, u131_53, u131_55, u131_56, u131_57, u131_58, u131_59, u131_60, u131_63, u131_64, u131_65, u131_66, u131_69, u131_70, u131_71, u131_72, u131_75, u131_77, u131_78, u131_79, u131_80, u131_81, u131_82, u131_85, kc29, ks29_0, ks29_1, ks29_2, ks29_3, ks29_4, ks29_5, ks29_6, ks29_7, ks29_8, ks29_9, ks29_10, ks29_11, ks29_12, ks29_13, ks29_14, ks29_15, ks29_16, ks29_17, ks29_18, ks29_19, ks29_20, ks29_21, ks29_22, ks29_23, ks29_24, kk30, kl30, kk31, kl31, kk32, kl32, m_isRow, hx, gr_ne, gr_at, upd_at, e30, e31, m_inS, hy, m_asLane, m_well, kc0, kc1, kc13, kc15, kc19, kc23, kc27, kc29, gb_z, z0, z1, n11, true_or, false_or, nb0, nb1, gb_01, nlt0, nge0, neq0, ngt0, nle0, m1lt, m1ge, true_implies, false_implies, not_true_eq_false, not_false_eq_true, Bool.true_eq_false, Bool.false_eq_true, eq_self, and_self, Nat.reduceEqDiff, Nat.reduceLT, gfv_s, gfv_n, gop1_s, nI_add, pk_mul, nIcl, vinT, nIle, nIlt, nIeq, true_and, and_true, List.cons_append, List.nil_append, List.length_nil, List.length_cons, Nat.zero_le, Nat.reduceLeDiff, Nat.reduceAdd, Nat.reduceMul]
        rw [e11]
        refine gFo_i (gI_h ?_ (by rw [gr_ne (by omega), gr_at, upd_at]) (by rw [gr_ne (by omega), gr_ne (by omega), gr_ne (by omega)]))
        obtain ⟨b1, ⟨n2, b, b2⟩, ⟨f, b3⟩, ⟨a, m, G, b4⟩, b5, ⟨u, b6⟩, b7⟩ := hI.1
        have f1 : ∀ (A B C : Nat → Int32) a, a ≠ 0 → a ≠ 3 + r → a ≠ 32 → gr (gr (gr M (3 + r) A) 0 B) 32 C a = M a := fun A B C a q1 q2 q3 => by rw [gr_ne q3, gr_ne q1, gr_ne q2]
        have f0 : ∀ (A B C : Nat → Int32), gr (gr (gr M (3 + r) A) 0 B) 32 C 0 = B := fun A B C => by rw [gr_ne (by omega), gr_at]
        have g0 : gr M (3 + r) (upd (M (3 + r)) i (aNar (nI l) z)) 0 = M 0 := gr_ne (by omega)
        have g32 : ∀ B : Nat → Int32, gr (gr M (3 + r) (upd (M (3 + r)) i (aNar (nI l) z))) 0 B 32 = M 32 := fun B => by rw [gr_ne (by omega), gr_ne (by omega)]
        refine ⟨fun s hs => ?_, ⟨n2, b, gTp_c b2 (by rw [f1 _ _ _ 13 (by omega) (by omega) (by omega)]) (f1 _ _ _ 14 (by omega) (by omega) (by omega)) (f1 _ _ _ 35 (by omega) (by omega) (by omega)) (by rw [f1 _ _ _ 29 (by omega) (by omega) (by omega)])⟩, ⟨f, gHi_c b3 (f1 _ _ _ 16 (by omega) (by omega) (by omega)) (f1 _ _ _ 33 (by omega) (by omega) (by omega)) (by rw [f0, upd_ne (by omega)]) (by rw [f1 _ _ _ 29 (by omega) (by omega) (by omega)])⟩, ⟨a, m, G, gAc_c b4 (f1 _ _ _ 23 (by omega) (by omega) (by omega)) (f1 _ _ _ 24 (by omega) (by omega) (by omega)) (f1 _ _ _ 38 (by omega) (by omega) (by omega)) (by rw [f0, upd_ne (by omega)]) (by rw [f1 _ _ _ 29 (by omega) (by omega) (by omega)])⟩, fun k hk => gIm_c (b5 k hk) (f1 _ _ _ 25 (by omega) (by omega) (by omega)) (f1 _ _ _ 26 (by omega) (by omega) (by omega)) (f1 _ _ _ 40 (by omega) (by omega) (by omega)) (f1 _ _ _ 41 (by omega) (by omega) (by omega)) (Or.inl (by rw [f0, upd_ne (by omega)])), ⟨u, gAk_c b6 (by rw [f1 _ _ _ 27 (by omega) (by omega) (by omega)]) (f1 _ _ _ 28 (by omega) (by omega) (by omega)) (f1 _ _ _ 42 (by omega) (by omega) (by omega)) (by rw [f1 _ _ _ 29 (by omega) (by omega) (by omega)])⟩, by rw [f0, upd_ne (by omega), f1 _ _ _ 29 (by omega) (by omega) (by omega)]; exact b7⟩
        by_cases q : s = r
        · subst q
          refine Or.inr ⟨n, l, hn, hl, by rw [f1 _ _ _ 11 (by omega) (by omega) (by omega), e11], by rw [f1 _ _ _ 12 (by omega) (by omega) (by omega), e12], by rw [f1 _ _ _ 30 (by omega) (by omega) (by omega), e30], by rw [f1 _ _ _ 31 (by omega) (by omega) (by omega), e31], fun k hk => ?_⟩
          rw [gr_at, gr_ne (by omega), gr_ne (by omega), gr_at]
          by_cases z : k = i
          · rw [z, upd_at, upd_at]
          · rw [upd_ne z, upd_ne (by omega)]
            exact ei k hk
        · have := b1 s hs
          unfold gRw at this ⊢
          rw [f1 _ _ _ 11 (by omega) (by omega) (by omega), f1 _ _ _ 12 (by omega) (by omega) (by omega), f1 _ _ _ 30 (by omega) (by omega) (by omega), f1 _ _ _ 31 (by omega) (by omega) (by omega), f1 _ _ _ (3 + s) (by omega) (by omega) (by omega), gr_at]
          refine this.imp_right (fun ⟨n, l, v1, v2, v3, v4, v5, v6, v7⟩ => ⟨n, l, v1, v2, v3, v4, v5, v6, fun k hk => ?_⟩)
          rw [upd_ne (by omega)]
          exact v7 k hk
end G54
