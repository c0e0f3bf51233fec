/-! the class's reader: tokens passed, numbers -/
def tIs (b : Nat → Nat) (n e c : Nat) : Bool := decide (tK b n e = 1 ∧ b e = c)
def tS (b : Nat → Nat) (n e : Nat) : Nat := if tK b n e = 1 then (if b e = 102 then 1 else if b e = 111 then 2 else if b e = 108 then 3 else if b e = 98 then 4 else if b e = 109 then 5 else 0) else 0
theorem nIbit3 {n k : Nat} (hn : n < 2147483648) (hk : k < 31) : (nI n >>> (nI k &&& 31)) &&& nI 1 = nI (n / 2 ^ k % 2) := by
  have e : nI n >>> (nI k &&& 31) = nI (n / 2 ^ k) := by
    apply Int32.toBitVec_inj.1
    have e1 : ((nI k &&& 31).toBitVec.smod 32).toNat = k := by
      revert k
      decide +kernel
    have e2 : (nI n >>> (nI k &&& 31)).toBitVec = (nI n).toBitVec.sshiftRight ((nI k &&& 31).toBitVec.smod 32).toNat := rfl
    rw [e2, e1]
    have e3 : (nI n).toBitVec = BitVec.ofNat 32 n := rfl
    rw [BitVec.sshiftRight_eq_of_msb_false (by rw [e3, BitVec.msb_eq_false_iff_two_mul_lt, BitVec.toNat_ofNat]; omega)]
    apply BitVec.eq_of_toNat_eq
    rw [BitVec.toNat_ushiftRight, e3]
    show _ = (BitVec.ofNat 32 (n / 2 ^ k)).toNat
    rw [BitVec.toNat_ofNat, BitVec.toNat_ofNat, Nat.mod_eq_of_lt (by omega), Nat.shiftRight_eq_div_pow, Nat.mod_eq_of_lt]
    exact Nat.lt_of_le_of_lt (Nat.div_le_self _ _) (by omega)
  rw [e, nIand, Nat.and_one_is_mod]
theorem tIs_t {b : Nat → Nat} {n e c : Nat} (h : tIs b n e c = true) : tK b n e = 1 ∧ b e = c := of_decide_eq_true h
theorem tK_c {b : Nat → Nat} {n e : Nat} : tK b n e = 0 ∨ tK b n e = 1 ∨ tK b n e = 2 ∨ tK b n e = 3 := by
  have := tK_lt b n e
  omega
theorem tS_lt (b : Nat → Nat) (n e : Nat) : tS b n e ≤ 5 := by
  unfold tS
  (repeat' split) <;> omega
theorem tS_k {b : Nat → Nat} {n e : Nat} (h : tS b n e ≠ 0) : tK b n e = 1 := by
  unfold tS at h
  by_cases q : tK b n e = 1
  · exact q
  · rw [if_neg q] at h
    exact absurd rfl h
section G73
variable {d : Nat} {rs : gS} {M : gM} {Q : gQ} {x y z v w : Int32} {A n e : Nat} {b : Nat → Nat}
theorem c_advance (hA : gRe (gSH ++ rs) A) (h43 : 43 ≤ A) (ht : tpe M n b) (h3 : M A 3 = nI e) (he : e ≤ n) (hQ : ∀ M', cR M' A b n e → (∀ a, a ≠ A → M' a = M a) → Q [] (gSH ++ rs) M') : gcl (d + 3) 57 [.ref A] (gSH ++ rs) M Q := by
  have hA' := hA
  obtain ⟨k1, k2, k3, s2, s3, s4, s5, s6⟩ := hA'
  have hn := ht.1
  have h13 := ht.2.1
  have hz : ∀ A2 : Nat → Int32, tpe (gr M A A2) n b := fun A2 => tpe_c ht (gr_ne (by omega)) (gr_ne (by omega))
  have hr : ∀ A2 : Nat → Int32, gr M A A2 14 = M 14 := fun A2 => gr_ne (by omega)
  have hr13 : ∀ A2 : Nat → Int32, gr M A A2 13 = M 13 := fun A2 => gr_ne (by omega)
  rw [e57]
  by_cases q : e < n
  · have hb := (ht.2.2 e q).2
    have hb6 := (ht.2.2 e q).1
    have q0 : ¬ n ≤ e := by omega
    simp (disch := first | omega | assumption) only [u57_0, u57_1, u57_2, u57_5, u57_8, u57_9, u57_12, u57_13, u57_16, u57_19, u57_22, u57_23, u57_24, u57_27, u57_28, u57_29, u57_32, u57_33, u57_36, u57_39, u57_42, u57_43, u57_46, u57_47, u57_48, u57_51, u57_54, u57_55, u57_58, u57_59, u57_60, u57_61, u57_63, u57_66, u57_67, u57_69, u57_72, u57_73, u57_75, u57_78, u57_79, u57_81, u57_84, u57_85, u57_88, u57_89, u57_90, u57_91, u57_92, u57_95, u57_96, u57_99, u57_101, u57_104, u57_105, u57_106, u57_109, u57_110, u57_111, u57_114, kc13, ks13_0, ks13_1, k1, k2, s2, s3, s4, s5, gr_at, gr_gr, upd_at, upd_ne, h3, hr13, h13, q, kc0, kc1, kc13, kc15, kc19, kc23, kc27, kc29, gb_z, z0, z1, n11, true_or, false_or, nb0, nb1, gb_01, nlt0, nge0, neq0, ngt0, nle0, m1lt, m1ge, true_implies, false_implies, not_true_eq_false, not_false_eq_true, Bool.true_eq_false, Bool.false_eq_true, eq_self, and_self, Nat.reduceEqDiff, Nat.reduceLT, gfv_s, gfv_n, gop1_s, nI_add, pk_mul, nIcl, vinT, nIle, nIlt, nIeq, true_and, and_true, List.cons_append, List.nil_append, List.length_nil, List.length_cons, Nat.zero_le, Nat.reduceLeDiff, Nat.reduceAdd, Nat.reduceMul]
    refine c_fig (hz _) (by omega) ?_
    cases hf : fg b n e with
    | true =>
      simp (disch := first | omega | assumption) only [u57_0, u57_1, u57_2, u57_5, u57_8, u57_9, u57_12, u57_13, u57_16, u57_19, u57_22, u57_23, u57_24, u57_27, u57_28, u57_29, u57_32, u57_33, u57_36, u57_39, u57_42, u57_43, u57_46, u57_47, u57_48, u57_51, u57_54, u57_55, u57_58, u57_59, u57_60, u57_61, u57_63, u57_66, u57_67, u57_69, u57_72, u57_73, u57_75, u57_78, u57_79, u57_81, u57_84, u57_85, u57_88, u57_89, u57_90, u57_91, u57_92, u57_95, u57_96, u57_99, u57_101, u57_104, u57_105, u57_106, u57_109, u57_110, u57_111, u57_114, kc13, ks13_0, ks13_1, k1, kc0, kc1, kc13, kc15, kc19, kc23, kc27, kc29, gb_z, z0, z1, n11, true_or, false_or, nb0, nb1, gb_01, nlt0, nge0, neq0, ngt0, nle0, m1lt, m1ge, true_implies, false_implies, not_true_eq_false, not_false_eq_true, Bool.true_eq_false, Bool.false_eq_true, eq_self, and_self, Nat.reduceEqDiff, Nat.reduceLT, gfv_s, gfv_n, gop1_s, nI_add, pk_mul, nIcl, vinT, nIle, nIlt, nIeq, true_and, and_true, List.cons_append, List.nil_append, List.length_nil, List.length_cons, Nat.zero_le, Nat.reduceLeDiff, Nat.reduceAdd, Nat.reduceMul]
      refine c_readFigures hA h43 (hz _) (by rw [gr_at, upd_at]) (by rw [gr_at, upd_ne (by omega), h3]) hf (fun M1 a1 a2 => ?_)
      simp (disch := first | omega | assumption) only [u57_0, u57_1, u57_2, u57_5, u57_8, u57_9, u57_12, u57_13, u57_16, u57_19, u57_22, u57_23, u57_24, u57_27, u57_28, u57_29, u57_32, u57_33, u57_36, u57_39, u57_42, u57_43, u57_46, u57_47, u57_48, u57_51, u57_54, u57_55, u57_58, u57_59, u57_60, u57_61, u57_63, u57_66, u57_67, u57_69, u57_72, u57_73, u57_75, u57_78, u57_79, u57_81, u57_84, u57_85, u57_88, u57_89, u57_90, u57_91, u57_92, u57_95, u57_96, u57_99, u57_101, u57_104, u57_105, u57_106, u57_109, u57_110, u57_111, u57_114, kc0, kc1, kc13, kc15, kc19, kc23, kc27, kc29, gb_z, z0, z1, n11, true_or, false_or, nb0, nb1, gb_01, nlt0, nge0, neq0, ngt0, nle0, m1lt, m1ge, true_implies, false_implies, not_true_eq_false, not_false_eq_true, Bool.true_eq_false, Bool.false_eq_true, eq_self, and_self, Nat.reduceEqDiff, Nat.reduceLT, gfv_s, gfv_n, gop1_s, nI_add, pk_mul, nIcl, vinT, nIle, nIlt, nIeq, true_and, and_true, List.cons_append, List.nil_append, List.length_nil, List.length_cons, Nat.zero_le, Nat.reduceLeDiff, Nat.reduceAdd, Nat.reduceMul]
      exact hQ M1 a1 (fun a ha => by rw [a2 a ha, gr_ne ha])
    | false =>
      have vl := tVN_l hf
      have key : ∀ (k : Bool) l1, lt (b e) = k → gR (gcl (d + 2)) (0, fun _ => 0) 57 89 [some (.ref A), some (.int (nI (b e))), l1] [.int (gb k)] (gSH ++ rs) (gr M A (upd (M A) 2 (nI e))) 0 0 Q := by
        intro k l1 hk
        cases k with
        | true =>
          simp (disch := first | omega | assumption) only [u57_0, u57_1, u57_2, u57_5, u57_8, u57_9, u57_12, u57_13, u57_16, u57_19, u57_22, u57_23, u57_24, u57_27, u57_28, u57_29, u57_32, u57_33, u57_36, u57_39, u57_42, u57_43, u57_46, u57_47, u57_48, u57_51, u57_54, u57_55, u57_58, u57_59, u57_60, u57_61, u57_63, u57_66, u57_67, u57_69, u57_72, u57_73, u57_75, u57_78, u57_79, u57_81, u57_84, u57_85, u57_88, u57_89, u57_90, u57_91, u57_92, u57_95, u57_96, u57_99, u57_101, u57_104, u57_105, u57_106, u57_109, u57_110, u57_111, u57_114, k1, s2, s3, s4, gr_at, gr_gr, upd_at, upd_ne, kc0, kc1, kc13, kc15, kc19, kc23, kc27, kc29, gb_z, z0, z1, n11, true_or, false_or, nb0, nb1, gb_01, nlt0, nge0, neq0, ngt0, nle0, m1lt, m1ge, true_implies, false_implies, not_true_eq_false, not_false_eq_true, Bool.true_eq_false, Bool.false_eq_true, eq_self, and_self, Nat.reduceEqDiff, Nat.reduceLT, gfv_s, gfv_n, gop1_s, nI_add, pk_mul, nIcl, vinT, nIle, nIlt, nIeq, true_and, and_true, List.cons_append, List.nil_append, List.length_nil, List.length_cons, Nat.zero_le, Nat.reduceLeDiff, Nat.reduceAdd, Nat.reduceMul]
          have hkk := tK_l q0 hf hk
          refine hQ _ ⟨by rw [gr_at, upd_ne (by omega), upd_ne (by omega), upd_at], fun z => by rw [hkk] at z; omega, fun z => by rw [hkk] at z; omega, fun _ => ⟨by rw [gr_at, upd_ne (by omega), upd_at], by rw [gr_at, upd_at, vl.2]⟩, fun z => by rw [hkk] at z; omega⟩ (fun a ha => gr_ne ha)
        | false =>
          simp (disch := first | omega | assumption) only [u57_0, u57_1, u57_2, u57_5, u57_8, u57_9, u57_12, u57_13, u57_16, u57_19, u57_22, u57_23, u57_24, u57_27, u57_28, u57_29, u57_32, u57_33, u57_36, u57_39, u57_42, u57_43, u57_46, u57_47, u57_48, u57_51, u57_54, u57_55, u57_58, u57_59, u57_60, u57_61, u57_63, u57_66, u57_67, u57_69, u57_72, u57_73, u57_75, u57_78, u57_79, u57_81, u57_84, u57_85, u57_88, u57_89, u57_90, u57_91, u57_92, u57_95, u57_96, u57_99, u57_101, u57_104, u57_105, u57_106, u57_109, u57_110, u57_111, u57_114, k1, s2, s3, s4, gr_at, gr_gr, upd_at, upd_ne, kc0, kc1, kc13, kc15, kc19, kc23, kc27, kc29, gb_z, z0, z1, n11, true_or, false_or, nb0, nb1, gb_01, nlt0, nge0, neq0, ngt0, nle0, m1lt, m1ge, true_implies, false_implies, not_true_eq_false, not_false_eq_true, Bool.true_eq_false, Bool.false_eq_true, eq_self, and_self, Nat.reduceEqDiff, Nat.reduceLT, gfv_s, gfv_n, gop1_s, nI_add, pk_mul, nIcl, vinT, nIle, nIlt, nIeq, true_and, and_true, List.cons_append, List.nil_append, List.length_nil, List.length_cons, Nat.zero_le, Nat.reduceLeDiff, Nat.reduceAdd, Nat.reduceMul]
          have hkk := tK_0 q0 hf hk
          refine hQ _ ⟨by rw [gr_at, upd_ne (by omega), upd_ne (by omega), upd_at], fun z => by rw [hkk] at z; omega, fun _ => by rw [gr_at, upd_ne (by omega), upd_at], fun z => by rw [hkk] at z; omega, fun z => by rw [hkk] at z; omega⟩ (fun a ha => gr_ne ha)
      simp (disch := first | omega | assumption) only [u57_0, u57_1, u57_2, u57_5, u57_8, u57_9, u57_12, u57_13, u57_16, u57_19, u57_22, u57_23, u57_24, u57_27, u57_28, u57_29, u57_32, u57_33, u57_36, u57_39, u57_42, u57_43, u57_46, u57_47, u57_48, u57_51, u57_54, u57_55, u57_58, u57_59, u57_60, u57_61, u57_63, u57_66, u57_67, u57_69, u57_72, u57_73, u57_75, u57_78, u57_79, u57_81, u57_84, u57_85, u57_88, u57_90, u57_91, u57_92, u57_95, u57_96, u57_99, u57_101, u57_104, u57_105, u57_106, u57_109, u57_110, u57_111, u57_114, kc13, ks13_0, ks13_1, kk14, kl14, k1, k2, s2, s3, s4, s5, gr_at, gr_gr, upd_at, upd_ne, hr, hb, kc0, kc1, kc13, kc15, kc19, kc23, kc27, kc29, gb_z, z0, z1, n11, true_or, false_or, nb0, nb1, gb_01, nlt0, nge0, neq0, ngt0, nle0, m1lt, m1ge, true_implies, false_implies, not_true_eq_false, not_false_eq_true, Bool.true_eq_false, Bool.false_eq_true, eq_self, and_self, Nat.reduceEqDiff, Nat.reduceLT, gfv_s, gfv_n, gop1_s, nI_add, pk_mul, nIcl, vinT, nIle, nIlt, nIeq, true_and, and_true, List.cons_append, List.nil_append, List.length_nil, List.length_cons, Nat.zero_le, Nat.reduceLeDiff, Nat.reduceAdd, Nat.reduceMul]
      have y := key true none
      have z := key false none
      unfold lt at y z
      rw [gb_t] at y
      rw [gb_f] at z
      refine ⟨fun c1 => ⟨fun c2 => y (decide_eq_true (by omega)), fun c2 => ⟨fun c3 => y (decide_eq_true (by omega)), fun c3 => z (decide_eq_false (by omega))⟩⟩, fun c1 => ⟨fun c2 => y (decide_eq_true (by omega)), fun c2 => ⟨fun c3 => y (decide_eq_true (by omega)), fun c3 => ⟨fun c4 => y (decide_eq_true (by omega)), fun c4 => z (decide_eq_false (by omega))⟩⟩⟩⟩
  · have q0 : n ≤ e := by omega
    simp (disch := first | omega | assumption) only [u57_0, u57_1, u57_2, u57_5, u57_8, u57_9, u57_12, u57_13, u57_16, u57_19, u57_22, u57_23, u57_24, u57_27, u57_28, u57_29, u57_32, u57_33, u57_36, u57_39, u57_42, u57_43, u57_46, u57_47, u57_48, u57_51, u57_54, u57_55, u57_58, u57_59, u57_60, u57_61, u57_63, u57_66, u57_67, u57_69, u57_72, u57_73, u57_75, u57_78, u57_79, u57_81, u57_84, u57_85, u57_88, u57_89, u57_90, u57_91, u57_92, u57_95, u57_96, u57_99, u57_101, u57_104, u57_105, u57_106, u57_109, u57_110, u57_111, u57_114, kc13, ks13_0, ks13_1, k1, k2, s2, s3, s4, s5, gr_at, gr_gr, upd_at, upd_ne, h3, hr13, h13, q, kc0, kc1, kc13, kc15, kc19, kc23, kc27, kc29, gb_z, z0, z1, n11, true_or, false_or, nb0, nb1, gb_01, nlt0, nge0, neq0, ngt0, nle0, m1lt, m1ge, true_implies, false_implies, not_true_eq_false, not_false_eq_true, Bool.true_eq_false, Bool.false_eq_true, eq_self, and_self, Nat.reduceEqDiff, Nat.reduceLT, gfv_s, gfv_n, gop1_s, nI_add, pk_mul, nIcl, vinT, nIle, nIlt, nIeq, true_and, and_true, List.cons_append, List.nil_append, List.length_nil, List.length_cons, Nat.zero_le, Nat.reduceLeDiff, Nat.reduceAdd, Nat.reduceMul]
    have hkk := tK_3 (b := b) q0
    exact hQ _ ⟨by rw [gr_at, upd_ne (by omega), upd_at], fun _ => by rw [gr_at, upd_at], fun z => by rw [hkk] at z; omega, fun z => by rw [hkk] at z; omega, fun z => by rw [hkk] at z; omega⟩ (fun a ha => gr_ne ha)
theorem c_refuse (hA : gRe (gSH ++ rs) A) : gcl (d + 1) 56 [.ref A, .int x] (gSH ++ rs) M Q = Q [.int (nI 0)] (gSH ++ rs) (gr M A (upd (M A) 6 x)) := by
  obtain ⟨k1, k2, k3, s2, s3, s4, s5, s6⟩ := hA
  rw [e56]
  simp (disch := first | omega | assumption) only [u56_0, u56_1, u56_2, u56_5, u56_6, k1, s6, kc0, kc1, kc13, kc15, kc19, kc23, kc27, kc29, gb_z, z0, z1, n11, true_or, false_or, nb0, nb1, gb_01, nlt0, nge0, neq0, ngt0, nle0, m1lt, m1ge, true_implies, false_implies, not_true_eq_false, not_false_eq_true, Bool.true_eq_false, Bool.false_eq_true, eq_self, and_self, Nat.reduceEqDiff, Nat.reduceLT, gfv_s, gfv_n, gop1_s, nI_add, pk_mul, nIcl, vinT, nIle, nIlt, nIeq, true_and, and_true, List.cons_append, List.nil_append, List.length_nil, List.length_cons, Nat.zero_le, Nat.reduceLeDiff, Nat.reduceAdd, Nat.reduceMul]
theorem cR_tok {c : Nat} (hR : cR M A b n e) (ht : tpe M n b) (hc : c < 1000) : (M A 4 = nI c) = (tIs b n e c = true) := by
  obtain ⟨r2, r3, r0, r1, rn⟩ := hR
  unfold tIs
  rw [decide_eq_true_iff]
  rcases tK_c (b := b) (n := n) (e := e) with q | q | q | q
  · rw [r0 q, q]
    exact propext ⟨fun z => absurd z.symm (mneq (by omega) _ (by decide)), fun z => absurd z.1 (by omega)⟩
  · have hl := (tN_le (Or.inl q)).2
    have := (ht.2.2 e hl).1
    rw [(r1 q).1, q, nIeq (by omega) (by omega)]
    exact propext ⟨fun z => ⟨rfl, z⟩, fun z => z.2⟩
  · rw [(rn q).1, q]
    exact propext ⟨fun z => absurd z.symm (mneq (by omega) _ (by decide)), fun z => absurd z.1 (by omega)⟩
  · rw [r3 q, q]
    exact propext ⟨fun z => absurd z.symm (mneq (by omega) _ (by decide)), fun z => absurd z.1 (by omega)⟩
theorem c_pass {c : Nat} (hA : gRe (gSH ++ rs) A) (h43 : 43 ≤ A) (ht : tpe M n b) (hR : cR M A b n e) (hc : c < 1000) (hQt : tIs b n e c = true → ∀ M', cR M' A b n (tN b n e) → (∀ a, a ≠ A → M' a = M a) → Q [.int (nI 1)] (gSH ++ rs) M') (hQf : tIs b n e c = false → ∀ M', M' A 2 = nI e → M' A 6 = nI 1 → (∀ a, a ≠ A → M' a = M a) → Q [.int (nI 0)] (gSH ++ rs) M') : gcl (d + 4) 54 [.ref A, .int (nI c)] (gSH ++ rs) M Q := by
  have hA' := hA
  obtain ⟨k1, k2, k3, s2, s3, s4, s5, s6⟩ := hA'
  have hk := cR_tok hR ht hc
  rw [e54]
  cases q : tIs b n e c with
  | true =>
    rw [q] at hk
    simp (disch := first | omega | assumption) only [u54_0, u54_1, u54_4, u54_5, u54_8, u54_9, u54_10, u54_13, u54_14, u54_15, u54_18, u54_19, k1, s4, hk, kc0, kc1, kc13, kc15, kc19, kc23, kc27, kc29, gb_z, z0, z1, n11, true_or, false_or, nb0, nb1, gb_01, nlt0, nge0, neq0, ngt0, nle0, m1lt, m1ge, true_implies, false_implies, not_true_eq_false, not_false_eq_true, Bool.true_eq_false, Bool.false_eq_true, eq_self, and_self, Nat.reduceEqDiff, Nat.reduceLT, gfv_s, gfv_n, gop1_s, nI_add, pk_mul, nIcl, vinT, nIle, nIlt, nIeq, true_and, and_true, List.cons_append, List.nil_append, List.length_nil, List.length_cons, Nat.zero_le, Nat.reduceLeDiff, Nat.reduceAdd, Nat.reduceMul]
    have h1 := (tIs_t q).1
    refine c_advance hA h43 ht (hR.2.2.2.1 h1).2 (tN_le (Or.inl h1)).1 (fun M1 a1 a2 => ?_)
    simp (disch := first | omega | assumption) only [u54_0, u54_1, u54_4, u54_5, u54_8, u54_9, u54_10, u54_13, u54_14, u54_15, u54_18, u54_19, kc0, kc1, kc13, kc15, kc19, kc23, kc27, kc29, gb_z, z0, z1, n11, true_or, false_or, nb0, nb1, gb_01, nlt0, nge0, neq0, ngt0, nle0, m1lt, m1ge, true_implies, false_implies, not_true_eq_false, not_false_eq_true, Bool.true_eq_false, Bool.false_eq_true, eq_self, and_self, Nat.reduceEqDiff, Nat.reduceLT, gfv_s, gfv_n, gop1_s, nI_add, pk_mul, nIcl, vinT, nIle, nIlt, nIeq, true_and, and_true, List.cons_append, List.nil_append, List.length_nil, List.length_cons, Nat.zero_le, Nat.reduceLeDiff, Nat.reduceAdd, Nat.reduceMul]
    exact hQt q M1 a1 a2
  | false =>
    rw [q] at hk
    simp (disch := first | omega | assumption) only [u54_0, u54_1, u54_4, u54_5, u54_8, u54_9, u54_10, u54_13, u54_14, u54_15, u54_18, u54_19, k1, s4, hk, c_refuse hA, kc0, kc1, kc13, kc15, kc19, kc23, kc27, kc29, gb_z, z0, z1, n11, true_or, false_or, nb0, nb1, gb_01, nlt0, nge0, neq0, ngt0, nle0, m1lt, m1ge, true_implies, false_implies, not_true_eq_false, not_false_eq_true, Bool.true_eq_false, Bool.false_eq_true, eq_self, and_self, Nat.reduceEqDiff, Nat.reduceLT, gfv_s, gfv_n, gop1_s, nI_add, pk_mul, nIcl, vinT, nIle, nIlt, nIeq, true_and, and_true, List.cons_append, List.nil_append, List.length_nil, List.length_cons, Nat.zero_le, Nat.reduceLeDiff, Nat.reduceAdd, Nat.reduceMul]
    exact hQf q _ (by rw [gr_at, upd_ne (by omega)]; exact hR.1) (by rw [gr_at, upd_at]) (fun a ha => gr_ne ha)
theorem c_number {most taken : Nat} (hA : gRe (gSH ++ rs) A) (h43 : 43 ≤ A) (ht : tpe M n b) (hR : cR M A b n e) (hm : most ≤ 30) (htk : taken < 2147483648) (h1 : tK b n e ≠ 2 → ∀ M', M' A 2 = nI e → M' A 6 = nI 1 → (∀ a, a ≠ A → M' a = M a) → Q [.int (-1000000)] (gSH ++ rs) M') (h2 : tK b n e = 2 → (most < tV b n e ∨ ¬ taken / 2 ^ tV b n e % 2 = 0) → ∀ M', M' A 2 = nI e → M' A 6 = nI 2 → (∀ a, a ≠ A → M' a = M a) → Q [.int (-1000000)] (gSH ++ rs) M') (h3 : tK b n e = 2 → tV b n e ≤ most → taken / 2 ^ tV b n e % 2 = 0 → ∀ M', cR M' A b n (tN b n e) → (∀ a, a ≠ A → M' a = M a) → Q [.int (nI (tV b n e))] (gSH ++ rs) M') : gcl (d + 4) 55 [.ref A, .int (nI most), .int (nI taken)] (gSH ++ rs) M Q := by
  have hA' := hA
  obtain ⟨k1, k2, k3, s2, s3, s4, s5, s6⟩ := hA'
  have hR' := hR
  obtain ⟨r2, r3, r0, r1, rn⟩ := hR'
  rw [e55]
  by_cases q : tK b n e = 2
  · obtain ⟨t4, t5, t6⟩ := rn q
    have hv := tV_lt q
    by_cases q1 : most < tV b n e
    · simp (disch := first | omega | assumption) only [u55_0, u55_1, u55_4, u55_6, u55_9, u55_10, u55_11, u55_14, u55_15, u55_17, u55_18, u55_19, u55_22, u55_23, u55_24, u55_25, u55_28, u55_29, u55_30, u55_31, u55_32, u55_33, u55_36, u55_37, u55_38, u55_41, u55_42, u55_44, u55_45, u55_46, u55_49, u55_50, k1, s4, s5, t4, t5, q1, c_refuse hA, kc0, kc1, kc13, kc15, kc19, kc23, kc27, kc29, gb_z, z0, z1, n11, true_or, false_or, nb0, nb1, gb_01, nlt0, nge0, neq0, ngt0, nle0, m1lt, m1ge, true_implies, false_implies, not_true_eq_false, not_false_eq_true, Bool.true_eq_false, Bool.false_eq_true, eq_self, and_self, Nat.reduceEqDiff, Nat.reduceLT, gfv_s, gfv_n, gop1_s, nI_add, pk_mul, nIcl, vinT, nIle, nIlt, nIeq, true_and, and_true, List.cons_append, List.nil_append, List.length_nil, List.length_cons, Nat.zero_le, Nat.reduceLeDiff, Nat.reduceAdd, Nat.reduceMul]
      exact h2 q (Or.inl q1) _ (by rw [gr_at, upd_ne (by omega)]; exact r2) (by rw [gr_at, upd_at]) (fun a ha => gr_ne ha)
    · have eb := nIbit3 (n := taken) (k := tV b n e) htk (by omega)
      have hlt : taken / 2 ^ tV b n e % 2 < 2 := Nat.mod_lt _ (by omega)
      by_cases q2 : taken / 2 ^ tV b n e % 2 = 0
      · simp (disch := first | omega | assumption) only [u55_0, u55_1, u55_4, u55_6, u55_9, u55_10, u55_11, u55_14, u55_15, u55_17, u55_18, u55_19, u55_22, u55_23, u55_24, u55_25, u55_28, u55_29, u55_30, u55_31, u55_32, u55_33, u55_36, u55_37, u55_38, u55_41, u55_42, u55_44, u55_45, u55_46, u55_49, u55_50, k1, s4, s5, t4, t5, q1, eb, q2, kc0, kc1, kc13, kc15, kc19, kc23, kc27, kc29, gb_z, z0, z1, n11, true_or, false_or, nb0, nb1, gb_01, nlt0, nge0, neq0, ngt0, nle0, m1lt, m1ge, true_implies, false_implies, not_true_eq_false, not_false_eq_true, Bool.true_eq_false, Bool.false_eq_true, eq_self, and_self, Nat.reduceEqDiff, Nat.reduceLT, gfv_s, gfv_n, gop1_s, nI_add, pk_mul, nIcl, vinT, nIle, nIlt, nIeq, true_and, and_true, List.cons_append, List.nil_append, List.length_nil, List.length_cons, Nat.zero_le, Nat.reduceLeDiff, Nat.reduceAdd, Nat.reduceMul]
        refine c_advance hA h43 ht t6 (tN_le (Or.inr q)).1 (fun M1 a1 a2 => ?_)
        simp (disch := first | omega | assumption) only [u55_0, u55_1, u55_4, u55_6, u55_9, u55_10, u55_11, u55_14, u55_15, u55_17, u55_18, u55_19, u55_22, u55_23, u55_24, u55_25, u55_28, u55_29, u55_30, u55_31, u55_32, u55_33, u55_36, u55_37, u55_38, u55_41, u55_42, u55_44, u55_45, u55_46, u55_49, u55_50, kc0, kc1, kc13, kc15, kc19, kc23, kc27, kc29, gb_z, z0, z1, n11, true_or, false_or, nb0, nb1, gb_01, nlt0, nge0, neq0, ngt0, nle0, m1lt, m1ge, true_implies, false_implies, not_true_eq_false, not_false_eq_true, Bool.true_eq_false, Bool.false_eq_true, eq_self, and_self, Nat.reduceEqDiff, Nat.reduceLT, gfv_s, gfv_n, gop1_s, nI_add, pk_mul, nIcl, vinT, nIle, nIlt, nIeq, true_and, and_true, List.cons_append, List.nil_append, List.length_nil, List.length_cons, Nat.zero_le, Nat.reduceLeDiff, Nat.reduceAdd, Nat.reduceMul]
        exact h3 q (by omega) q2 M1 a1 a2
      · simp (disch := first | omega | assumption) only [u55_0, u55_1, u55_4, u55_6, u55_9, u55_10, u55_11, u55_14, u55_15, u55_17, u55_18, u55_19, u55_22, u55_23, u55_24, u55_25, u55_28, u55_29, u55_30, u55_31, u55_32, u55_33, u55_36, u55_37, u55_38, u55_41, u55_42, u55_44, u55_45, u55_46, u55_49, u55_50, k1, s4, s5, t4, t5, q1, eb, q2, c_refuse hA, kc0, kc1, kc13, kc15, kc19, kc23, kc27, kc29, gb_z, z0, z1, n11, true_or, false_or, nb0, nb1, gb_01, nlt0, nge0, neq0, ngt0, nle0, m1lt, m1ge, true_implies, false_implies, not_true_eq_false, not_false_eq_true, Bool.true_eq_false, Bool.false_eq_true, eq_self, and_self, Nat.reduceEqDiff, Nat.reduceLT, gfv_s, gfv_n, gop1_s, nI_add, pk_mul, nIcl, vinT, nIle, nIlt, nIeq, true_and, and_true, List.cons_append, List.nil_append, List.length_nil, List.length_cons, Nat.zero_le, Nat.reduceLeDiff, Nat.reduceAdd, Nat.reduceMul]
        exact h2 q (Or.inr q2) _ (by rw [gr_at, upd_ne (by omega)]; exact r2) (by rw [gr_at, upd_at]) (fun a ha => gr_ne ha)
  · have t4 : ¬ M A 4 = -2 := by
      rcases tK_c (b := b) (n := n) (e := e) with z | z | z | z
      · rw [r0 z]; decide
      · have hl := (tN_le (Or.inl z)).2
        have := (ht.2.2 e hl).1
        rw [(r1 z).1]
        exact mneq (by omega) _ (by decide)
      · exact absurd z q
      · rw [r3 z]; decide
    simp (disch := first | omega | assumption) only [u55_0, u55_1, u55_4, u55_6, u55_9, u55_10, u55_11, u55_14, u55_15, u55_17, u55_18, u55_19, u55_22, u55_23, u55_24, u55_25, u55_28, u55_29, u55_30, u55_31, u55_32, u55_33, u55_36, u55_37, u55_38, u55_41, u55_42, u55_44, u55_45, u55_46, u55_49, u55_50, k1, s4, s5, t4, c_refuse hA, kc0, kc1, kc13, kc15, kc19, kc23, kc27, kc29, gb_z, z0, z1, n11, true_or, false_or, nb0, nb1, gb_01, nlt0, nge0, neq0, ngt0, nle0, m1lt, m1ge, true_implies, false_implies, not_true_eq_false, not_false_eq_true, Bool.true_eq_false, Bool.false_eq_true, eq_self, and_self, Nat.reduceEqDiff, Nat.reduceLT, gfv_s, gfv_n, gop1_s, nI_add, pk_mul, nIcl, vinT, nIle, nIlt, nIeq, true_and, and_true, List.cons_append, List.nil_append, List.length_nil, List.length_cons, Nat.zero_le, Nat.reduceLeDiff, Nat.reduceAdd, Nat.reduceMul]
    exact h1 q _ (by rw [gr_at, upd_ne (by omega)]; exact r2) (by rw [gr_at, upd_at]) (fun a ha => gr_ne ha)
theorem c_sortOf {sh : gS} (hR : cR M A b n e) (ht : tpe M n b) : gcl (d + 1) 59 [.int (M A 4)] sh M Q = Q [.int (if tS b n e = 0 then -1000000 else nI (tS b n e))] sh M := by
  obtain ⟨r2, r3, r0, r1, rn⟩ := hR
  have neg : ∀ x : Int32, x.toInt < 98 → gcl (d + 1) 59 [.int x] sh M Q = Q [.int (-1000000)] sh M := fun x hx => by
    rw [e59]
    simp (disch := first | omega | assumption) only [u59_1_d, u59_0, u59_1_98, u59_1_99, u59_1_100, u59_1_101, u59_1_102, u59_1_103, u59_1_104, u59_1_105, u59_1_106, u59_1_107, u59_1_108, u59_1_109, u59_1_110, u59_1_111, u59_72, u59_73, u59_74, u59_75, u59_76, u59_77, u59_78, u59_79, u59_80, u59_81, u59_82, u59_84, kc0, kc1, kc13, kc15, kc19, kc23, kc27, kc29, gb_z, z0, z1, n11, true_or, false_or, nb0, nb1, gb_01, nlt0, nge0, neq0, ngt0, nle0, m1lt, m1ge, true_implies, false_implies, not_true_eq_false, not_false_eq_true, Bool.true_eq_false, Bool.false_eq_true, eq_self, and_self, Nat.reduceEqDiff, Nat.reduceLT, gfv_s, gfv_n, gop1_s, nI_add, pk_mul, nIcl, vinT, nIle, nIlt, nIeq, true_and, and_true, List.cons_append, List.nil_append, List.length_nil, List.length_cons, Nat.zero_le, Nat.reduceLeDiff, Nat.reduceAdd, Nat.reduceMul]
  rcases tK_c (b := b) (n := n) (e := e) with z | z | z | z
  · have hs : tS b n e = 0 := by unfold tS; rw [if_neg (by omega)]
    rw [hs, if_pos rfl, r0 z]
    exact neg _ (by decide)
  · have hl := (tN_le (Or.inl z)).2
    have h256 := (ht.2.2 e hl).1
    rw [(r1 z).1]
    have hs : tS b n e = if b e = 102 then 1 else if b e = 111 then 2 else if b e = 108 then 3 else if b e = 98 then 4 else if b e = 109 then 5 else 0 := by unfold tS; rw [if_pos z]
    rw [hs]
    by_cases q : b e < 98 ∨ 111 < b e
    · have e0 : (if b e = 102 then 1 else if b e = 111 then 2 else if b e = 108 then 3 else if b e = 98 then 4 else if b e = 109 then 5 else 0) = 0 := by
        (repeat' split) <;> omega
      rw [e0, if_pos rfl, e59]
      have hq : (nI (b e)).toInt < 98 ∨ 111 < (nI (b e)).toInt := by rw [nI_toInt (by omega)]; omega
      simp (disch := first | omega | assumption) only [u59_1_d, u59_0, u59_1_98, u59_1_99, u59_1_100, u59_1_101, u59_1_102, u59_1_103, u59_1_104, u59_1_105, u59_1_106, u59_1_107, u59_1_108, u59_1_109, u59_1_110, u59_1_111, u59_72, u59_73, u59_74, u59_75, u59_76, u59_77, u59_78, u59_79, u59_80, u59_81, u59_82, u59_84, kc0, kc1, kc13, kc15, kc19, kc23, kc27, kc29, gb_z, z0, z1, n11, true_or, false_or, nb0, nb1, gb_01, nlt0, nge0, neq0, ngt0, nle0, m1lt, m1ge, true_implies, false_implies, not_true_eq_false, not_false_eq_true, Bool.true_eq_false, Bool.false_eq_true, eq_self, and_self, Nat.reduceEqDiff, Nat.reduceLT, gfv_s, gfv_n, gop1_s, nI_add, pk_mul, nIcl, vinT, nIle, nIlt, nIeq, true_and, and_true, List.cons_append, List.nil_append, List.length_nil, List.length_cons, Nat.zero_le, Nat.reduceLeDiff, Nat.reduceAdd, Nat.reduceMul]
    · generalize b e = c at q
      rcases (show c = 98 ∨ c = 99 ∨ c = 100 ∨ c = 101 ∨ c = 102 ∨ c = 103 ∨ c = 104 ∨ c = 105 ∨ c = 106 ∨ c = 107 ∨ c = 108 ∨ c = 109 ∨ c = 110 ∨ c = 111 by omega) with rfl | rfl | rfl | rfl | rfl | rfl | rfl | rfl | rfl | rfl | rfl | rfl | rfl | rfl <;> rw [e59] <;> simp (disch := omega) only [u59_1_d, u59_0, u59_1_98, u59_1_99, u59_1_100, u59_1_101, u59_1_102, u59_1_103, u59_1_104, u59_1_105, u59_1_106, u59_1_107, u59_1_108, u59_1_109, u59_1_110, u59_1_111, u59_72, u59_73, u59_74, u59_75, u59_76, u59_77, u59_78, u59_79, u59_80, u59_81, u59_82, u59_84, Nat.reduceEqDiff, if_true, if_false]
  · have hs : tS b n e = 0 := by unfold tS; rw [if_neg (by omega)]
    rw [hs, if_pos rfl, (rn z).1]
    exact neg _ (by decide)
  · have hs : tS b n e = 0 := by unfold tS; rw [if_neg (by omega)]
    rw [hs, if_pos rfl, r3 z]
    exact neg _ (by decide)
end G73
