/-! the tape, token by token -/
def fg (b : Nat → Nat) (n e : Nat) : Bool := decide (e < n ∧ 48 ≤ b e ∧ b e ≤ 57)
def lt (c : Nat) : Bool := decide ((97 ≤ c ∧ c ≤ 122) ∨ c = 44 ∨ c = 59)
def tK (b : Nat → Nat) (n e : Nat) : Nat := if n ≤ e then 3 else if fg b n e = true then (if fg b n (e + 1) = true ∧ fg b n (e + 1 + 1) = true then 0 else 2) else if lt (b e) = true then 1 else 0
def tV (b : Nat → Nat) (n e : Nat) : Nat := if fg b n e = true then (if fg b n (e + 1) = true then (b e - 48) * 10 + (b (e + 1) - 48) else b e - 48) else b e
def tN (b : Nat → Nat) (n e : Nat) : Nat := if fg b n e = true then (if fg b n (e + 1) = true then e + 1 + 1 else e + 1) else e + 1
def tpe (M : gM) (n : Nat) (b : Nat → Nat) : Prop := n ≤ 120 ∧ M 13 1 = nI n ∧ ∀ k, k < n → b k < 256 ∧ M 14 k = nI (b k)
def mpe (M : gM) (n : Nat) (b : Nat → Nat) : Prop := n ≤ 120 ∧ M 29 8 = nI n ∧ ∀ k, k < n → b k < 256 ∧ M 35 k = nI (b k)
def gRe (sh : gS) (A : Nat) : Prop := gci sh A = some 3 ∧ gsl sh A 0 = some (some (.ref 13)) ∧ gsl sh A 1 = some (some (.ref 19)) ∧ gsl sh A 2 = some none ∧ gsl sh A 3 = some none ∧ gsl sh A 4 = some none ∧ gsl sh A 5 = some none ∧ gsl sh A 6 = some none
/-- the class's reader at a token -/
def cR (M : gM) (A : Nat) (b : Nat → Nat) (n e : Nat) : Prop := M A 2 = nI e ∧ (tK b n e = 3 → M A 4 = -1) ∧ (tK b n e = 0 → M A 4 = -3) ∧ (tK b n e = 1 → M A 4 = nI (b e) ∧ M A 3 = nI (tN b n e)) ∧ (tK b n e = 2 → M A 4 = -2 ∧ M A 5 = nI (tV b n e) ∧ M A 3 = nI (tN b n e))
/-- the reference at a token -/
def mR (M : gM) (b : Nat → Nat) (n e : Nat) : Prop := M 29 13 = nI e ∧ M 29 11 = nI (tK b n e) ∧ (tK b n e = 1 ∨ tK b n e = 2 → M 29 12 = nI (tV b n e) ∧ M 29 10 = nI (tN b n e))
theorem fg_t {b : Nat → Nat} {n e : Nat} (h : fg b n e = true) : e < n ∧ 48 ≤ b e ∧ b e ≤ 57 := of_decide_eq_true h
theorem fg_f {b : Nat → Nat} {n e : Nat} (h : fg b n e = false) : ¬ (e < n ∧ 48 ≤ b e ∧ b e ≤ 57) := of_decide_eq_false h
theorem tK_3 {b : Nat → Nat} {n e : Nat} (h : n ≤ e) : tK b n e = 3 := if_pos h
theorem tK_f3 {b : Nat → Nat} {n e : Nat} (h : fg b n e = true) (h1 : fg b n (e + 1) = true) (h2 : fg b n (e + 1 + 1) = true) : tK b n e = 0 := by
  have := fg_t h
  unfold tK
  rw [if_neg (by omega), if_pos h, if_pos ⟨h1, h2⟩]
theorem tK_f2 {b : Nat → Nat} {n e : Nat} (h : fg b n e = true) (h1 : ¬ (fg b n (e + 1) = true ∧ fg b n (e + 1 + 1) = true)) : tK b n e = 2 := by
  have := fg_t h
  unfold tK
  rw [if_neg (by omega), if_pos h, if_neg h1]
theorem tK_l {b : Nat → Nat} {n e : Nat} (h : ¬ n ≤ e) (h0 : fg b n e = false) (h1 : lt (b e) = true) : tK b n e = 1 := by
  unfold tK
  rw [if_neg h, if_neg (by rw [h0]; simp), if_pos h1]
theorem tK_0 {b : Nat → Nat} {n e : Nat} (h : ¬ n ≤ e) (h0 : fg b n e = false) (h1 : lt (b e) = false) : tK b n e = 0 := by
  unfold tK
  rw [if_neg h, if_neg (by rw [h0]; simp), if_neg (by rw [h1]; simp)]
theorem tVN_1 {b : Nat → Nat} {n e : Nat} (h : fg b n e = true) (h1 : fg b n (e + 1) = false) : tV b n e = b e - 48 ∧ tN b n e = e + 1 := by
  unfold tV tN
  rw [if_pos h, if_pos h, if_neg (by rw [h1]; simp), if_neg (by rw [h1]; simp)]
  exact ⟨rfl, rfl⟩
theorem tVN_2 {b : Nat → Nat} {n e : Nat} (h : fg b n e = true) (h1 : fg b n (e + 1) = true) : tV b n e = (b e - 48) * 10 + (b (e + 1) - 48) ∧ tN b n e = e + 1 + 1 := by
  unfold tV tN
  rw [if_pos h, if_pos h, if_pos h1, if_pos h1]
  exact ⟨rfl, rfl⟩
theorem tVN_l {b : Nat → Nat} {n e : Nat} (h : fg b n e = false) : tV b n e = b e ∧ tN b n e = e + 1 := by
  unfold tV tN
  rw [if_neg (by rw [h]; simp), if_neg (by rw [h]; simp)]
  exact ⟨rfl, rfl⟩
theorem tK_lt (b : Nat → Nat) (n e : Nat) : tK b n e ≤ 3 := by
  unfold tK
  (repeat' split) <;> omega
theorem tN_le {b : Nat → Nat} {n e : Nat} (h : tK b n e = 1 ∨ tK b n e = 2) : tN b n e ≤ n ∧ e < n := by
  by_cases q : n ≤ e
  · rw [tK_3 q] at h; omega
  · unfold tN
    by_cases q1 : fg b n e = true
    · have h1 := fg_t q1
      rw [if_pos q1]
      by_cases q2 : fg b n (e + 1) = true
      · have := fg_t q2
        rw [if_pos q2]; omega
      · rw [if_neg q2]; omega
    · rw [if_neg q1]; omega
theorem tV_lt {b : Nat → Nat} {n e : Nat} (h : tK b n e = 2) : tV b n e < 100 := by
  unfold tV
  by_cases q : n ≤ e
  · rw [tK_3 q] at h; omega
  · by_cases q1 : fg b n e = true
    · have h1 := fg_t q1
      rw [if_pos q1]
      by_cases q2 : fg b n (e + 1) = true
      · have := fg_t q2
        rw [if_pos q2]; omega
      · rw [if_neg q2]; omega
    · unfold tK at h
      rw [if_neg q, if_neg q1] at h
      split at h <;> omega
theorem mneq {n : Nat} (h : n < 2147483648) (k : Int32) (hk : k < 0) : ¬ nI n = k := fun q => by
  rw [← q] at hk
  exact absurd hk (nI_pos h)
section G72
variable {d : Nat} {rs : gS} {M : gM} {Q : gQ} {x y z v w : Int32} {A n e : Nat} {b : Nat → Nat}
theorem c_fig {i : Nat} (ht : tpe M n b) (hi : i ≤ 1000) (hQ : Q [.int (gb (fg b n i))] (gSH ++ rs) M) : gcl (d + 1) 73 [.ref 13, .int (nI i)] (gSH ++ rs) M Q := by
  refine c_isFigure ht.2.1 ht.1 hi (fun k hk => (ht.2.2 k hk).2) (fun k hk => by have := (ht.2.2 k hk).1; omega) ?_
  unfold fg gb at hQ
  simpa using hQ
theorem tpe_c {M M' : gM} (h : tpe M n b) (h13 : M' 13 = M 13) (h14 : M' 14 = M 14) : tpe M' n b := by
  unfold tpe at h ⊢
  rw [h13, h14]
  exact h
set_option maxHeartbeats 1000000 in
theorem c_readFigures (hA : gRe (gSH ++ rs) A) (h43 : 43 ≤ A) (ht : tpe M n b) (h2 : M A 2 = nI e) (h3 : M A 3 = nI e) (hf : fg b n e = true) (hQ : ∀ M', cR M' A b n e → (∀ a, a ≠ A → M' a = M a) → Q [] (gSH ++ rs) M') : gcl (d + 2) 58 [.ref A] (gSH ++ rs) M Q := by
  obtain ⟨k1, k2, k3, s2, s3, s4, s5, s6⟩ := hA
  have hn := ht.1
  have f0 := fg_t hf
  have b0 := (ht.2.2 e f0.1).2
  have c0 := (ht.2.2 e f0.1).1
  have hz : ∀ A2 : Nat → Int32, tpe (gr M A A2) n b := fun A2 => tpe_c ht (gr_ne (by omega)) (gr_ne (by omega))
  have hr : ∀ A2 : Nat → Int32, gr M A A2 14 = M 14 := fun A2 => gr_ne (by omega)
  have tail : ∀ (A2 : Nat → Int32) (e' : Nat) (v : Int32) l1, A2 2 = nI e → A2 3 = nI e' → A2 5 = v → e + 1 ≤ e' → e' ≤ e + 3 → (e' ≤ e + 2 → cR (gr M A (upd A2 4 (-2))) A b n e) → (e' = e + 3 → cR (gr M A (upd A2 4 (-3))) A b n e) → gR (gcl (d + 1)) (0, fun _ => 0) 58 69 [some (.ref A), l1] [] (gSH ++ rs) (gr M A A2) 0 0 Q := by
    intro A2 e' v l1 q2 q3 q5 w1 w2 w3 w4
    by_cases q : e' ≤ e + 2
    · have q9 : e' - e ≤ 2 := by omega
      simp (disch := first | omega | assumption) only [u58_0, u58_1, u58_2, u58_5, u58_6, u58_8, u58_9, u58_12, u58_13, u58_16, u58_17, u58_20, u58_23, u58_26, u58_27, u58_28, u58_31, u58_33, u58_34, u58_35, u58_38, u58_41, u58_42, u58_45, u58_46, u58_47, u58_49, u58_50, u58_53, u58_54, u58_54i, u58_55, u58_58, u58_59, u58_60, u58_63, u58_66, u58_69, u58_70, u58_71, u58_74, u58_75, u58_78, u58_79, u58_80, u58_83, u58_85, u58_88, u58_90, u58_93, k1, k2, s2, s3, s4, s5, gr_at, gr_gr, q2, q3, nIsub, q9, kc0, kc1, kc13, kc15, kc19, kc23, kc27, kc29, gb_z, z0, z1, n11, true_or, false_or, nb0, nb1, gb_01, nlt0, nge0, neq0, ngt0, nle0, m1lt, m1ge, true_implies, false_implies, not_true_eq_false, not_false_eq_true, Bool.true_eq_false, Bool.false_eq_true, eq_self, and_self, Nat.reduceEqDiff, Nat.reduceLT, gfv_s, gfv_n, gop1_s, nI_add, pk_mul, nIcl, vinT, nIle, nIlt, nIeq, true_and, and_true, List.cons_append, List.nil_append, List.length_nil, List.length_cons, Nat.zero_le, Nat.reduceLeDiff, Nat.reduceAdd, Nat.reduceMul]
      exact hQ _ (w3 q) (fun a ha => gr_ne ha)
    · have q9 : ¬ e' - e ≤ 2 := by omega
      simp (disch := first | omega | assumption) only [u58_0, u58_1, u58_2, u58_5, u58_6, u58_8, u58_9, u58_12, u58_13, u58_16, u58_17, u58_20, u58_23, u58_26, u58_27, u58_28, u58_31, u58_33, u58_34, u58_35, u58_38, u58_41, u58_42, u58_45, u58_46, u58_47, u58_49, u58_50, u58_53, u58_54, u58_54i, u58_55, u58_58, u58_59, u58_60, u58_63, u58_66, u58_69, u58_70, u58_71, u58_74, u58_75, u58_78, u58_79, u58_80, u58_83, u58_85, u58_88, u58_90, u58_93, k1, k2, s2, s3, s4, s5, gr_at, gr_gr, q2, q3, nIsub, q9, kc0, kc1, kc13, kc15, kc19, kc23, kc27, kc29, gb_z, z0, z1, n11, true_or, false_or, nb0, nb1, gb_01, nlt0, nge0, neq0, ngt0, nle0, m1lt, m1ge, true_implies, false_implies, not_true_eq_false, not_false_eq_true, Bool.true_eq_false, Bool.false_eq_true, eq_self, and_self, Nat.reduceEqDiff, Nat.reduceLT, gfv_s, gfv_n, gop1_s, nI_add, pk_mul, nIcl, vinT, nIle, nIlt, nIeq, true_and, and_true, List.cons_append, List.nil_append, List.length_nil, List.length_cons, Nat.zero_le, Nat.reduceLeDiff, Nat.reduceAdd, Nat.reduceMul]
      exact hQ _ (w4 (by omega)) (fun a ha => gr_ne ha)
  rw [e58]
  simp (disch := first | omega | assumption) only [u58_0, u58_1, u58_2, u58_5, u58_6, u58_8, u58_9, u58_12, u58_13, u58_16, u58_17, u58_20, u58_23, u58_26, u58_27, u58_28, u58_31, u58_33, u58_34, u58_35, u58_38, u58_41, u58_42, u58_45, u58_46, u58_47, u58_49, u58_50, u58_53, u58_54, u58_54i, u58_55, u58_58, u58_59, u58_60, u58_63, u58_66, u58_69, u58_70, u58_71, u58_74, u58_75, u58_78, u58_79, u58_80, u58_83, u58_85, u58_88, u58_90, u58_93, k1, s5, kc0, kc1, kc13, kc15, kc19, kc23, kc27, kc29, gb_z, z0, z1, n11, true_or, false_or, nb0, nb1, gb_01, nlt0, nge0, neq0, ngt0, nle0, m1lt, m1ge, true_implies, false_implies, not_true_eq_false, not_false_eq_true, Bool.true_eq_false, Bool.false_eq_true, eq_self, and_self, Nat.reduceEqDiff, Nat.reduceLT, gfv_s, gfv_n, gop1_s, nI_add, pk_mul, nIcl, vinT, nIle, nIlt, nIeq, true_and, and_true, List.cons_append, List.nil_append, List.length_nil, List.length_cons, Nat.zero_le, Nat.reduceLeDiff, Nat.reduceAdd, Nat.reduceMul]
  rw [u58_7]
  simp (disch := first | omega | assumption) only [u58_0, u58_1, u58_2, u58_5, u58_6, u58_8, u58_9, u58_12, u58_13, u58_16, u58_17, u58_20, u58_23, u58_26, u58_27, u58_28, u58_31, u58_33, u58_34, u58_35, u58_38, u58_41, u58_42, u58_45, u58_46, u58_47, u58_49, u58_50, u58_53, u58_54, u58_54i, u58_55, u58_58, u58_59, u58_60, u58_63, u58_66, u58_70, u58_71, u58_74, u58_75, u58_78, u58_79, u58_80, u58_83, u58_85, u58_88, u58_90, u58_93, kc13, ks13_0, ks13_1, kk14, kl14, k1, k2, s2, s3, s4, s5, gr_at, upd_ne, h3, kc0, kc1, kc13, kc15, kc19, kc23, kc27, kc29, gb_z, z0, z1, n11, true_or, false_or, nb0, nb1, gb_01, nlt0, nge0, neq0, ngt0, nle0, m1lt, m1ge, true_implies, false_implies, not_true_eq_false, not_false_eq_true, Bool.true_eq_false, Bool.false_eq_true, eq_self, and_self, Nat.reduceEqDiff, Nat.reduceLT, gfv_s, gfv_n, gop1_s, nI_add, pk_mul, nIcl, vinT, nIle, nIlt, nIeq, true_and, and_true, List.cons_append, List.nil_append, List.length_nil, List.length_cons, Nat.zero_le, Nat.reduceLeDiff, Nat.reduceAdd, Nat.reduceMul]
  refine c_fig (hz _) (by omega) ?_
  rw [hf]
  have e48 : 48 ≤ 0 * 10 + b e := by omega
  simp (disch := first | omega | assumption) only [u58_0, u58_1, u58_2, u58_5, u58_6, u58_8, u58_9, u58_12, u58_13, u58_16, u58_17, u58_20, u58_23, u58_26, u58_27, u58_28, u58_31, u58_33, u58_34, u58_35, u58_38, u58_41, u58_42, u58_45, u58_46, u58_47, u58_49, u58_50, u58_53, u58_54, u58_54i, u58_55, u58_58, u58_59, u58_60, u58_63, u58_66, u58_70, u58_71, u58_74, u58_75, u58_78, u58_79, u58_80, u58_83, u58_85, u58_88, u58_90, u58_93, kc13, ks13_0, ks13_1, kk14, kl14, k1, k2, s2, s3, s4, s5, gr_at, gr_gr, upd_at, upd_ne, h3, hr, b0, nIsub, kc0, kc1, kc13, kc15, kc19, kc23, kc27, kc29, gb_z, z0, z1, n11, true_or, false_or, nb0, nb1, gb_01, nlt0, nge0, neq0, ngt0, nle0, m1lt, m1ge, true_implies, false_implies, not_true_eq_false, not_false_eq_true, Bool.true_eq_false, Bool.false_eq_true, eq_self, and_self, Nat.reduceEqDiff, Nat.reduceLT, gfv_s, gfv_n, gop1_s, nI_add, pk_mul, nIcl, vinT, nIle, nIlt, nIeq, true_and, and_true, List.cons_append, List.nil_append, List.length_nil, List.length_cons, Nat.zero_le, Nat.reduceLeDiff, Nat.reduceAdd, Nat.reduceMul]
  rw [u58_7]
  simp (disch := first | omega | assumption) only [u58_0, u58_1, u58_2, u58_5, u58_6, u58_8, u58_9, u58_12, u58_13, u58_16, u58_17, u58_20, u58_23, u58_26, u58_27, u58_28, u58_31, u58_33, u58_34, u58_35, u58_38, u58_41, u58_42, u58_45, u58_46, u58_47, u58_49, u58_50, u58_53, u58_54, u58_54i, u58_55, u58_58, u58_59, u58_60, u58_63, u58_66, u58_70, u58_71, u58_74, u58_75, u58_78, u58_79, u58_80, u58_83, u58_85, u58_88, u58_90, u58_93, kc13, ks13_0, ks13_1, kk14, kl14, k1, k2, s2, s3, s4, s5, gr_at, upd_at, upd_ne, h3, kc0, kc1, kc13, kc15, kc19, kc23, kc27, kc29, gb_z, z0, z1, n11, true_or, false_or, nb0, nb1, gb_01, nlt0, nge0, neq0, ngt0, nle0, m1lt, m1ge, true_implies, false_implies, not_true_eq_false, not_false_eq_true, Bool.true_eq_false, Bool.false_eq_true, eq_self, and_self, Nat.reduceEqDiff, Nat.reduceLT, gfv_s, gfv_n, gop1_s, nI_add, pk_mul, nIcl, vinT, nIle, nIlt, nIeq, true_and, and_true, List.cons_append, List.nil_append, List.length_nil, List.length_cons, Nat.zero_le, Nat.reduceLeDiff, Nat.reduceAdd, Nat.reduceMul]
  refine c_fig (hz _) (by omega) ?_
  cases g1 : fg b n (e + 1) with
  | false =>
    have v1 := tVN_1 hf g1
    simp (disch := first | omega | assumption) only [u58_0, u58_1, u58_2, u58_5, u58_6, u58_8, u58_9, u58_12, u58_13, u58_16, u58_17, u58_20, u58_23, u58_26, u58_27, u58_28, u58_31, u58_33, u58_34, u58_35, u58_38, u58_41, u58_42, u58_45, u58_46, u58_47, u58_49, u58_50, u58_53, u58_54, u58_54i, u58_55, u58_58, u58_59, u58_60, u58_63, u58_66, u58_70, u58_71, u58_74, u58_75, u58_78, u58_79, u58_80, u58_83, u58_85, u58_88, u58_90, u58_93, kc13, ks13_0, ks13_1, kk14, kl14, kc0, kc1, kc13, kc15, kc19, kc23, kc27, kc29, gb_z, z0, z1, n11, true_or, false_or, nb0, nb1, gb_01, nlt0, nge0, neq0, ngt0, nle0, m1lt, m1ge, true_implies, false_implies, not_true_eq_false, not_false_eq_true, Bool.true_eq_false, Bool.false_eq_true, eq_self, and_self, Nat.reduceEqDiff, Nat.reduceLT, gfv_s, gfv_n, gop1_s, nI_add, pk_mul, nIcl, vinT, nIle, nIlt, nIeq, true_and, and_true, List.cons_append, List.nil_append, List.length_nil, List.length_cons, Nat.zero_le, Nat.reduceLeDiff, Nat.reduceAdd, Nat.reduceMul]
    refine tail _ (e + 1) _ _ ?_ ?_ rfl (by omega) (by omega) (fun _ => ?_) (fun q => by omega)
    · rw [upd_ne (by omega), upd_ne (by omega), upd_ne (by omega), h2]
    · rw [upd_at]
    · have hk := tK_f2 hf (fun q => by rw [g1] at q; simp at q)
      refine ⟨by rw [gr_at, upd_ne (by omega), upd_ne (by omega), upd_ne (by omega), upd_ne (by omega), h2], fun q => by rw [hk] at q; omega, fun q => by rw [hk] at q; omega, fun q => by rw [hk] at q; omega, fun _ => ⟨by rw [gr_at, upd_at], ?_, ?_⟩⟩
      · rw [gr_at, upd_ne (by omega), upd_ne (by omega), upd_at, v1.1]
        congr 1
        omega
      · rw [gr_at, upd_ne (by omega), upd_at, v1.2]
  | true =>
    have f1 := fg_t g1
    have b1 := (ht.2.2 (e + 1) f1.1).2
    have v2 := tVN_2 hf g1
    have e49 : 48 ≤ (0 * 10 + b e - 48) * 10 + b (e + 1) := by omega
    simp (disch := first | omega | assumption) only [u58_0, u58_1, u58_2, u58_5, u58_6, u58_8, u58_9, u58_12, u58_13, u58_16, u58_17, u58_20, u58_23, u58_26, u58_27, u58_28, u58_31, u58_33, u58_34, u58_35, u58_38, u58_41, u58_42, u58_45, u58_46, u58_47, u58_49, u58_50, u58_53, u58_54, u58_54i, u58_55, u58_58, u58_59, u58_60, u58_63, u58_66, u58_70, u58_71, u58_74, u58_75, u58_78, u58_79, u58_80, u58_83, u58_85, u58_88, u58_90, u58_93, kc13, ks13_0, ks13_1, kk14, kl14, k1, k2, s2, s3, s4, s5, gr_at, gr_gr, upd_at, upd_ne, h3, hr, b1, nIsub, kc0, kc1, kc13, kc15, kc19, kc23, kc27, kc29, gb_z, z0, z1, n11, true_or, false_or, nb0, nb1, gb_01, nlt0, nge0, neq0, ngt0, nle0, m1lt, m1ge, true_implies, false_implies, not_true_eq_false, not_false_eq_true, Bool.true_eq_false, Bool.false_eq_true, eq_self, and_self, Nat.reduceEqDiff, Nat.reduceLT, gfv_s, gfv_n, gop1_s, nI_add, pk_mul, nIcl, vinT, nIle, nIlt, nIeq, true_and, and_true, List.cons_append, List.nil_append, List.length_nil, List.length_cons, Nat.zero_le, Nat.reduceLeDiff, Nat.reduceAdd, Nat.reduceMul]
    rw [u58_7]
    simp (disch := first | omega | assumption) only [u58_0, u58_1, u58_2, u58_5, u58_6, u58_8, u58_9, u58_12, u58_13, u58_16, u58_17, u58_20, u58_23, u58_26, u58_27, u58_28, u58_31, u58_33, u58_34, u58_35, u58_38, u58_41, u58_42, u58_45, u58_46, u58_47, u58_49, u58_50, u58_53, u58_54, u58_54i, u58_55, u58_58, u58_59, u58_60, u58_63, u58_66, u58_70, u58_71, u58_74, u58_75, u58_78, u58_79, u58_80, u58_83, u58_85, u58_88, u58_90, u58_93, kc13, ks13_0, ks13_1, kk14, kl14, k1, k2, s2, s3, s4, s5, gr_at, upd_at, upd_ne, h3, kc0, kc1, kc13, kc15, kc19, kc23, kc27, kc29, gb_z, z0, z1, n11, true_or, false_or, nb0, nb1, gb_01, nlt0, nge0, neq0, ngt0, nle0, m1lt, m1ge, true_implies, false_implies, not_true_eq_false, not_false_eq_true, Bool.true_eq_false, Bool.false_eq_true, eq_self, and_self, Nat.reduceEqDiff, Nat.reduceLT, gfv_s, gfv_n, gop1_s, nI_add, pk_mul, nIcl, vinT, nIle, nIlt, nIeq, true_and, and_true, List.cons_append, List.nil_append, List.length_nil, List.length_cons, Nat.zero_le, Nat.reduceLeDiff, Nat.reduceAdd, Nat.reduceMul]
    refine c_fig (hz _) (by omega) ?_
    cases g2 : fg b n (e + 1 + 1) with
    | false =>
      simp (disch := first | omega | assumption) only [u58_0, u58_1, u58_2, u58_5, u58_6, u58_8, u58_9, u58_12, u58_13, u58_16, u58_17, u58_20, u58_23, u58_26, u58_27, u58_28, u58_31, u58_33, u58_34, u58_35, u58_38, u58_41, u58_42, u58_45, u58_46, u58_47, u58_49, u58_50, u58_53, u58_54, u58_54i, u58_55, u58_58, u58_59, u58_60, u58_63, u58_66, u58_70, u58_71, u58_74, u58_75, u58_78, u58_79, u58_80, u58_83, u58_85, u58_88, u58_90, u58_93, kc13, ks13_0, ks13_1, kk14, kl14, kc0, kc1, kc13, kc15, kc19, kc23, kc27, kc29, gb_z, z0, z1, n11, true_or, false_or, nb0, nb1, gb_01, nlt0, nge0, neq0, ngt0, nle0, m1lt, m1ge, true_implies, false_implies, not_true_eq_false, not_false_eq_true, Bool.true_eq_false, Bool.false_eq_true, eq_self, and_self, Nat.reduceEqDiff, Nat.reduceLT, gfv_s, gfv_n, gop1_s, nI_add, pk_mul, nIcl, vinT, nIle, nIlt, nIeq, true_and, and_true, List.cons_append, List.nil_append, List.length_nil, List.length_cons, Nat.zero_le, Nat.reduceLeDiff, Nat.reduceAdd, Nat.reduceMul]
      refine tail _ (e + 1 + 1) _ _ ?_ ?_ rfl (by omega) (by omega) (fun _ => ?_) (fun q => by omega)
      · rw [upd_ne (by omega), upd_ne (by omega), upd_ne (by omega), upd_ne (by omega), upd_ne (by omega), h2]
      · rw [upd_at]
      · have hk := tK_f2 hf (fun q => by rw [g2] at q; simp at q)
        refine ⟨by rw [gr_at, upd_ne (by omega), upd_ne (by omega), upd_ne (by omega), upd_ne (by omega), upd_ne (by omega), upd_ne (by omega), h2], fun q => by rw [hk] at q; omega, fun q => by rw [hk] at q; omega, fun q => by rw [hk] at q; omega, fun _ => ⟨by rw [gr_at, upd_at], ?_, ?_⟩⟩
        · rw [gr_at, upd_ne (by omega), upd_ne (by omega), upd_at, v2.1]
          congr 1
          omega
        · rw [gr_at, upd_ne (by omega), upd_at, v2.2]
    | true =>
      have f2 := fg_t g2
      have b2 := (ht.2.2 (e + 1 + 1) f2.1).2
      have e50 : 48 ≤ ((0 * 10 + b e - 48) * 10 + b (e + 1) - 48) * 10 + b (e + 1 + 1) := by omega
      simp (disch := first | omega | assumption) only [u58_0, u58_1, u58_2, u58_5, u58_6, u58_8, u58_9, u58_12, u58_13, u58_16, u58_17, u58_20, u58_23, u58_26, u58_27, u58_28, u58_31, u58_33, u58_34, u58_35, u58_38, u58_41, u58_42, u58_45, u58_46, u58_47, u58_49, u58_50, u58_53, u58_54, u58_54i, u58_55, u58_58, u58_59, u58_60, u58_63, u58_66, u58_70, u58_71, u58_74, u58_75, u58_78, u58_79, u58_80, u58_83, u58_85, u58_88, u58_90, u58_93, kc13, ks13_0, ks13_1, kk14, kl14, k1, k2, s2, s3, s4, s5, gr_at, gr_gr, upd_at, upd_ne, h3, hr, b2, nIsub, kc0, kc1, kc13, kc15, kc19, kc23, kc27, kc29, gb_z, z0, z1, n11, true_or, false_or, nb0, nb1, gb_01, nlt0, nge0, neq0, ngt0, nle0, m1lt, m1ge, true_implies, false_implies, not_true_eq_false, not_false_eq_true, Bool.true_eq_false, Bool.false_eq_true, eq_self, and_self, Nat.reduceEqDiff, Nat.reduceLT, gfv_s, gfv_n, gop1_s, nI_add, pk_mul, nIcl, vinT, nIle, nIlt, nIeq, true_and, and_true, List.cons_append, List.nil_append, List.length_nil, List.length_cons, Nat.zero_le, Nat.reduceLeDiff, Nat.reduceAdd, Nat.reduceMul]
      rw [u58_7]
      simp (disch := first | omega | assumption) only [u58_0, u58_1, u58_2, u58_5, u58_6, u58_8, u58_9, u58_12, u58_13, u58_16, u58_17, u58_20, u58_23, u58_26, u58_27, u58_28, u58_31, u58_33, u58_34, u58_35, u58_38, u58_41, u58_42, u58_45, u58_46, u58_47, u58_49, u58_50, u58_53, u58_54, u58_54i, u58_55, u58_58, u58_59, u58_60, u58_63, u58_66, u58_70, u58_71, u58_74, u58_75, u58_78, u58_79, u58_80, u58_83, u58_85, u58_88, u58_90, u58_93, kc13, ks13_0, ks13_1, kk14, kl14, k1, k2, kc0, kc1, kc13, kc15, kc19, kc23, kc27, kc29, gb_z, z0, z1, n11, true_or, false_or, nb0, nb1, gb_01, nlt0, nge0, neq0, ngt0, nle0, m1lt, m1ge, true_implies, false_implies, not_true_eq_false, not_false_eq_true, Bool.true_eq_false, Bool.false_eq_true, eq_self, and_self, Nat.reduceEqDiff, Nat.reduceLT, gfv_s, gfv_n, gop1_s, nI_add, pk_mul, nIcl, vinT, nIle, nIlt, nIeq, true_and, and_true, List.cons_append, List.nil_append, List.length_nil, List.length_cons, Nat.zero_le, Nat.reduceLeDiff, Nat.reduceAdd, Nat.reduceMul]
      refine tail _ (e + 1 + 1 + 1) _ _ ?_ ?_ rfl (by omega) (by omega) (fun q => by omega) (fun _ => ?_)
      · rw [upd_ne (by omega), upd_ne (by omega), upd_ne (by omega), upd_ne (by omega), upd_ne (by omega), upd_ne (by omega), upd_ne (by omega), h2]
      · rw [upd_at]
      · have hk := tK_f3 hf g1 g2
        exact ⟨by rw [gr_at, upd_ne (by omega), upd_ne (by omega), upd_ne (by omega), upd_ne (by omega), upd_ne (by omega), upd_ne (by omega), upd_ne (by omega), upd_ne (by omega), h2], fun q => by rw [hk] at q; omega, fun _ => by rw [gr_at, upd_at], fun q => by rw [hk] at q; omega, fun q => by rw [hk] at q; omega⟩
end G72
