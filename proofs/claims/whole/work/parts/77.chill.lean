/-! the class reads a hill, whole -/
theorem glast {l : gS} {c : gC} : (l ++ [c])[l.length]? = some c := by simp
theorem gpr_last {l : gS} {c k o : Nat} {sl : List (Option Value)} {v : Value} (h : sl[k]? = some (some v)) : gpr (l ++ [.inr (c, sl)]) l.length c k o = some (l ++ [.inr (c, sl.set k (some (.ref o)))]) := by
  unfold gpr
  rw [glast]
  simp only [h, if_true]
  congr 1
  rw [List.set_append_right _ _ (Nat.le_refl _), Nat.sub_self]
  rfl
theorem gdf3 : gdf 3 = [some .null, some .null, none, none, none, none, none] := rfl
def gRd : gC := .inr (3, [some (.ref 13), some (.ref 19), none, none, none, none, none])
theorem gRe_l (l : gS) : gRe (l ++ [gRd]) l.length := by
  unfold gRe gci gsl gRd
  rw [glast]
  exact ⟨rfl, rfl, rfl, rfl, rfl, rfl, rfl, rfl⟩
section G77
variable {d : Nat} {rs : gS} {M : gM} {Q : gQ} {A n e : Nat} {b : Nat → Nat} {f : Nat → Nat}
theorem cR_end (hR : cR M A b n e) (ht : tpe M n b) : (M A 4 = -1) = (tK b n e = 3) := by
  obtain ⟨r2, r3, r0, r1, rn⟩ := hR
  rcases tK_c (b := b) (n := n) (e := e) with q | q | q | q
  · rw [r0 q, q]
    exact propext ⟨fun z => absurd z (by decide), fun z => absurd z (by omega)⟩
  · have hl := (tN_le (Or.inl q)).2
    have := (ht.2.2 e hl).1
    rw [(r1 q).1, q]
    exact propext ⟨fun z => absurd z (mneq (by omega) _ (by decide)), fun z => absurd z (by omega)⟩
  · rw [(rn q).1, q]
    exact propext ⟨fun z => absurd z (by decide), fun z => absurd z (by omega)⟩
  · rw [r3 q, q]
    exact propext ⟨fun z => rfl, fun z => rfl⟩
set_option maxHeartbeats 1000000 in
theorem c_readHill (hA : gRe (gSH ++ rs) A) (h43 : 43 ≤ A) (ht : tpe M n b) (hA3 : M A 3 = nI 0) (hQf : ∀ M' p r, pHill b n = .inl (p, r) → M' A 2 = nI p → M' A 6 = nI r → cW A M M' → Q [.int (nI 0)] (gSH ++ rs) M') (hQt : ∀ M' e f, pHill b n = .inr (e, f) → cH (M' 20) f → rOK f → cW A M M' → Q [.int (nI 1)] (gSH ++ rs) M') : gcl (d + 6) 50 [.ref A] (gSH ++ rs) M Q := by
  have hA' := hA
  obtain ⟨k1, k2, k3, s2, s3, s4, s5, s6⟩ := hA'
  have ending : ∀ M1 e (f : Nat → Nat) l1, cR M1 A b n e → cH (M1 20) f → rOK f → pEnd b n (e, f) = pHill b n → cW A M M1 → gR (gcl (d + 5)) (0, fun _ => 0) 50 87 [some (.ref A), l1] [] (gSH ++ rs) M1 0 0 Q := by
    intro M1 e f l1 i1 i2 i3 i4 i5
    have hk := cR_end i1 (tpe_w ht h43 i5)
    by_cases q : tK b n e = 3
    · rw [eq_true q] at hk
      simp (disch := first | omega | assumption) only [u50_0, u50_1, u50_4, u50_7, u50_8, u50_11, u50_12, u50_15, u50_18, u50_19, u50_20, u50_21, u50_23, u50_25, u50_28, u50_29, u50_32, u50_35, u50_37, u50_40, u50_41, u50_44, u50_47, u50_48, u50_49, u50_52, u50_55, u50_56, u50_58, u50_60, u50_63, u50_64, u50_67, u50_69, u50_72, u50_73, u50_76, u50_79, u50_80, u50_81, u50_84, u50_87, u50_88, u50_91, u50_92, u50_95, u50_96, u50_97, u50_100, u50_103, u50_104, u50_107, u50_108, k1, s4, hk, kc0, kc1, kc13, kc15, kc19, kc23, kc27, kc29, gb_z, z0, z1, n11, true_or, false_or, nb0, nb1, gb_01, nlt0, nge0, neq0, ngt0, nle0, m1lt, m1ge, true_implies, false_implies, not_true_eq_false, not_false_eq_true, Bool.true_eq_false, Bool.false_eq_true, eq_self, and_self, Nat.reduceEqDiff, Nat.reduceLT, gfv_s, gfv_n, gop1_s, nI_add, pk_mul, nIcl, vinT, nIle, nIlt, nIeq, true_and, and_true, List.cons_append, List.nil_append, List.length_nil, List.length_cons, Nat.zero_le, Nat.reduceLeDiff, Nat.reduceAdd, Nat.reduceMul]
      exact hQt M1 e f (by rw [← i4]; unfold pEnd; rw [if_pos q]) i2 i3 i5
    · rw [eq_false q] at hk
      simp (disch := first | omega | assumption) only [u50_0, u50_1, u50_4, u50_7, u50_8, u50_11, u50_12, u50_15, u50_18, u50_19, u50_20, u50_21, u50_23, u50_25, u50_28, u50_29, u50_32, u50_35, u50_37, u50_40, u50_41, u50_44, u50_47, u50_48, u50_49, u50_52, u50_55, u50_56, u50_58, u50_60, u50_63, u50_64, u50_67, u50_69, u50_72, u50_73, u50_76, u50_79, u50_80, u50_81, u50_84, u50_87, u50_88, u50_91, u50_92, u50_95, u50_96, u50_97, u50_100, u50_103, u50_104, u50_107, u50_108, k1, s4, hk, c_refuse hA, kc0, kc1, kc13, kc15, kc19, kc23, kc27, kc29, gb_z, z0, z1, n11, true_or, false_or, nb0, nb1, gb_01, nlt0, nge0, neq0, ngt0, nle0, m1lt, m1ge, true_implies, false_implies, not_true_eq_false, not_false_eq_true, Bool.true_eq_false, Bool.false_eq_true, eq_self, and_self, Nat.reduceEqDiff, Nat.reduceLT, gfv_s, gfv_n, gop1_s, nI_add, pk_mul, nIcl, vinT, nIle, nIlt, nIeq, true_and, and_true, List.cons_append, List.nil_append, List.length_nil, List.length_cons, Nat.zero_le, Nat.reduceLeDiff, Nat.reduceAdd, Nat.reduceMul]
      exact hQf _ e 1 (by rw [← i4]; unfold pEnd; rw [if_neg q]) (by rw [gr_at, upd_ne (by omega)]; exact i1.1) (by rw [gr_at, upd_at]) (cW_t i5 (cW_a (fun a ha => gr_ne ha)))
  have houses : ∀ m M1 e (f : Nat → Nat), m + f 3 = 5 → cR M1 A b n e → cH (M1 20) f → rOK f → pB (pHs b n m f e) (pEnd b n) = pHill b n → cW A M M1 → gR (gcl (d + 5)) (0, fun _ => 0) 50 57 [some (.ref A), some (.int (nI (f 3)))] [] (gSH ++ rs) M1 0 0 Q := by
    intro m
    induction m with
    | zero =>
      intro M1 e f hm i1 i2 i3 i4 i5
      have := i3.1.1.1.2.2.2
      omega
    | succ m ih =>
      intro M1 e f hm i1 i2 i3 i4 i5
      have hk := cR_tok (c := 118) i1 (tpe_w ht h43 i5) (by omega)
      have h3 := i3.1.1.1.2.2.2
      have q1 : ¬ 120 ≤ f 3 := by omega
      rw [pHs_s] at i4
      rw [u50_57]
      by_cases q : tIs b n e 118 = true
      · rw [eq_true q] at hk
        rw [if_pos q] at i4
        simp (disch := first | omega | assumption) only [u50_0, u50_1, u50_4, u50_7, u50_8, u50_11, u50_12, u50_15, u50_18, u50_19, u50_20, u50_21, u50_23, u50_25, u50_28, u50_29, u50_32, u50_35, u50_37, u50_40, u50_41, u50_44, u50_47, u50_48, u50_49, u50_52, u50_55, u50_56, u50_58, u50_60, u50_63, u50_64, u50_67, u50_69, u50_72, u50_73, u50_76, u50_79, u50_80, u50_81, u50_84, u50_88, u50_91, u50_92, u50_95, u50_96, u50_97, u50_100, u50_103, u50_104, u50_107, u50_108, k1, s4, hk, q1, kc0, kc1, kc13, kc15, kc19, kc23, kc27, kc29, gb_z, z0, z1, n11, true_or, false_or, nb0, nb1, gb_01, nlt0, nge0, neq0, ngt0, nle0, m1lt, m1ge, true_implies, false_implies, not_true_eq_false, not_false_eq_true, Bool.true_eq_false, Bool.false_eq_true, eq_self, and_self, Nat.reduceEqDiff, Nat.reduceLT, gfv_s, gfv_n, gop1_s, nI_add, pk_mul, nIcl, vinT, nIle, nIlt, nIeq, true_and, and_true, List.cons_append, List.nil_append, List.length_nil, List.length_cons, Nat.zero_le, Nat.reduceLeDiff, Nat.reduceAdd, Nat.reduceMul]
        refine c_readHouse hA h43 (tpe_w ht h43 i5) i1 i2 i3 q (fun M2 p r a1 a2 a3 a4 => ?_) (fun M2 e' f' a1 a2 a3 a4 a5 a6 => ?_)
        · simp (disch := first | omega | assumption) only [u50_0, u50_1, u50_4, u50_7, u50_8, u50_11, u50_12, u50_15, u50_18, u50_19, u50_20, u50_21, u50_23, u50_25, u50_28, u50_29, u50_32, u50_35, u50_37, u50_40, u50_41, u50_44, u50_47, u50_48, u50_49, u50_52, u50_55, u50_56, u50_58, u50_60, u50_63, u50_64, u50_67, u50_69, u50_72, u50_73, u50_76, u50_79, u50_80, u50_81, u50_84, u50_88, u50_91, u50_92, u50_95, u50_96, u50_97, u50_100, u50_103, u50_104, u50_107, u50_108, k1, kc0, kc1, kc13, kc15, kc19, kc23, kc27, kc29, gb_z, z0, z1, n11, true_or, false_or, nb0, nb1, gb_01, nlt0, nge0, neq0, ngt0, nle0, m1lt, m1ge, true_implies, false_implies, not_true_eq_false, not_false_eq_true, Bool.true_eq_false, Bool.false_eq_true, eq_self, and_self, Nat.reduceEqDiff, Nat.reduceLT, gfv_s, gfv_n, gop1_s, nI_add, pk_mul, nIcl, vinT, nIle, nIlt, nIeq, true_and, and_true, List.cons_append, List.nil_append, List.length_nil, List.length_cons, Nat.zero_le, Nat.reduceLeDiff, Nat.reduceAdd, Nat.reduceMul]
          exact hQf M2 p r (by rw [← i4, a1, pB_l, pB_l]) a2 a3 (cW_t i5 a4)
        · rw [a1, pB_r] at i4
          have := ih M2 e' f' (by omega) a2 a3 a4 i4 (cW_t i5 a6)
          rw [a5] at this
          simp (disch := first | omega | assumption) only [u50_0, u50_1, u50_4, u50_7, u50_8, u50_11, u50_12, u50_15, u50_18, u50_19, u50_20, u50_21, u50_23, u50_25, u50_28, u50_29, u50_32, u50_35, u50_37, u50_40, u50_41, u50_44, u50_47, u50_48, u50_49, u50_52, u50_55, u50_56, u50_58, u50_60, u50_63, u50_64, u50_67, u50_69, u50_72, u50_73, u50_76, u50_79, u50_80, u50_81, u50_84, u50_88, u50_91, u50_92, u50_95, u50_96, u50_97, u50_100, u50_103, u50_104, u50_107, u50_108, k1, kc0, kc1, kc13, kc15, kc19, kc23, kc27, kc29, gb_z, z0, z1, n11, true_or, false_or, nb0, nb1, gb_01, nlt0, nge0, neq0, ngt0, nle0, m1lt, m1ge, true_implies, false_implies, not_true_eq_false, not_false_eq_true, Bool.true_eq_false, Bool.false_eq_true, eq_self, and_self, Nat.reduceEqDiff, Nat.reduceLT, gfv_s, gfv_n, gop1_s, nI_add, pk_mul, nIcl, vinT, nIle, nIlt, nIeq, true_and, and_true, List.cons_append, List.nil_append, List.length_nil, List.length_cons, Nat.zero_le, Nat.reduceLeDiff, Nat.reduceAdd, Nat.reduceMul]
          exact this
      · rw [eq_false q] at hk
        rw [if_neg q, pB_r] at i4
        simp (disch := first | omega | assumption) only [u50_0, u50_1, u50_4, u50_7, u50_8, u50_11, u50_12, u50_15, u50_18, u50_19, u50_20, u50_21, u50_23, u50_25, u50_28, u50_29, u50_32, u50_35, u50_37, u50_40, u50_41, u50_44, u50_47, u50_48, u50_49, u50_52, u50_55, u50_56, u50_58, u50_60, u50_63, u50_64, u50_67, u50_69, u50_72, u50_73, u50_76, u50_79, u50_80, u50_81, u50_84, u50_88, u50_91, u50_92, u50_95, u50_96, u50_97, u50_100, u50_103, u50_104, u50_107, u50_108, k1, s4, hk, q1, kc0, kc1, kc13, kc15, kc19, kc23, kc27, kc29, gb_z, z0, z1, n11, true_or, false_or, nb0, nb1, gb_01, nlt0, nge0, neq0, ngt0, nle0, m1lt, m1ge, true_implies, false_implies, not_true_eq_false, not_false_eq_true, Bool.true_eq_false, Bool.false_eq_true, eq_self, and_self, Nat.reduceEqDiff, Nat.reduceLT, gfv_s, gfv_n, gop1_s, nI_add, pk_mul, nIcl, vinT, nIle, nIlt, nIeq, true_and, and_true, List.cons_append, List.nil_append, List.length_nil, List.length_cons, Nat.zero_le, Nat.reduceLeDiff, Nat.reduceAdd, Nat.reduceMul]
        exact ending M1 e f _ i1 i2 i3 i4 i5
  have trees : ∀ m M1 e (f : Nat → Nat), m + f 2 = 7 → f 3 = 0 → cR M1 A b n e → cH (M1 20) f → rOK f → pB (pTs b n m f e) (fun r => pB (pHs b n 5 r.2 r.1) (pEnd b n)) = pHill b n → cW A M M1 → gR (gcl (d + 5)) (0, fun _ => 0) 50 22 [some (.ref A), some (.int (nI (f 2)))] [] (gSH ++ rs) M1 0 0 Q := by
    intro m
    induction m with
    | zero =>
      intro M1 e f hm h3 i1 i2 i3 i4 i5
      have := i3.2.1
      omega
    | succ m ih =>
      intro M1 e f hm h3 i1 i2 i3 i4 i5
      have h6 := i3.2.1
      have h5s := tS_lt b n e
      have q1 : ¬ 120 ≤ f 2 := by omega
      rw [pTs_s] at i4
      rw [u50_22]
      by_cases q : tS b n e = 0
      · rw [if_pos q, pB_r] at i4
        simp (disch := first | omega | assumption) only [u50_0, u50_1, u50_4, u50_7, u50_8, u50_11, u50_12, u50_15, u50_18, u50_19, u50_20, u50_21, u50_23, u50_25, u50_28, u50_29, u50_32, u50_35, u50_37, u50_40, u50_41, u50_44, u50_47, u50_48, u50_49, u50_52, u50_55, u50_56, u50_58, u50_60, u50_63, u50_64, u50_67, u50_69, u50_72, u50_73, u50_76, u50_79, u50_80, u50_81, u50_84, u50_87, u50_88, u50_91, u50_92, u50_95, u50_96, u50_97, u50_100, u50_103, u50_104, u50_107, u50_108, k1, s4, q1, c_sortOf i1 (tpe_w ht h43 i5), q, if_true, kc0, kc1, kc13, kc15, kc19, kc23, kc27, kc29, gb_z, z0, z1, n11, true_or, false_or, nb0, nb1, gb_01, nlt0, nge0, neq0, ngt0, nle0, m1lt, m1ge, true_implies, false_implies, not_true_eq_false, not_false_eq_true, Bool.true_eq_false, Bool.false_eq_true, eq_self, and_self, Nat.reduceEqDiff, Nat.reduceLT, gfv_s, gfv_n, gop1_s, nI_add, pk_mul, nIcl, vinT, nIle, nIlt, nIeq, true_and, and_true, List.cons_append, List.nil_append, List.length_nil, List.length_cons, Nat.zero_le, Nat.reduceLeDiff, Nat.reduceAdd, Nat.reduceMul]
        have := houses 5 M1 e f (by omega) i1 i2 i3 i4 i5
        rw [h3] at this
        exact this
      · rw [if_neg q] at i4
        simp (disch := first | omega | assumption) only [u50_0, u50_1, u50_4, u50_7, u50_8, u50_11, u50_12, u50_15, u50_18, u50_19, u50_20, u50_21, u50_23, u50_25, u50_28, u50_29, u50_32, u50_35, u50_37, u50_40, u50_41, u50_44, u50_47, u50_48, u50_49, u50_52, u50_55, u50_56, u50_58, u50_60, u50_63, u50_64, u50_67, u50_69, u50_72, u50_73, u50_76, u50_79, u50_80, u50_81, u50_84, u50_87, u50_88, u50_91, u50_92, u50_95, u50_96, u50_97, u50_100, u50_103, u50_104, u50_107, u50_108, k1, s4, q1, c_sortOf i1 (tpe_w ht h43 i5), q, if_false, nIno, kc0, kc1, kc13, kc15, kc19, kc23, kc27, kc29, gb_z, z0, z1, n11, true_or, false_or, nb0, nb1, gb_01, nlt0, nge0, neq0, ngt0, nle0, m1lt, m1ge, true_implies, false_implies, not_true_eq_false, not_false_eq_true, Bool.true_eq_false, Bool.false_eq_true, eq_self, and_self, Nat.reduceEqDiff, Nat.reduceLT, gfv_s, gfv_n, gop1_s, nI_add, pk_mul, nIcl, vinT, nIle, nIlt, nIeq, true_and, and_true, List.cons_append, List.nil_append, List.length_nil, List.length_cons, Nat.zero_le, Nat.reduceLeDiff, Nat.reduceAdd, Nat.reduceMul]
        refine c_readTree hA h43 (tpe_w ht h43 i5) i1 i2 i3 q (fun M2 p r a1 a2 a3 a4 => ?_) (fun M2 e' f' a1 a2 a3 a4 a5 a6 a7 => ?_)
        · simp (disch := first | omega | assumption) only [u50_0, u50_1, u50_4, u50_7, u50_8, u50_11, u50_12, u50_15, u50_18, u50_19, u50_20, u50_21, u50_23, u50_25, u50_28, u50_29, u50_32, u50_35, u50_37, u50_40, u50_41, u50_44, u50_47, u50_48, u50_49, u50_52, u50_55, u50_56, u50_58, u50_60, u50_63, u50_64, u50_67, u50_69, u50_72, u50_73, u50_76, u50_79, u50_80, u50_81, u50_84, u50_87, u50_88, u50_91, u50_92, u50_95, u50_96, u50_97, u50_100, u50_103, u50_104, u50_107, u50_108, k1, kc0, kc1, kc13, kc15, kc19, kc23, kc27, kc29, gb_z, z0, z1, n11, true_or, false_or, nb0, nb1, gb_01, nlt0, nge0, neq0, ngt0, nle0, m1lt, m1ge, true_implies, false_implies, not_true_eq_false, not_false_eq_true, Bool.true_eq_false, Bool.false_eq_true, eq_self, and_self, Nat.reduceEqDiff, Nat.reduceLT, gfv_s, gfv_n, gop1_s, nI_add, pk_mul, nIcl, vinT, nIle, nIlt, nIeq, true_and, and_true, List.cons_append, List.nil_append, List.length_nil, List.length_cons, Nat.zero_le, Nat.reduceLeDiff, Nat.reduceAdd, Nat.reduceMul]
          exact hQf M2 p r (by rw [← i4, a1, pB_l, pB_l]) a2 a3 (cW_t i5 a4)
        · rw [a1, pB_r] at i4
          have := ih M2 e' f' (by omega) (by omega) a2 a3 a4 i4 (cW_t i5 a7)
          rw [a5] at this
          simp (disch := first | omega | assumption) only [u50_0, u50_1, u50_4, u50_7, u50_8, u50_11, u50_12, u50_15, u50_18, u50_19, u50_20, u50_21, u50_23, u50_25, u50_28, u50_29, u50_32, u50_35, u50_37, u50_40, u50_41, u50_44, u50_47, u50_48, u50_49, u50_52, u50_55, u50_56, u50_58, u50_60, u50_63, u50_64, u50_67, u50_69, u50_72, u50_73, u50_76, u50_79, u50_80, u50_81, u50_84, u50_87, u50_88, u50_91, u50_92, u50_95, u50_96, u50_97, u50_100, u50_103, u50_104, u50_107, u50_108, k1, kc0, kc1, kc13, kc15, kc19, kc23, kc27, kc29, gb_z, z0, z1, n11, true_or, false_or, nb0, nb1, gb_01, nlt0, nge0, neq0, ngt0, nle0, m1lt, m1ge, true_implies, false_implies, not_true_eq_false, not_false_eq_true, Bool.true_eq_false, Bool.false_eq_true, eq_self, and_self, Nat.reduceEqDiff, Nat.reduceLT, gfv_s, gfv_n, gop1_s, nI_add, pk_mul, nIcl, vinT, nIle, nIlt, nIeq, true_and, and_true, List.cons_append, List.nil_append, List.length_nil, List.length_cons, Nat.zero_le, Nat.reduceLeDiff, Nat.reduceAdd, Nat.reduceMul]
          exact this
  rw [e50]
  simp (disch := first | omega | assumption) only [u50_0, u50_1, u50_4, u50_7, u50_8, u50_11, u50_12, u50_15, u50_18, u50_19, u50_20, u50_21, u50_23, u50_25, u50_28, u50_29, u50_32, u50_35, u50_37, u50_40, u50_41, u50_44, u50_47, u50_48, u50_49, u50_52, u50_55, u50_56, u50_58, u50_60, u50_63, u50_64, u50_67, u50_69, u50_72, u50_73, u50_76, u50_79, u50_80, u50_81, u50_84, u50_87, u50_88, u50_91, u50_92, u50_95, u50_96, u50_97, u50_100, u50_103, u50_104, u50_107, u50_108, kc19, ks19_0, ks19_1, ks19_2, k1, k3, kc0, kc1, kc13, kc15, kc19, kc23, kc27, kc29, gb_z, z0, z1, n11, true_or, false_or, nb0, nb1, gb_01, nlt0, nge0, neq0, ngt0, nle0, m1lt, m1ge, true_implies, false_implies, not_true_eq_false, not_false_eq_true, Bool.true_eq_false, Bool.false_eq_true, eq_self, and_self, Nat.reduceEqDiff, Nat.reduceLT, gfv_s, gfv_n, gop1_s, nI_add, pk_mul, nIcl, vinT, nIle, nIlt, nIeq, true_and, and_true, List.cons_append, List.nil_append, List.length_nil, List.length_cons, Nat.zero_le, Nat.reduceLeDiff, Nat.reduceAdd, Nat.reduceMul]
  refine c_clearAll (gHl_then rs) (fun M1 a1 a2 => ?_)
  simp (disch := first | omega | assumption) only [u50_0, u50_1, u50_4, u50_7, u50_8, u50_11, u50_12, u50_15, u50_18, u50_19, u50_20, u50_21, u50_23, u50_25, u50_28, u50_29, u50_32, u50_35, u50_37, u50_40, u50_41, u50_44, u50_47, u50_48, u50_49, u50_52, u50_55, u50_56, u50_58, u50_60, u50_63, u50_64, u50_67, u50_69, u50_72, u50_73, u50_76, u50_79, u50_80, u50_81, u50_84, u50_87, u50_88, u50_91, u50_92, u50_95, u50_96, u50_97, u50_100, u50_103, u50_104, u50_107, u50_108, k1, kc0, kc1, kc13, kc15, kc19, kc23, kc27, kc29, gb_z, z0, z1, n11, true_or, false_or, nb0, nb1, gb_01, nlt0, nge0, neq0, ngt0, nle0, m1lt, m1ge, true_implies, false_implies, not_true_eq_false, not_false_eq_true, Bool.true_eq_false, Bool.false_eq_true, eq_self, and_self, Nat.reduceEqDiff, Nat.reduceLT, gfv_s, gfv_n, gop1_s, nI_add, pk_mul, nIcl, vinT, nIle, nIlt, nIeq, true_and, and_true, List.cons_append, List.nil_append, List.length_nil, List.length_cons, Nat.zero_le, Nat.reduceLeDiff, Nat.reduceAdd, Nat.reduceMul]
  have w1 : cW A M M1 := cW_20 a2
  refine c_advance hA h43 (tpe_w ht h43 w1) (e := 0) (by rw [a2 A (by omega)]; exact hA3) (by omega) (fun M2 b1 b2 => ?_)
  simp (disch := first | omega | assumption) only [u50_0, u50_1, u50_4, u50_7, u50_8, u50_11, u50_12, u50_15, u50_18, u50_19, u50_20, u50_21, u50_23, u50_25, u50_28, u50_29, u50_32, u50_35, u50_37, u50_40, u50_41, u50_44, u50_47, u50_48, u50_49, u50_52, u50_55, u50_56, u50_58, u50_60, u50_63, u50_64, u50_67, u50_69, u50_72, u50_73, u50_76, u50_79, u50_80, u50_81, u50_84, u50_87, u50_88, u50_91, u50_92, u50_95, u50_96, u50_97, u50_100, u50_103, u50_104, u50_107, u50_108, k1, kc0, kc1, kc13, kc15, kc19, kc23, kc27, kc29, gb_z, z0, z1, n11, true_or, false_or, nb0, nb1, gb_01, nlt0, nge0, neq0, ngt0, nle0, m1lt, m1ge, true_implies, false_implies, not_true_eq_false, not_false_eq_true, Bool.true_eq_false, Bool.false_eq_true, eq_self, and_self, Nat.reduceEqDiff, Nat.reduceLT, gfv_s, gfv_n, gop1_s, nI_add, pk_mul, nIcl, vinT, nIle, nIlt, nIeq, true_and, and_true, List.cons_append, List.nil_append, List.length_nil, List.length_cons, Nat.zero_le, Nat.reduceLeDiff, Nat.reduceAdd, Nat.reduceMul]
  have w2 : cW A M M2 := cW_t w1 (cW_a b2)
  refine c_readLaw hA h43 (tpe_w ht h43 w2) b1 (fun k hk => by rw [b2 20 (by omega)]; exact a1 k hk) (fun M3 p r c1 c2 c3 c4 => ?_) (fun M3 e f c1 c2 c3 c4 c5 c6 c7 => ?_)
  · simp (disch := first | omega | assumption) only [u50_0, u50_1, u50_4, u50_7, u50_8, u50_11, u50_12, u50_15, u50_18, u50_19, u50_20, u50_21, u50_23, u50_25, u50_28, u50_29, u50_32, u50_35, u50_37, u50_40, u50_41, u50_44, u50_47, u50_48, u50_49, u50_52, u50_55, u50_56, u50_58, u50_60, u50_63, u50_64, u50_67, u50_69, u50_72, u50_73, u50_76, u50_79, u50_80, u50_81, u50_84, u50_87, u50_88, u50_91, u50_92, u50_95, u50_96, u50_97, u50_100, u50_103, u50_104, u50_107, u50_108, k1, kc0, kc1, kc13, kc15, kc19, kc23, kc27, kc29, gb_z, z0, z1, n11, true_or, false_or, nb0, nb1, gb_01, nlt0, nge0, neq0, ngt0, nle0, m1lt, m1ge, true_implies, false_implies, not_true_eq_false, not_false_eq_true, Bool.true_eq_false, Bool.false_eq_true, eq_self, and_self, Nat.reduceEqDiff, Nat.reduceLT, gfv_s, gfv_n, gop1_s, nI_add, pk_mul, nIcl, vinT, nIle, nIlt, nIeq, true_and, and_true, List.cons_append, List.nil_append, List.length_nil, List.length_cons, Nat.zero_le, Nat.reduceLeDiff, Nat.reduceAdd, Nat.reduceMul]
    exact hQf M3 p r (by unfold pHill; rw [c1, pB_l]) c2 c3 (cW_t w2 c4)
  · have := trees 7 M3 e f (by omega) c6 c2 c3 c4 (by unfold pHill; rw [c1, pB_r]) (cW_t w2 c7)
    rw [c5] at this
    simp (disch := first | omega | assumption) only [u50_0, u50_1, u50_4, u50_7, u50_8, u50_11, u50_12, u50_15, u50_18, u50_19, u50_20, u50_21, u50_23, u50_25, u50_28, u50_29, u50_32, u50_35, u50_37, u50_40, u50_41, u50_44, u50_47, u50_48, u50_49, u50_52, u50_55, u50_56, u50_58, u50_60, u50_63, u50_64, u50_67, u50_69, u50_72, u50_73, u50_76, u50_79, u50_80, u50_81, u50_84, u50_87, u50_88, u50_91, u50_92, u50_95, u50_96, u50_97, u50_100, u50_103, u50_104, u50_107, u50_108, k1, kc0, kc1, kc13, kc15, kc19, kc23, kc27, kc29, gb_z, z0, z1, n11, true_or, false_or, nb0, nb1, gb_01, nlt0, nge0, neq0, ngt0, nle0, m1lt, m1ge, true_implies, false_implies, not_true_eq_false, not_false_eq_true, Bool.true_eq_false, Bool.false_eq_true, eq_self, and_self, Nat.reduceEqDiff, Nat.reduceLT, gfv_s, gfv_n, gop1_s, nI_add, pk_mul, nIcl, vinT, nIle, nIlt, nIeq, true_and, and_true, List.cons_append, List.nil_append, List.length_nil, List.length_cons, Nat.zero_le, Nat.reduceLeDiff, Nat.reduceAdd, Nat.reduceMul]
    exact this
theorem g80a : gro1 80 0 0 1 7 = True := eq_true (by unfold gro1; decide)
theorem g80b : gro1 80 1 7 0 0 = True := eq_true (by unfold gro1; decide)
theorem g80c : gfin 80 1 7 = True := eq_true (by unfold gfin; rw [if_neg (by decide)]; decide)
theorem c_rinit {l : gS} : gcl (d + 1) 49 [.ref l.length, .ref 13, .ref 19] (l ++ [.inr (3, gdf 3)]) M Q = Q [] (l ++ [gRd]) (gr M l.length (upd (upd (upd (upd (upd (M l.length) 2 (nI 0)) 3 (nI 0)) 4 (-1)) 5 (nI 0)) 6 (nI 0))) := by
  have c3 : gci (l ++ [.inr (3, gdf 3)]) l.length = some 3 := by unfold gci; rw [glast]
  have t2 : gsl (l ++ [.inr (3, gdf 3)]) l.length 2 = some none := by unfold gsl; rw [glast]; rfl
  have t3 : gsl (l ++ [.inr (3, gdf 3)]) l.length 3 = some none := by unfold gsl; rw [glast]; rfl
  have t4 : gsl (l ++ [.inr (3, gdf 3)]) l.length 4 = some none := by unfold gsl; rw [glast]; rfl
  have t5 : gsl (l ++ [.inr (3, gdf 3)]) l.length 5 = some none := by unfold gsl; rw [glast]; rfl
  have t6 : gsl (l ++ [.inr (3, gdf 3)]) l.length 6 = some none := by unfold gsl; rw [glast]; rfl
  have p0 : gpr (l ++ [.inr (3, gdf 3)]) l.length 3 0 13 = some (l ++ [.inr (3, [some (.ref 13), some .null, none, none, none, none, none])]) := gpr_last (v := .null) rfl
  have p1 : gpr (l ++ [.inr (3, [some (.ref 13), some .null, none, none, none, none, none])]) l.length 3 1 19 = some (l ++ [gRd]) := gpr_last (v := .null) rfl
  rw [e49]
  simp (disch := first | omega | assumption) only [u49_0, u49_1, u49_4, u49_5, u49_6, u49_9, u49_10, u49_11, u49_14, u49_15, u49_16, u49_19, u49_20, u49_21, u49_24, u49_25, u49_26, u49_29, u49_30, u49_31, u49_34, u49_35, u49_36, u49_39, c3, t2, t3, t4, t5, t6, p0, p1, gr_at, gr_gr, kc0, kc1, kc13, kc15, kc19, kc23, kc27, kc29, gb_z, z0, z1, n11, true_or, false_or, nb0, nb1, gb_01, nlt0, nge0, neq0, ngt0, nle0, m1lt, m1ge, true_implies, false_implies, not_true_eq_false, not_false_eq_true, Bool.true_eq_false, Bool.false_eq_true, eq_self, and_self, Nat.reduceEqDiff, Nat.reduceLT, gfv_s, gfv_n, gop1_s, nI_add, pk_mul, nIcl, vinT, nIle, nIlt, nIeq, true_and, and_true, List.cons_append, List.nil_append, List.length_nil, List.length_cons, Nat.zero_le, Nat.reduceLeDiff, Nat.reduceAdd, Nat.reduceMul]
set_option maxHeartbeats 1000000 in
theorem c_hill (ht : tpe M n b) (hQf : ∀ M' p r, pHill b n = .inl (p, r) → M' 13 = upd (M 13) 1 (nI 0) → M' 0 = upd (M 0) 9 (nI r) → (∀ a, a < 43 → a ≠ 0 → a ≠ 13 → a ≠ 20 → M' a = M a) → Q [.int ((-1000100) - nI p)] (gSH ++ (rs ++ [gRd])) M') (hQt : ∀ M' e f, pHill b n = .inr (e, f) → rOK f → cH (M' 16) f → M' 13 = upd (M 13) 1 (nI 0) → M' 0 = upd (M 0) 8 (nI 1) → M' 23 = upd (upd (M 23) 1 (nI 0)) 2 (nI 0) → (∀ a, a < 43 → a ≠ 0 → a ≠ 13 → a ≠ 16 → a ≠ 20 → a ≠ 23 → M' a = M a) → Q [.int (nI (f 3))] (gSH ++ (rs ++ [gRd])) M') : gcl (d + 7) 80 [.ref 0] (gSH ++ rs) M Q := by
  have hlen : 43 ≤ (gSH ++ rs).length := by rw [List.length_append]; exact Nat.le_add_right 43 _
  have hA : gRe (gSH ++ (rs ++ [gRd])) (gSH ++ rs).length := by rw [← List.append_assoc]; exact gRe_l _
  have hs : gSH ++ rs ++ [.inr (3, gdf 3)] = gSH ++ (rs ++ [.inr (3, gdf 3)]) := List.append_assoc _ _ _
  generalize hAA : (gSH ++ rs).length = A at hlen hA
  have hA' := hA
  obtain ⟨k1, k2, k3, s2, s3, s4, s5, s6⟩ := hA'
  have ri : ∀ (M9 : gM) (Q9 : gQ), gcl (d + 6) 49 [.ref A, .ref 13, .ref 19] (gSH ++ (rs ++ [.inr (3, gdf 3)])) M9 Q9 = Q9 [] (gSH ++ (rs ++ [gRd])) (gr M9 A (upd (upd (upd (upd (upd (M9 A) 2 (nI 0)) 3 (nI 0)) 4 (-1)) 5 (nI 0)) 6 (nI 0))) := fun M9 Q9 => by
    rw [← List.append_assoc, ← List.append_assoc, ← hAA]
    exact c_rinit
  rw [e80, u80_0, hAA, hs]
  simp (disch := first | omega | assumption) only [u80_0, u80_3, u80_3i, u80_4, u80_5, u80_8, u80_9, u80_12, u80_15, u80_16, u80_17, u80_20, u80_21, u80_22, u80_25, u80_26, u80_29, u80_30, u80_33, u80_34, u80_35, u80_38, u80_41, u80_43, u80_44, u80_47, u80_48, u80_49, u80_50, u80_53, u80_54, u80_57, u80_60, u80_61, u80_62, u80_62z, u80_65, u80_66, u80_69, u80_72, u80_73, u80_76, u80_79, kc0, ks0_0, ks0_1, ks0_2, ks0_3, ks0_4, ks0_5, ks0_6, ks0_7, ks0_8, ks0_9, ks0_10, k1, ri, g80a, g80b, gr_gr, kc0, kc1, kc13, kc15, kc19, kc23, kc27, kc29, gb_z, z0, z1, n11, true_or, false_or, nb0, nb1, gb_01, nlt0, nge0, neq0, ngt0, nle0, m1lt, m1ge, true_implies, false_implies, not_true_eq_false, not_false_eq_true, Bool.true_eq_false, Bool.false_eq_true, eq_self, and_self, Nat.reduceEqDiff, Nat.reduceLT, gfv_s, gfv_n, gop1_s, nI_add, pk_mul, nIcl, vinT, nIle, nIlt, nIeq, true_and, and_true, List.cons_append, List.nil_append, List.length_nil, List.length_cons, Nat.zero_le, Nat.reduceLeDiff, Nat.reduceAdd, Nat.reduceMul]
  refine c_readHill hA hlen (tpe_c ht (gr_ne (by omega)) (gr_ne (by omega))) (by rw [gr_at]; rfl) (fun M1 p r a1 a2 a3 a4 => ?_) (fun M1 e f a1 a2 a3 a4 => ?_)
  · have f1 : ∀ a, a < 43 → a ≠ 20 → M1 a = M a := fun a w1 w2 => by rw [a4 a (by omega) w2, gr_ne (by omega)]
    have g6 : ∀ A2 : Nat → Int32, gr M1 13 A2 A 6 = nI r := fun A2 => by rw [gr_ne (by omega)]; exact a3
    have g2 : ∀ A2 A3 : Nat → Int32, gr (gr M1 13 A2) 0 A3 A 2 = nI p := fun A2 A3 => by rw [gr_ne (by omega), gr_ne (by omega)]; exact a2
    simp (disch := first | omega | assumption) only [u80_0, u80_3, u80_3i, u80_4, u80_5, u80_8, u80_9, u80_12, u80_15, u80_16, u80_17, u80_20, u80_21, u80_22, u80_25, u80_26, u80_29, u80_30, u80_33, u80_34, u80_35, u80_38, u80_41, u80_43, u80_44, u80_47, u80_48, u80_49, u80_50, u80_53, u80_54, u80_57, u80_60, u80_61, u80_62, u80_62z, u80_65, u80_66, u80_69, u80_72, u80_73, u80_76, u80_79, kc0, ks0_0, ks0_1, ks0_2, ks0_3, ks0_4, ks0_5, ks0_6, ks0_7, ks0_8, ks0_9, ks0_10, kc13, ks13_0, ks13_1, k1, s2, s6, g6, g2, g80b, g80c, kc0, kc1, kc13, kc15, kc19, kc23, kc27, kc29, gb_z, z0, z1, n11, true_or, false_or, nb0, nb1, gb_01, nlt0, nge0, neq0, ngt0, nle0, m1lt, m1ge, true_implies, false_implies, not_true_eq_false, not_false_eq_true, Bool.true_eq_false, Bool.false_eq_true, eq_self, and_self, Nat.reduceEqDiff, Nat.reduceLT, gfv_s, gfv_n, gop1_s, nI_add, pk_mul, nIcl, vinT, nIle, nIlt, nIeq, true_and, and_true, List.cons_append, List.nil_append, List.length_nil, List.length_cons, Nat.zero_le, Nat.reduceLeDiff, Nat.reduceAdd, Nat.reduceMul]
    refine hQf _ p r a1 ?_ ?_ (fun a w1 w2 w3 w4 => ?_)
    · rw [gr_ne (by omega), gr_at, f1 13 (by omega) (by omega)]
    · rw [gr_at, gr_ne (by omega), f1 0 (by omega) (by omega)]
    · rw [gr_ne w2, gr_ne w3, f1 a w1 w4]
  · have f1 : ∀ a, a < 43 → a ≠ 20 → M1 a = M a := fun a w1 w2 => by rw [a4 a (by omega) w2, gr_ne (by omega)]
    have hw := a3.1.1.1.2.2
    simp (disch := first | omega | assumption) only [u80_0, u80_3, u80_3i, u80_4, u80_5, u80_8, u80_9, u80_12, u80_15, u80_16, u80_17, u80_20, u80_21, u80_22, u80_25, u80_26, u80_29, u80_30, u80_33, u80_34, u80_35, u80_38, u80_41, u80_43, u80_44, u80_47, u80_48, u80_49, u80_50, u80_53, u80_54, u80_57, u80_60, u80_61, u80_62, u80_62z, u80_65, u80_66, u80_69, u80_72, u80_73, u80_76, u80_79, kc0, ks0_0, ks0_1, ks0_2, ks0_3, ks0_4, ks0_5, ks0_6, ks0_7, ks0_8, ks0_9, ks0_10, kc13, ks13_0, ks13_1, kc15, ks15_0, ks15_1, ks15_2, kc19, ks19_0, ks19_1, ks19_2, k1, g80b, g80c, kc0, kc1, kc13, kc15, kc19, kc23, kc27, kc29, gb_z, z0, z1, n11, true_or, false_or, nb0, nb1, gb_01, nlt0, nge0, neq0, ngt0, nle0, m1lt, m1ge, true_implies, false_implies, not_true_eq_false, not_false_eq_true, Bool.true_eq_false, Bool.false_eq_true, eq_self, and_self, Nat.reduceEqDiff, Nat.reduceLT, gfv_s, gfv_n, gop1_s, nI_add, pk_mul, nIcl, vinT, nIle, nIlt, nIeq, true_and, and_true, List.cons_append, List.nil_append, List.length_nil, List.length_cons, Nat.zero_le, Nat.reduceLeDiff, Nat.reduceAdd, Nat.reduceMul]
    refine c_become (gHl_now _) (gHl_then _) (fun M2 b1 b2 => ?_)
    have hH : cH (M2 16) f := cH_c hw.1 hw.2 a2 (fun k hk => by rw [b1 k hk, gr_ne (by omega)])
    have e2 : M2 16 2 = nI (f 3) := hH.2.2.1
    have g16 : ∀ A2 A3 : Nat → Int32, gr (gr M2 0 A2) 23 A3 16 = M2 16 := fun A2 A3 => by rw [gr_ne (by omega), gr_ne (by omega)]
    simp (disch := first | omega | assumption) only [u80_0, u80_3, u80_3i, u80_4, u80_5, u80_8, u80_9, u80_12, u80_15, u80_16, u80_17, u80_20, u80_21, u80_22, u80_25, u80_26, u80_29, u80_30, u80_33, u80_34, u80_35, u80_38, u80_41, u80_43, u80_44, u80_47, u80_48, u80_49, u80_50, u80_53, u80_54, u80_57, u80_60, u80_61, u80_62, u80_62z, u80_65, u80_66, u80_69, u80_72, u80_73, u80_76, u80_79, kc0, ks0_0, ks0_1, ks0_2, ks0_3, ks0_4, ks0_5, ks0_6, ks0_7, ks0_8, ks0_9, ks0_10, kc13, ks13_0, ks13_1, kc15, ks15_0, ks15_1, ks15_2, kc23, ks23_0, ks23_1, ks23_2, k1, g80b, g80c, c_forgetAll, c_houses (gHl_now _), g16, e2, kc0, kc1, kc13, kc15, kc19, kc23, kc27, kc29, gb_z, z0, z1, n11, true_or, false_or, nb0, nb1, gb_01, nlt0, nge0, neq0, ngt0, nle0, m1lt, m1ge, true_implies, false_implies, not_true_eq_false, not_false_eq_true, Bool.true_eq_false, Bool.false_eq_true, eq_self, and_self, Nat.reduceEqDiff, Nat.reduceLT, gfv_s, gfv_n, gop1_s, nI_add, pk_mul, nIcl, vinT, nIle, nIlt, nIeq, true_and, and_true, List.cons_append, List.nil_append, List.length_nil, List.length_cons, Nat.zero_le, Nat.reduceLeDiff, Nat.reduceAdd, Nat.reduceMul]
    have f2 : ∀ a, a < 43 → a ≠ 13 → a ≠ 16 → a ≠ 20 → M2 a = M a := fun a w1 w2 w3 w4 => by rw [b2 a w3, gr_ne w2, f1 a w1 w4]
    refine hQt _ e f a1 a3 (by rw [g16]; exact hH) ?_ ?_ ?_ (fun a w1 w2 w3 w4 w5 w6 => ?_)
    · rw [gr_ne (by omega), gr_ne (by omega), b2 13 (by omega), gr_at, f1 13 (by omega) (by omega)]
    · rw [gr_ne (by omega), gr_at, f2 0 (by omega) (by omega) (by omega) (by omega)]
    · rw [gr_at, gr_ne (by omega), f2 23 (by omega) (by omega) (by omega) (by omega)]
    · rw [gr_ne w6, gr_ne w2, f2 a w1 w3 w4 w5]
end G77
