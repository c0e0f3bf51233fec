/-! the reference: light -/
section G23
variable {d : Nat} {rs : gS} {M : gM} {Q : gQ} {f : Nat → Nat}
theorem m_in {a b c : Int64} {sh : gS} : gcl (d + 1) 123 [.long a, .long b, .long c] sh M Q = Q [.int (if b ≤ a ∧ a ≤ c then nI 1 else nI 0)] sh M := by
  rw [e123]
  simp only [u123_0, u123_1, u123_2, u123_3, u123_6, u123_7, u123_9, u123_10, u123_13, u123_14, u123_17, u123_18, gfv_s, gfv_n, gop1_s, nI_add, pk_mul, nIcl, vinT, nIle, nIlt, nIeq, true_and, and_true, List.cons_append, List.nil_append, List.length_nil, List.length_cons, Nat.zero_le, Nat.reduceLeDiff, Nat.reduceAdd, Nat.reduceMul]
  by_cases h1 : b ≤ a
  · by_cases h2 : a ≤ c
    · have e1 : ¬ lg_cmp a b < 0 := by rw [← lg_cmp_ge] at h1; exact fun q => by have := Int32.lt_iff_toInt_lt.mp q; have := Int32.le_iff_toInt_le.mp h1; omega
      have e2 : ¬ 0 < lg_cmp a c := by
        unfold lg_cmp
        intro q
        split at q
        · rename_i h3
          have h4 := Int64.lt_iff_toInt_lt.mp h3
          have h5 := Int64.le_iff_toInt_le.mp h2
          omega
        · split at q <;> exact absurd q (by decide)
      rw [if_pos ⟨h1, h2⟩]
      exact propext ⟨fun h => ((h.2 e1).2 e2).2, fun h => ⟨fun q => absurd q e1, fun _ => ⟨fun q => absurd q e2, fun _ => ⟨Or.inr rfl, h⟩⟩⟩⟩
    · have e1 : ¬ lg_cmp a b < 0 := by rw [← lg_cmp_ge] at h1; exact fun q => by have := Int32.lt_iff_toInt_lt.mp q; have := Int32.le_iff_toInt_le.mp h1; omega
      have e2 : 0 < lg_cmp a c := by
        unfold lg_cmp
        rw [if_pos (by rw [gt_iff_lt, Int64.lt_iff_toInt_lt]; rw [Int64.le_iff_toInt_le] at h2; omega)]
        decide
      rw [if_neg (fun q => h2 q.2)]
      exact propext ⟨fun h => ((h.2 e1).1 e2).2, fun h => ⟨fun q => absurd q e1, fun _ => ⟨fun _ => ⟨Or.inl rfl, h⟩, fun q => absurd e2 q⟩⟩⟩
  · have e1 : lg_cmp a b < 0 := by
      have h3 : ¬ (0 ≤ lg_cmp a b) := fun q => h1 ((lg_cmp_ge a b).mp q)
      rw [Int32.lt_iff_toInt_lt]
      rw [Int32.le_iff_toInt_le] at h3
      omega
    rw [if_neg (fun q => h1 q.1)]
    exact propext ⟨fun h => (h.1 e1).2, fun h => ⟨fun _ => ⟨Or.inl rfl, h⟩, fun q => absurd e1 q⟩⟩
theorem m_falls {s : Nat} (hS : ∀ k, k < 46 → M 33 k = nI (f k)) (hf : aWf f) (hs : s < 4) : gcl (d + 1) 149 [.ref 29, .int (nI s)] (gSH ++ rs) M Q = Q [.int (nI (aFall f s))] (gSH ++ rs) M := by
  have h1 : f 1 * s ≤ 2 * 3 := Nat.mul_le_mul hf.1.2.1 (by omega)
  have h0 := hf.1.1
  rw [e149]
  simp (disch := omega) only [u149_0, u149_1, u149_2, u149_5, u149_6, u149_7, u149_8, u149_9, u149_10, u149_11, u149_14, u149_15, u149_16, u149_17, u149_18, u149_19, u149_20, u149_23, u149_24, u149_27, u149_28, kc29, ks29_0, ks29_1, ks29_2, ks29_3, ks29_4, ks29_5, ks29_6, ks29_7, ks29_8, ks29_9, ks29_10, ks29_11, ks29_12, ks29_13, ks29_14, ks29_15, ks29_16, ks29_17, ks29_18, ks29_19, ks29_20, ks29_21, ks29_22, ks29_23, ks29_24, kk33, kl33, hS, nIdle, gfv_s, gfv_n, gop1_s, nI_add, pk_mul, nIcl, vinT, nIle, nIlt, nIeq, true_and, and_true, List.cons_append, List.nil_append, List.length_nil, List.length_cons, Nat.zero_le, Nat.reduceLeDiff, Nat.reduceAdd, Nat.reduceMul]
  unfold aFall
  by_cases h : f 0 + 1 ≤ 3 + f 1 * s
  · rw [if_pos h, nIsub (by omega)]
    exact propext ⟨fun q => q.1 (by omega), fun q => ⟨fun _ => q, fun z => absurd (by omega) z⟩⟩
  · rw [if_neg h]
    exact propext ⟨fun q => q.2 (by omega), fun q => ⟨fun z => absurd z (by omega), fun _ => q⟩⟩
theorem aPop_step : ∀ n, n < 64 → n ≠ 0 → aPop (n &&& (n - 1)) + 1 = aPop n ∧ n &&& (n - 1) < n := by decide +kernel
theorem m_ones {n : Nat} {sh : gS} (hn : n < 64) (hQ : Q [.int (nI (aPop n))] sh M) : gcl (d + 1) 125 [.int (nI n)] sh M Q := by
  have loop : ∀ (l9 : Option Value) k n c, n ≤ k → n < 64 → Q [.int (nI (c + aPop n))] sh M → gR (gcl d) (0, fun _ => 0) 125 4 [l9, some (.int (nI c)), some (.int (nI n))] [] sh M 0 0 Q := by
    intro l9 k
    induction k with
    | zero =>
      intro n c h1 h2 hq
      obtain rfl : n = 0 := by omega
      rw [u125_4]
      simp (disch := omega) only [u125_0, u125_1, u125_2, u125_3, u125_5, u125_8, u125_11, u125_12, u125_13, u125_14, u125_15, u125_16, u125_17, u125_20, u125_21, nIz, nIeq, gfv_s, gfv_n, gop1_s, nI_add, pk_mul, nIcl, vinT, nIle, nIlt, nIeq, true_and, and_true, List.cons_append, List.nil_append, List.length_nil, List.length_cons, Nat.zero_le, Nat.reduceLeDiff, Nat.reduceAdd, Nat.reduceMul]
      exact ⟨fun _ => hq, fun q => absurd trivial q⟩
    | succ k ih =>
      intro n c h1 h2 hq
      rw [u125_4]
      simp (disch := omega) only [u125_0, u125_1, u125_2, u125_3, u125_5, u125_8, u125_11, u125_12, u125_13, u125_14, u125_15, u125_16, u125_17, u125_20, u125_21, nIz, nIeq, nIand, gfv_s, gfv_n, gop1_s, nI_add, pk_mul, nIcl, vinT, nIle, nIlt, nIeq, true_and, and_true, List.cons_append, List.nil_append, List.length_nil, List.length_cons, Nat.zero_le, Nat.reduceLeDiff, Nat.reduceAdd, Nat.reduceMul]
      refine ⟨fun q => ?_, fun q => ?_⟩
      · subst q
        exact hq
      · obtain ⟨e1, e2⟩ := aPop_step n h2 q
        rw [nIsub (by omega), nIand]
        refine ih (n &&& (n - 1)) (c + 1) (by omega) (by omega) ?_
        rw [show c + 1 + aPop (n &&& (n - 1)) = c + aPop n by omega]
        exact hq
  rw [e125]
  simp only [u125_0, u125_1, u125_2, u125_3, u125_5, u125_8, u125_11, u125_12, u125_13, u125_14, u125_15, u125_16, u125_17, u125_20, u125_21]
  exact loop _ n n 0 (Nat.le_refl _) hn (by rw [Nat.zero_add]; exact hQ)
theorem aAny_s (g : Nat → Bool) (n : Nat) : aAny g (n + 1) = (aAny g n || g n) := rfl
theorem aBits_s (g : Nat → Bool) (n : Nat) : aBits g (n + 1) = aBits g n ||| (if g n then 2 ^ n else 0) := (aBits_or g n (g n)).symm
theorem aOrIf (X n : Nat) (a b : Bool) : (X ||| (if a then 2 ^ n else 0)) ||| (if b then 2 ^ n else 0) = X ||| (if (a || b) then 2 ^ n else 0) := by
  cases a <;> cases b <;> simp [Nat.or_assoc]
theorem m_shadeOf {p : Nat} (hS : ∀ k, k < 46 → M 33 k = nI (f k)) (hf : aWf f) (hp : p < 12) (hQ : Q [.int (nI (aShade f p))] (gSH ++ rs) M) : gcl (d + 2) 150 [.ref 29, .int (nI p)] (gSH ++ rs) M Q := by
  have h2 := hf.1.2.2.1
  have inner : ∀ s, s < 4 → (∀ l4 l5, gR (gcl (d + 1)) (0, fun _ => 0) 150 4 [some (.ref 29), some (.int (nI p)), some (.int (nI (aBits (aDark f p) (s + 1)))), some (.int (nI (s + 1))), l4, l5] [] (gSH ++ rs) M 0 0 Q) → ∀ n t l5, t + n = f 2 → gR (gcl (d + 1)) (0, fun _ => 0) 150 12 [some (.ref 29), some (.int (nI p)), some (.int (nI (aBits (aDark f p) s ||| (if aAny (aSh f p s) t then 2 ^ s else 0)))), some (.int (nI s)), some (.int (nI t)), l5] [] (gSH ++ rs) M 0 0 Q := by
    intro s hs hk n
    have hfl := fun Q => m_falls (d := d) (rs := rs) (M := M) (Q := Q) (f := f) hS hf hs
    have hfl9 := aFall_le hf hs
    induction n with
    | zero =>
      intro t l5 ht
      obtain rfl : t = f 2 := by omega
      rw [u150_12]
      simp (disch := omega) only [u150_0, u150_1, u150_2, u150_3, u150_5, u150_6, u150_9, u150_10, u150_14, u150_15, u150_18, u150_19, u150_20, u150_23, u150_24, u150_25, u150_28, u150_30, u150_32, u150_33, u150_34, u150_35, u150_37, u150_38, u150_40, u150_43, u150_44, u150_47, u150_49, u150_51, u150_52, u150_53, u150_55, u150_56, u150_57, u150_60, u150_61, u150_64, u150_65, u150_66, u150_67, u150_70, u150_71, u150_72, u150_73, u150_76, u150_79, u150_82, u150_85, u150_86, kc29, ks29_0, ks29_1, ks29_2, ks29_3, ks29_4, ks29_5, ks29_6, ks29_7, ks29_8, ks29_9, ks29_10, ks29_11, ks29_12, ks29_13, ks29_14, ks29_15, ks29_16, ks29_17, ks29_18, ks29_19, ks29_20, ks29_21, ks29_22, ks29_23, ks29_24, kk33, kl33, hS, gfv_s, gfv_n, gop1_s, nI_add, pk_mul, nIcl, vinT, nIle, nIlt, nIeq, true_and, and_true, List.cons_append, List.nil_append, List.length_nil, List.length_cons, Nat.zero_le, Nat.reduceLeDiff, Nat.reduceAdd, Nat.reduceMul]
      refine ⟨fun _ => ?_, fun q => absurd (Nat.le_refl _) q⟩
      have := hk (some (.int (nI (f 2)))) l5
      rw [aBits_s] at this
      exact this
    | succ n ih =>
      intro t l5 ht
      obtain ⟨ha1, ha2, ha3, ha4⟩ := hf.2.1 t (by omega)
      rw [u150_12]
      simp (disch := omega) only [u150_0, u150_1, u150_2, u150_3, u150_5, u150_6, u150_9, u150_10, u150_14, u150_15, u150_18, u150_19, u150_20, u150_23, u150_24, u150_25, u150_28, u150_30, u150_32, u150_33, u150_34, u150_35, u150_37, u150_38, u150_40, u150_43, u150_44, u150_47, u150_49, u150_51, u150_52, u150_53, u150_55, u150_56, u150_57, u150_60, u150_61, u150_64, u150_65, u150_66, u150_67, u150_70, u150_71, u150_72, u150_73, u150_76, u150_79, u150_82, u150_85, u150_86, kc29, ks29_0, ks29_1, ks29_2, ks29_3, ks29_4, ks29_5, ks29_6, ks29_7, ks29_8, ks29_9, ks29_10, ks29_11, ks29_12, ks29_13, ks29_14, ks29_15, ks29_16, ks29_17, ks29_18, ks29_19, ks29_20, ks29_21, ks29_22, ks29_23, ks29_24, kk33, kl33, hS, hfl, nIz, nIdle', nIor, nIsh, gfv_s, gfv_n, gop1_s, nI_add, pk_mul, nIcl, vinT, nIle, nIlt, nIeq, true_and, and_true, List.cons_append, List.nil_append, List.length_nil, List.length_cons, Nat.zero_le, Nat.reduceLeDiff, Nat.reduceAdd, Nat.reduceMul]
      refine ⟨fun q => absurd q (by omega), fun _ => ?_⟩
      have key : ∀ l5, gR (gcl (d + 1)) (0, fun _ => 0) 150 12 [some (.ref 29), some (.int (nI p)), some (.int (nI ((aBits (aDark f p) s ||| (if aAny (aSh f p s) t then 2 ^ s else 0)) ||| (if aSh f p s t then 2 ^ s else 0)))), some (.int (nI s)), some (.int (nI (t + 1))), l5] [] (gSH ++ rs) M 0 0 Q := fun l5 => by
        have := ih (t + 1) l5 (by omega)
        rw [aAny_s] at this
        rw [aOrIf]
        exact this
      refine ⟨fun q => ?_, fun q => ?_⟩
      · have e0 : aSh f p s t = false := by simp [aSh]; omega
        have := key (some (.int (nI p - nI (f (13 + t)))))
        rw [e0] at this
        exact this
      · have hm : (p - f (13 + t)) * aFall f s ≤ 12 * 9 := Nat.mul_le_mul (by omega) hfl9.2
        rw [nIsub (by omega), pk_mul, nIle (by omega) (by omega)]
        refine ⟨fun q2 => ?_, fun q2 => ?_⟩
        · have e0 : aSh f p s t = false := by simp [aSh]; omega
          have := key (some (.int (nI (p - f (13 + t)))))
          rw [e0] at this
          exact this
        · have e0 : aSh f p s t = true := by simp [aSh]; omega
          have := key (some (.int (nI (p - f (13 + t)))))
          rw [e0] at this
          exact this
  have outer : ∀ n s l4 l5, s + n = 4 → gR (gcl (d + 1)) (0, fun _ => 0) 150 4 [some (.ref 29), some (.int (nI p)), some (.int (nI (aBits (aDark f p) s))), some (.int (nI s)), l4, l5] [] (gSH ++ rs) M 0 0 Q := by
    intro n
    induction n with
    | zero =>
      intro s l4 l5 hs
      obtain rfl : s = 4 := by omega
      rw [u150_4]
      simp (disch := omega) only [u150_0, u150_1, u150_2, u150_3, u150_5, u150_6, u150_9, u150_10, u150_14, u150_15, u150_18, u150_19, u150_20, u150_23, u150_24, u150_25, u150_28, u150_30, u150_32, u150_33, u150_34, u150_35, u150_37, u150_38, u150_40, u150_43, u150_44, u150_47, u150_49, u150_51, u150_52, u150_53, u150_55, u150_56, u150_57, u150_60, u150_61, u150_64, u150_65, u150_66, u150_67, u150_70, u150_71, u150_72, u150_73, u150_76, u150_79, u150_82, u150_85, u150_86, gfv_s, gfv_n, gop1_s, nI_add, pk_mul, nIcl, vinT, nIle, nIlt, nIeq, true_and, and_true, List.cons_append, List.nil_append, List.length_nil, List.length_cons, Nat.zero_le, Nat.reduceLeDiff, Nat.reduceAdd, Nat.reduceMul]
      exact ⟨fun _ => hQ, fun q => (q (by simp)).elim⟩
    | succ n ih =>
      intro s l4 l5 hs
      rw [u150_4]
      simp (disch := omega) only [u150_0, u150_1, u150_2, u150_3, u150_5, u150_6, u150_9, u150_10, u150_14, u150_15, u150_18, u150_19, u150_20, u150_23, u150_24, u150_25, u150_28, u150_30, u150_32, u150_33, u150_34, u150_35, u150_37, u150_38, u150_40, u150_43, u150_44, u150_47, u150_49, u150_51, u150_52, u150_53, u150_55, u150_56, u150_57, u150_60, u150_61, u150_64, u150_65, u150_66, u150_67, u150_70, u150_71, u150_72, u150_73, u150_76, u150_79, u150_82, u150_85, u150_86, gfv_s, gfv_n, gop1_s, nI_add, pk_mul, nIcl, vinT, nIle, nIlt, nIeq, true_and, and_true, List.cons_append, List.nil_append, List.length_nil, List.length_cons, Nat.zero_le, Nat.reduceLeDiff, Nat.reduceAdd, Nat.reduceMul]
      refine ⟨fun q => absurd q (by omega), fun _ => ?_⟩
      have := inner s (by omega) (fun l4 l5 => ih (s + 1) l4 l5 (by omega)) (f 2) 0 l5 (by omega)
      simpa [aAny] using this
  rw [e150]
  simp only [u150_0, u150_1, u150_2, u150_3, u150_5, u150_6, u150_9, u150_10, u150_14, u150_15, u150_18, u150_19, u150_20, u150_23, u150_24, u150_25, u150_28, u150_30, u150_32, u150_33, u150_34, u150_35, u150_37, u150_38, u150_40, u150_43, u150_44, u150_47, u150_49, u150_51, u150_52, u150_53, u150_55, u150_56, u150_57, u150_60, u150_61, u150_64, u150_65, u150_66, u150_67, u150_70, u150_71, u150_72, u150_73, u150_76, u150_79, u150_82, u150_85, u150_86]
  exact outer 4 0 none none rfl
theorem aPop_le : ∀ n, n < 16 → aPop n ≤ 4 := by decide +kernel
theorem m_lightOf {p : Nat} (hS : ∀ k, k < 46 → M 33 k = nI (f k)) (hf : aWf f) (hp : p < 12) (hQ : Q [.int (nI (aLight f p))] (gSH ++ rs) M) : gcl (d + 3) 151 [.ref 29, .int (nI p)] (gSH ++ rs) M Q := by
  have h16 := aShade_lt f p
  have hp4 := aPop_le _ h16
  rw [e151]
  simp (disch := omega) only [u151_0, u151_1, u151_2, u151_3, u151_6, u151_9, u151_10, kc29, ks29_0, ks29_1, ks29_2, ks29_3, ks29_4, ks29_5, ks29_6, ks29_7, ks29_8, ks29_9, ks29_10, ks29_11, ks29_12, ks29_13, ks29_14, ks29_15, ks29_16, ks29_17, ks29_18, ks29_19, ks29_20, ks29_21, ks29_22, ks29_23, ks29_24, kk33, kl33, gfv_s, gfv_n, gop1_s, nI_add, pk_mul, nIcl, vinT, nIle, nIlt, nIeq, true_and, and_true, List.cons_append, List.nil_append, List.length_nil, List.length_cons, Nat.zero_le, Nat.reduceLeDiff, Nat.reduceAdd, Nat.reduceMul]
  refine m_shadeOf hS hf hp ?_
  simp (disch := omega) only [u151_0, u151_1, u151_2, u151_3, u151_6, u151_9, u151_10, kc29, ks29_0, ks29_1, ks29_2, ks29_3, ks29_4, ks29_5, ks29_6, ks29_7, ks29_8, ks29_9, ks29_10, ks29_11, ks29_12, ks29_13, ks29_14, ks29_15, ks29_16, ks29_17, ks29_18, ks29_19, ks29_20, ks29_21, ks29_22, ks29_23, ks29_24, kk33, kl33, gfv_s, gfv_n, gop1_s, nI_add, pk_mul, nIcl, vinT, nIle, nIlt, nIeq, true_and, and_true, List.cons_append, List.nil_append, List.length_nil, List.length_cons, Nat.zero_le, Nat.reduceLeDiff, Nat.reduceAdd, Nat.reduceMul]
  refine m_ones (by omega) ?_
  simp (disch := omega) only [u151_0, u151_1, u151_2, u151_3, u151_6, u151_9, u151_10, kc29, ks29_0, ks29_1, ks29_2, ks29_3, ks29_4, ks29_5, ks29_6, ks29_7, ks29_8, ks29_9, ks29_10, ks29_11, ks29_12, ks29_13, ks29_14, ks29_15, ks29_16, ks29_17, ks29_18, ks29_19, ks29_20, ks29_21, ks29_22, ks29_23, ks29_24, kk33, kl33, nIsub, gfv_s, gfv_n, gop1_s, nI_add, pk_mul, nIcl, vinT, nIle, nIlt, nIeq, true_and, and_true, List.cons_append, List.nil_append, List.length_nil, List.length_cons, Nat.zero_le, Nat.reduceLeDiff, Nat.reduceAdd, Nat.reduceMul]
  exact hQ
theorem m_treeAt {p : Nat} (hS : ∀ k, k < 46 → M 33 k = nI (f k)) (hf : aWf f) (hp : p < 12) (hQ : Q [.int (aFind (fun t => f (13 + t)) p (f 2) 0)] (gSH ++ rs) M) : gcl (d + 1) 152 [.ref 29, .int (nI p)] (gSH ++ rs) M Q := by
  have h2 := hf.1.2.2.1
  have loop : ∀ n t, t + n = f 2 → Q [.int (aFind (fun t => f (13 + t)) p n t)] (gSH ++ rs) M → gR (gcl d) (0, fun _ => 0) 152 2 [some (.ref 29), some (.int (nI p)), some (.int (nI t))] [] (gSH ++ rs) M 0 0 Q := by
    intro n
    induction n with
    | zero =>
      intro t ht hq
      rw [u152_2]
      simp (disch := omega) only [u152_0, u152_1, u152_3, u152_4, u152_7, u152_8, u152_9, u152_12, u152_13, u152_16, u152_18, u152_19, u152_20, u152_21, u152_22, u152_25, u152_26, u152_27, u152_30, u152_33, u152_35, kc29, ks29_0, ks29_1, ks29_2, ks29_3, ks29_4, ks29_5, ks29_6, ks29_7, ks29_8, ks29_9, ks29_10, ks29_11, ks29_12, ks29_13, ks29_14, ks29_15, ks29_16, ks29_17, ks29_18, ks29_19, ks29_20, ks29_21, ks29_22, ks29_23, ks29_24, kk33, kl33, hS, gfv_s, gfv_n, gop1_s, nI_add, pk_mul, nIcl, vinT, nIle, nIlt, nIeq, true_and, and_true, List.cons_append, List.nil_append, List.length_nil, List.length_cons, Nat.zero_le, Nat.reduceLeDiff, Nat.reduceAdd, Nat.reduceMul]
      exact ⟨fun _ => hq, fun q => absurd (by omega) q⟩
    | succ n ih =>
      intro t ht hq
      obtain ⟨ha1, ha2, ha3, ha4⟩ := hf.2.1 t (by omega)
      rw [u152_2]
      simp (disch := omega) only [u152_0, u152_1, u152_3, u152_4, u152_7, u152_8, u152_9, u152_12, u152_13, u152_16, u152_18, u152_19, u152_20, u152_21, u152_22, u152_25, u152_26, u152_27, u152_30, u152_33, u152_35, kc29, ks29_0, ks29_1, ks29_2, ks29_3, ks29_4, ks29_5, ks29_6, ks29_7, ks29_8, ks29_9, ks29_10, ks29_11, ks29_12, ks29_13, ks29_14, ks29_15, ks29_16, ks29_17, ks29_18, ks29_19, ks29_20, ks29_21, ks29_22, ks29_23, ks29_24, kk33, kl33, hS, gfv_s, gfv_n, gop1_s, nI_add, pk_mul, nIcl, vinT, nIle, nIlt, nIeq, true_and, and_true, List.cons_append, List.nil_append, List.length_nil, List.length_cons, Nat.zero_le, Nat.reduceLeDiff, Nat.reduceAdd, Nat.reduceMul]
      unfold aFind at hq
      refine ⟨fun q => absurd q (by omega), fun _ => ⟨fun q => ?_, fun q => ?_⟩⟩
      · rw [if_pos q] at hq
        exact hq
      · rw [if_neg q] at hq
        exact ih (t + 1) (by omega) hq
  rw [e152]
  simp only [u152_0, u152_1, u152_3, u152_4, u152_7, u152_8, u152_9, u152_12, u152_13, u152_16, u152_18, u152_19, u152_20, u152_21, u152_22, u152_25, u152_26, u152_27, u152_30, u152_33, u152_35]
  exact loop (f 2) 0 (by omega) hQ
theorem m_houseAt {p : Nat} (hS : ∀ k, k < 46 → M 33 k = nI (f k)) (hf : aWf f) (hp : p < 12) (hQ : Q [.int (aFind (fun t => f (34 + t)) p (f 3) 0)] (gSH ++ rs) M) : gcl (d + 1) 153 [.ref 29, .int (nI p)] (gSH ++ rs) M Q := by
  have h2 := hf.1.2.2.2
  have loop : ∀ n t, t + n = f 3 → Q [.int (aFind (fun t => f (34 + t)) p n t)] (gSH ++ rs) M → gR (gcl d) (0, fun _ => 0) 153 2 [some (.ref 29), some (.int (nI p)), some (.int (nI t))] [] (gSH ++ rs) M 0 0 Q := by
    intro n
    induction n with
    | zero =>
      intro t ht hq
      rw [u153_2]
      simp (disch := omega) only [u153_0, u153_1, u153_3, u153_4, u153_7, u153_8, u153_9, u153_12, u153_13, u153_16, u153_18, u153_19, u153_20, u153_21, u153_22, u153_25, u153_26, u153_27, u153_30, u153_33, u153_35, kc29, ks29_0, ks29_1, ks29_2, ks29_3, ks29_4, ks29_5, ks29_6, ks29_7, ks29_8, ks29_9, ks29_10, ks29_11, ks29_12, ks29_13, ks29_14, ks29_15, ks29_16, ks29_17, ks29_18, ks29_19, ks29_20, ks29_21, ks29_22, ks29_23, ks29_24, kk33, kl33, hS, gfv_s, gfv_n, gop1_s, nI_add, pk_mul, nIcl, vinT, nIle, nIlt, nIeq, true_and, and_true, List.cons_append, List.nil_append, List.length_nil, List.length_cons, Nat.zero_le, Nat.reduceLeDiff, Nat.reduceAdd, Nat.reduceMul]
      exact ⟨fun _ => hq, fun q => absurd (by omega) q⟩
    | succ n ih =>
      intro t ht hq
      have ha1 := hf.2.2.1 t (by omega)
      rw [u153_2]
      simp (disch := omega) only [u153_0, u153_1, u153_3, u153_4, u153_7, u153_8, u153_9, u153_12, u153_13, u153_16, u153_18, u153_19, u153_20, u153_21, u153_22, u153_25, u153_26, u153_27, u153_30, u153_33, u153_35, kc29, ks29_0, ks29_1, ks29_2, ks29_3, ks29_4, ks29_5, ks29_6, ks29_7, ks29_8, ks29_9, ks29_10, ks29_11, ks29_12, ks29_13, ks29_14, ks29_15, ks29_16, ks29_17, ks29_18, ks29_19, ks29_20, ks29_21, ks29_22, ks29_23, ks29_24, kk33, kl33, hS, gfv_s, gfv_n, gop1_s, nI_add, pk_mul, nIcl, vinT, nIle, nIlt, nIeq, true_and, and_true, List.cons_append, List.nil_append, List.length_nil, List.length_cons, Nat.zero_le, Nat.reduceLeDiff, Nat.reduceAdd, Nat.reduceMul]
      unfold aFind at hq
      refine ⟨fun q => absurd q (by omega), fun _ => ⟨fun q => ?_, fun q => ?_⟩⟩
      · rw [if_pos q] at hq
        exact hq
      · rw [if_neg q] at hq
        exact ih (t + 1) (by omega) hq
  rw [e153]
  simp only [u153_0, u153_1, u153_3, u153_4, u153_7, u153_8, u153_9, u153_12, u153_13, u153_16, u153_18, u153_19, u153_20, u153_21, u153_22, u153_25, u153_26, u153_27, u153_30, u153_33, u153_35]
  exact loop (f 3) 0 (by omega) hQ
end G23
