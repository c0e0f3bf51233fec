/-! the reference: a year -/
def aBy (f : Nat → Nat) (t : Nat) : Nat := if f (6 + t) = 5 then 0 else if f (6 + t) = 4 ∨ (f (6 + t) = 2 ∧ 20 ≤ f (27 + t)) then 1 else if f (6 + t) = 3 ∧ aLight f (f (13 + t)) = 0 then 0 else 2
def aBd (f : Nat → Nat) (t : Nat) : Nat := if f (6 + t) = 4 then 8 else 60
def aHi (f : Nat → Nat) (t : Nat) : Nat := if aBd f t ≤ f (20 + t) then f (20 + t) else if aBd f t < f (20 + t) + aBy f t then aBd f t else f (20 + t) + aBy f t
def aGrowN (f : Nat → Nat) (n : Nat) (k : Nat) : Nat := if 20 ≤ k ∧ k < 20 + n then aHi f (k - 20) else if 27 ≤ k ∧ k < 27 + n then f k + 1 else f k
def aGrow (f : Nat → Nat) : Nat → Nat := aGrowN f (f 2)
theorem aBd_le (f : Nat → Nat) (t : Nat) : aBd f t ≤ 60 := by unfold aBd; split <;> omega
theorem aBy_le (f : Nat → Nat) (t : Nat) : aBy f t ≤ 2 := by unfold aBy; split <;> (try split) <;> (try split) <;> omega
theorem aLight_le (f : Nat → Nat) (p : Nat) : aLight f p ≤ 4 := Nat.sub_le _ _
section G24
variable {d : Nat} {rs : gS} {M : gM} {Q : gQ} {f : Nat → Nat}
set_option maxHeartbeats 2000000 in
theorem m_growAll (hS : ∀ k, k < 46 → M 33 k = nI (f k)) (hf : aWf f) (hQ : ∀ M', (∀ k, k < 46 → M' 33 k = nI (aGrow f k)) → (∀ a, a ≠ 33 → a ≠ 37 → M' a = M a) → Q [] (gSH ++ rs) M') : gcl (d + 4) 155 [.ref 29] (gSH ++ rs) M Q := by
  have h2 := hf.1.2.2.1
  have second : ∀ n t M2 l2 l3 l4 l5, t + n = f 2 → (∀ k, k < 46 → M2 33 k = nI (aGrowN f t k)) → (∀ j, j < f 2 → M2 37 j = nI (aHi f j)) → (∀ a, a ≠ 33 → a ≠ 37 → M2 a = M a) → gR (gcl (d + 3)) (0, fun _ => 0) 155 155 [some (.ref 29), some (.int (nI t)), l2, l3, l4, l5] [] (gSH ++ rs) M2 0 0 Q := by
    intro n
    induction n with
    | zero =>
      intro t M2 l2 l3 l4 l5 ht h33 h37 hM
      obtain rfl : t = f 2 := by omega
      rw [u155_155]
      simp (disch := omega) only [u155_0, u155_1, u155_3, u155_4, u155_7, u155_8, u155_9, u155_12, u155_13, u155_16, u155_18, u155_19, u155_20, u155_21, u155_22, u155_23, u155_24, u155_27, u155_28, u155_31, u155_32, u155_33, u155_36, u155_37, u155_38, u155_41, u155_42, u155_45, u155_47, u155_48, u155_49, u155_50, u155_52, u155_55, u155_56, u155_59, u155_60, u155_61, u155_64, u155_65, u155_66, u155_69, u155_71, u155_72, u155_73, u155_74, u155_77, u155_80, u155_81, u155_84, u155_85, u155_86, u155_87, u155_88, u155_91, u155_93, u155_96, u155_98, u155_100, u155_101, u155_104, u155_106, u155_107, u155_108, u155_109, u155_111, u155_112, u155_115, u155_116, u155_118, u155_120, u155_123, u155_125, u155_128, u155_130, u155_131, u155_132, u155_134, u155_137, u155_139, u155_142, u155_144, u155_145, u155_146, u155_147, u155_150, u155_153, u155_154, u155_156, u155_157, u155_160, u155_161, u155_162, u155_165, u155_166, u155_169, u155_171, u155_172, u155_173, u155_174, u155_177, u155_178, u155_179, u155_180, u155_181, u155_184, u155_186, u155_187, u155_188, u155_189, u155_190, u155_191, u155_192, u155_193, u155_196, u155_199, kc29, ks29_0, ks29_1, ks29_2, ks29_3, ks29_4, ks29_5, ks29_6, ks29_7, ks29_8, ks29_9, ks29_10, ks29_11, ks29_12, ks29_13, ks29_14, ks29_15, ks29_16, ks29_17, ks29_18, ks29_19, ks29_20, ks29_21, ks29_22, ks29_23, ks29_24, kk33, kl33, h33, gfv_s, gfv_n, gop1_s, nI_add, pk_mul, nIcl, vinT, nIle, nIlt, nIeq, true_and, and_true, List.cons_append, List.nil_append, List.length_nil, List.length_cons, Nat.zero_le, Nat.reduceLeDiff, Nat.reduceAdd, Nat.reduceMul]
      have e2 : aGrowN f (f 2) 2 = f 2 := by simp [aGrowN]
      rw [e2, nIle (by omega) (by omega)]
      exact ⟨fun _ => hQ M2 h33 hM, fun q => (q (Nat.le_refl _)).elim⟩
    | succ n ih =>
      intro t M2 l2 l3 l4 l5 ht h33 h37 hM
      have e2 : aGrowN f t 2 = f 2 := by simp [aGrowN]
      have e27 : aGrowN f t (27 + t) = f (27 + t) := by unfold aGrowN; rw [if_neg (by omega), if_neg (by omega)]
      rw [u155_155]
      simp (disch := omega) only [u155_0, u155_1, u155_3, u155_4, u155_7, u155_8, u155_9, u155_12, u155_13, u155_16, u155_18, u155_19, u155_20, u155_21, u155_22, u155_23, u155_24, u155_27, u155_28, u155_31, u155_32, u155_33, u155_36, u155_37, u155_38, u155_41, u155_42, u155_45, u155_47, u155_48, u155_49, u155_50, u155_52, u155_55, u155_56, u155_59, u155_60, u155_61, u155_64, u155_65, u155_66, u155_69, u155_71, u155_72, u155_73, u155_74, u155_77, u155_80, u155_81, u155_84, u155_85, u155_86, u155_87, u155_88, u155_91, u155_93, u155_96, u155_98, u155_100, u155_101, u155_104, u155_106, u155_107, u155_108, u155_109, u155_111, u155_112, u155_115, u155_116, u155_118, u155_120, u155_123, u155_125, u155_128, u155_130, u155_131, u155_132, u155_134, u155_137, u155_139, u155_142, u155_144, u155_145, u155_146, u155_147, u155_150, u155_153, u155_154, u155_156, u155_157, u155_160, u155_161, u155_162, u155_165, u155_166, u155_169, u155_171, u155_172, u155_173, u155_174, u155_177, u155_178, u155_179, u155_180, u155_181, u155_184, u155_186, u155_187, u155_188, u155_189, u155_190, u155_191, u155_192, u155_193, u155_196, u155_199, kc29, ks29_0, ks29_1, ks29_2, ks29_3, ks29_4, ks29_5, ks29_6, ks29_7, ks29_8, ks29_9, ks29_10, ks29_11, ks29_12, ks29_13, ks29_14, ks29_15, ks29_16, ks29_17, ks29_18, ks29_19, ks29_20, ks29_21, ks29_22, ks29_23, ks29_24, kk33, kl33, kk37, kl37, h33, h37, e2, gr_at, upd, gfv_s, gfv_n, gop1_s, nI_add, pk_mul, nIcl, vinT, nIle, nIlt, nIeq, true_and, and_true, List.cons_append, List.nil_append, List.length_nil, List.length_cons, Nat.zero_le, Nat.reduceLeDiff, Nat.reduceAdd, Nat.reduceMul]
      refine ⟨fun q => absurd q (by omega), fun _ => ?_⟩
      rw [e27, if_neg (by omega), nI_add]
      refine ih (t + 1) _ l2 l3 l4 l5 (by omega) (fun k hk => ?_) (fun j hj => ?_) (fun a h1 h2 => ?_)
      · rw [gr_at]
        unfold upd
        by_cases hk1 : k = 27 + t
        · rw [if_pos hk1, hk1]
          congr 1
          unfold aGrowN
          rw [if_neg (by omega), if_pos (by omega)]
        · rw [if_neg hk1]
          by_cases hk2 : k = 20 + t
          · rw [if_pos hk2, hk2]
            congr 1
            unfold aGrowN
            rw [if_pos (by omega), Nat.add_sub_cancel_left]
          · rw [if_neg hk2, h33 k hk]
            congr 1
            unfold aGrowN
            repeat' split
            all_goals first | rfl | omega
      · rw [gr_ne (by decide), gr_ne (by decide)]
        exact h37 j hj
      · rw [gr_ne h1, gr_ne h1]
        exact hM a h1 h2
  have first : ∀ n t M1 l2 l3 l4 l5, t + n = f 2 → (∀ j, j < t → M1 37 j = nI (aHi f j)) → (∀ a, a ≠ 37 → M1 a = M a) → gR (gcl (d + 3)) (0, fun _ => 0) 155 2 [some (.ref 29), some (.int (nI t)), l2, l3, l4, l5] [] (gSH ++ rs) M1 0 0 Q := by
    intro n
    induction n with
    | zero =>
      intro t M1 l2 l3 l4 l5 ht h37 hM
      obtain rfl : t = f 2 := by omega
      have hS1 : ∀ k, k < 46 → M1 33 k = nI (f k) := fun k hk => by rw [hM 33 (by decide)]; exact hS k hk
      rw [u155_2]
      simp (disch := omega) only [u155_0, u155_1, u155_3, u155_4, u155_7, u155_8, u155_9, u155_12, u155_13, u155_16, u155_18, u155_19, u155_20, u155_21, u155_22, u155_23, u155_24, u155_27, u155_28, u155_31, u155_32, u155_33, u155_36, u155_37, u155_38, u155_41, u155_42, u155_45, u155_47, u155_48, u155_49, u155_50, u155_52, u155_55, u155_56, u155_59, u155_60, u155_61, u155_64, u155_65, u155_66, u155_69, u155_71, u155_72, u155_73, u155_74, u155_77, u155_80, u155_81, u155_84, u155_85, u155_86, u155_87, u155_88, u155_91, u155_93, u155_96, u155_98, u155_100, u155_101, u155_104, u155_106, u155_107, u155_108, u155_109, u155_111, u155_112, u155_115, u155_116, u155_118, u155_120, u155_123, u155_125, u155_128, u155_130, u155_131, u155_132, u155_134, u155_137, u155_139, u155_142, u155_144, u155_145, u155_146, u155_147, u155_150, u155_153, u155_154, u155_156, u155_157, u155_160, u155_161, u155_162, u155_165, u155_166, u155_169, u155_171, u155_172, u155_173, u155_174, u155_177, u155_178, u155_179, u155_180, u155_181, u155_184, u155_186, u155_187, u155_188, u155_189, u155_190, u155_191, u155_192, u155_193, u155_196, u155_199, kc29, ks29_0, ks29_1, ks29_2, ks29_3, ks29_4, ks29_5, ks29_6, ks29_7, ks29_8, ks29_9, ks29_10, ks29_11, ks29_12, ks29_13, ks29_14, ks29_15, ks29_16, ks29_17, ks29_18, ks29_19, ks29_20, ks29_21, ks29_22, ks29_23, ks29_24, kk33, kl33, hS1, gfv_s, gfv_n, gop1_s, nI_add, pk_mul, nIcl, vinT, nIle, nIlt, nIeq, true_and, and_true, List.cons_append, List.nil_append, List.length_nil, List.length_cons, Nat.zero_le, Nat.reduceLeDiff, Nat.reduceAdd, Nat.reduceMul]
      refine ⟨fun _ => ?_, fun q => (q (Nat.le_refl _)).elim⟩
      exact second (f 2) 0 M1 l2 l3 l4 l5 (by omega) (fun k hk => by rw [hS1 k hk]; congr 1; unfold aGrowN; rw [if_neg (by omega), if_neg (by omega)]) h37 (fun a _ h => hM a h)
    | succ n ih =>
      intro t M1 l2 l3 l4 l5 ht h37 hM
      have hS1 : ∀ k, k < 46 → M1 33 k = nI (f k) := fun k hk => by rw [hM 33 (by decide)]; exact hS k hk
      obtain ⟨ha1, ha2, ha3, ha4⟩ := hf.2.1 t (by omega)
      have hbd := aBd_le f t
      have hby := aBy_le f t
      have hag := hf.2.2.2 (27 + t) (by omega)
      have c146 : ∀ l2 l3 l4 l5, gR (gcl (d + 3)) (0, fun _ => 0) 155 146 [some (.ref 29), some (.int (nI t)), l2, l3, l4, l5] [.int (nI (aHi f t)), .int (nI t), .ref 37] (gSH ++ rs) M1 0 0 Q := by
        intro l2 l3 l4 l5
        simp (disch := omega) only [u155_0, u155_1, u155_3, u155_4, u155_7, u155_8, u155_9, u155_12, u155_13, u155_16, u155_18, u155_19, u155_20, u155_21, u155_22, u155_23, u155_24, u155_27, u155_28, u155_31, u155_32, u155_33, u155_36, u155_37, u155_38, u155_41, u155_42, u155_45, u155_47, u155_48, u155_49, u155_50, u155_52, u155_55, u155_56, u155_59, u155_60, u155_61, u155_64, u155_65, u155_66, u155_69, u155_71, u155_72, u155_73, u155_74, u155_77, u155_80, u155_81, u155_84, u155_85, u155_86, u155_87, u155_88, u155_91, u155_93, u155_96, u155_98, u155_100, u155_101, u155_104, u155_106, u155_107, u155_108, u155_109, u155_111, u155_112, u155_115, u155_116, u155_118, u155_120, u155_123, u155_125, u155_128, u155_130, u155_131, u155_132, u155_134, u155_137, u155_139, u155_142, u155_144, u155_145, u155_146, u155_147, u155_150, u155_153, u155_154, u155_156, u155_157, u155_160, u155_161, u155_162, u155_165, u155_166, u155_169, u155_171, u155_172, u155_173, u155_174, u155_177, u155_178, u155_179, u155_180, u155_181, u155_184, u155_186, u155_187, u155_188, u155_189, u155_190, u155_191, u155_192, u155_193, u155_196, u155_199, kc29, ks29_0, ks29_1, ks29_2, ks29_3, ks29_4, ks29_5, ks29_6, ks29_7, ks29_8, ks29_9, ks29_10, ks29_11, ks29_12, ks29_13, ks29_14, ks29_15, ks29_16, ks29_17, ks29_18, ks29_19, ks29_20, ks29_21, ks29_22, ks29_23, ks29_24, kk33, kl33, kk37, kl37, gfv_s, gfv_n, gop1_s, nI_add, pk_mul, nIcl, vinT, nIle, nIlt, nIeq, true_and, and_true, List.cons_append, List.nil_append, List.length_nil, List.length_cons, Nat.zero_le, Nat.reduceLeDiff, Nat.reduceAdd, Nat.reduceMul]
        refine ih (t + 1) _ l2 l3 l4 l5 (by omega) (fun j hj => ?_) (fun a ha => by rw [gr_ne ha]; exact hM a ha)
        rw [gr_at]
        unfold upd
        by_cases hj2 : j = t
        · rw [if_pos hj2, hj2]
        · rw [if_neg hj2]
          exact h37 j (by omega)
      have c98 : ∀ l2 l4 l5, gR (gcl (d + 3)) (0, fun _ => 0) 155 98 [some (.ref 29), some (.int (nI t)), l2, some (.int (nI (aBy f t))), l4, l5] [.int (nI (aBd f t))] (gSH ++ rs) M1 0 0 Q := by
        intro l2 l4 l5
        simp (disch := omega) only [u155_0, u155_1, u155_3, u155_4, u155_7, u155_8, u155_9, u155_12, u155_13, u155_16, u155_18, u155_19, u155_20, u155_21, u155_22, u155_23, u155_24, u155_27, u155_28, u155_31, u155_32, u155_33, u155_36, u155_37, u155_38, u155_41, u155_42, u155_45, u155_47, u155_48, u155_49, u155_50, u155_52, u155_55, u155_56, u155_59, u155_60, u155_61, u155_64, u155_65, u155_66, u155_69, u155_71, u155_72, u155_73, u155_74, u155_77, u155_80, u155_81, u155_84, u155_85, u155_86, u155_87, u155_88, u155_91, u155_93, u155_96, u155_98, u155_100, u155_101, u155_104, u155_106, u155_107, u155_108, u155_109, u155_111, u155_112, u155_115, u155_116, u155_118, u155_120, u155_123, u155_125, u155_128, u155_130, u155_131, u155_132, u155_134, u155_137, u155_139, u155_142, u155_144, u155_145, u155_147, u155_150, u155_153, u155_154, u155_156, u155_157, u155_160, u155_161, u155_162, u155_165, u155_166, u155_169, u155_171, u155_172, u155_173, u155_174, u155_177, u155_178, u155_179, u155_180, u155_181, u155_184, u155_186, u155_187, u155_188, u155_189, u155_190, u155_191, u155_192, u155_193, u155_196, u155_199, kc29, ks29_0, ks29_1, ks29_2, ks29_3, ks29_4, ks29_5, ks29_6, ks29_7, ks29_8, ks29_9, ks29_10, ks29_11, ks29_12, ks29_13, ks29_14, ks29_15, ks29_16, ks29_17, ks29_18, ks29_19, ks29_20, ks29_21, ks29_22, ks29_23, ks29_24, kk33, kl33, kk37, kl37, hS1, gfv_s, gfv_n, gop1_s, nI_add, pk_mul, nIcl, vinT, nIle, nIlt, nIeq, true_and, and_true, List.cons_append, List.nil_append, List.length_nil, List.length_cons, Nat.zero_le, Nat.reduceLeDiff, Nat.reduceAdd, Nat.reduceMul]
        refine ⟨fun q => ?_, fun q => ?_⟩
        · have e : aHi f t = (if aBd f t < f (20 + t) + aBy f t then aBd f t else f (20 + t) + aBy f t) := by unfold aHi; rw [if_neg (by omega)]
          refine ⟨fun q2 => ?_, fun q2 => ?_⟩
          · have := c146 l2 (some (.int (nI (aBy f t)))) (some (.int (nI (aBd f t)))) (some (.int (nI (f (20 + t)))))
            rw [e, if_neg (by omega)] at this
            exact this
          · have := c146 l2 (some (.int (nI (aBy f t)))) (some (.int (nI (aBd f t)))) (some (.int (nI (f (20 + t)))))
            rw [e, if_pos (by omega)] at this
            exact this
        · have e : aHi f t = f (20 + t) := by unfold aHi; rw [if_pos (by omega)]
          have := c146 l2 (some (.int (nI (aBy f t)))) (some (.int (nI (aBd f t)))) (some (.int (nI (f (20 + t)))))
          rw [e] at this
          exact this
      have c85 : ∀ l3 l4 l5, gR (gcl (d + 3)) (0, fun _ => 0) 155 85 [some (.ref 29), some (.int (nI t)), some (.int (nI (f (6 + t)))), l3, l4, l5] [.int (nI (aBy f t))] (gSH ++ rs) M1 0 0 Q := by
        intro l3 l4 l5
        simp (disch := omega) only [u155_0, u155_1, u155_3, u155_4, u155_7, u155_8, u155_9, u155_12, u155_13, u155_16, u155_18, u155_19, u155_20, u155_21, u155_22, u155_23, u155_24, u155_27, u155_28, u155_31, u155_32, u155_33, u155_36, u155_37, u155_38, u155_41, u155_42, u155_45, u155_47, u155_48, u155_49, u155_50, u155_52, u155_55, u155_56, u155_59, u155_60, u155_61, u155_64, u155_65, u155_66, u155_69, u155_71, u155_72, u155_73, u155_74, u155_77, u155_80, u155_81, u155_84, u155_85, u155_86, u155_87, u155_88, u155_91, u155_93, u155_96, u155_100, u155_101, u155_104, u155_106, u155_107, u155_108, u155_109, u155_111, u155_112, u155_115, u155_116, u155_118, u155_120, u155_123, u155_125, u155_128, u155_130, u155_131, u155_132, u155_134, u155_137, u155_139, u155_142, u155_144, u155_145, u155_146, u155_147, u155_150, u155_153, u155_154, u155_156, u155_157, u155_160, u155_161, u155_162, u155_165, u155_166, u155_169, u155_171, u155_172, u155_173, u155_174, u155_177, u155_178, u155_179, u155_180, u155_181, u155_184, u155_186, u155_187, u155_188, u155_189, u155_190, u155_191, u155_192, u155_193, u155_196, u155_199, kc29, ks29_0, ks29_1, ks29_2, ks29_3, ks29_4, ks29_5, ks29_6, ks29_7, ks29_8, ks29_9, ks29_10, ks29_11, ks29_12, ks29_13, ks29_14, ks29_15, ks29_16, ks29_17, ks29_18, ks29_19, ks29_20, ks29_21, ks29_22, ks29_23, ks29_24, kk33, kl33, kk37, kl37, hS1, gfv_s, gfv_n, gop1_s, nI_add, pk_mul, nIcl, vinT, nIle, nIlt, nIeq, true_and, and_true, List.cons_append, List.nil_append, List.length_nil, List.length_cons, Nat.zero_le, Nat.reduceLeDiff, Nat.reduceAdd, Nat.reduceMul]
        refine ⟨fun q => ?_, fun q => ?_⟩
        · have := c98 (some (.int (nI (f (6 + t))))) l4 l5
          rw [show aBd f t = 8 by unfold aBd; rw [if_pos q]] at this
          exact this
        · have := c98 (some (.int (nI (f (6 + t))))) l4 l5
          rw [show aBd f t = 60 by unfold aBd; rw [if_neg q]] at this
          exact this
      rw [u155_2]
      simp (disch := omega) only [u155_0, u155_1, u155_3, u155_4, u155_7, u155_8, u155_9, u155_12, u155_13, u155_16, u155_18, u155_19, u155_20, u155_21, u155_22, u155_23, u155_24, u155_27, u155_28, u155_31, u155_32, u155_33, u155_36, u155_37, u155_38, u155_41, u155_42, u155_45, u155_47, u155_48, u155_49, u155_50, u155_52, u155_55, u155_56, u155_59, u155_60, u155_61, u155_64, u155_65, u155_66, u155_69, u155_71, u155_72, u155_73, u155_74, u155_77, u155_80, u155_81, u155_84, u155_86, u155_87, u155_88, u155_91, u155_93, u155_96, u155_98, u155_100, u155_101, u155_104, u155_106, u155_107, u155_108, u155_109, u155_111, u155_112, u155_115, u155_116, u155_118, u155_120, u155_123, u155_125, u155_128, u155_130, u155_131, u155_132, u155_134, u155_137, u155_139, u155_142, u155_144, u155_145, u155_146, u155_147, u155_150, u155_153, u155_154, u155_156, u155_157, u155_160, u155_161, u155_162, u155_165, u155_166, u155_169, u155_171, u155_172, u155_173, u155_174, u155_177, u155_178, u155_179, u155_180, u155_181, u155_184, u155_186, u155_187, u155_188, u155_189, u155_190, u155_191, u155_192, u155_193, u155_196, u155_199, kc29, ks29_0, ks29_1, ks29_2, ks29_3, ks29_4, ks29_5, ks29_6, ks29_7, ks29_8, ks29_9, ks29_10, ks29_11, ks29_12, ks29_13, ks29_14, ks29_15, ks29_16, ks29_17, ks29_18, ks29_19, ks29_20, ks29_21, ks29_22, ks29_23, ks29_24, kk33, kl33, kk37, kl37, hS1, gfv_s, gfv_n, gop1_s, nI_add, pk_mul, nIcl, vinT, nIle, nIlt, nIeq, true_and, and_true, List.cons_append, List.nil_append, List.length_nil, List.length_cons, Nat.zero_le, Nat.reduceLeDiff, Nat.reduceAdd, Nat.reduceMul]
      refine ⟨fun q => absurd q (by omega), fun _ => ?_⟩
      have hll := aLight_le f (f (13 + t))
      have k85 : ∀ b l3 l4 l5, aBy f t = b → gR (gcl (d + 3)) (0, fun _ => 0) 155 85 [some (.ref 29), some (.int (nI t)), some (.int (nI (f (6 + t)))), l3, l4, l5] [.int (nI b)] (gSH ++ rs) M1 0 0 Q := fun b l3 l4 l5 hb => hb ▸ c85 l3 l4 l5
      refine ⟨fun q => k85 0 _ _ _ (by simp [aBy, q]), fun q1 => ⟨fun q => k85 1 _ _ _ (by simp [aBy, q]), fun q2 => ⟨fun q3 => ⟨fun q4 => ⟨fun q5 => absurd q5 (by omega), fun _ => k85 2 _ _ _ ?_⟩, fun q4 => k85 1 _ _ _ ?_⟩, fun q3 => ⟨fun q4 => ?_, fun q4 => k85 2 _ _ _ ?_⟩⟩⟩⟩
      · unfold aBy
        rw [if_neg q1, if_neg (by omega), if_neg (by omega)]
      · unfold aBy
        rw [if_neg q1, if_pos (by omega)]
      · refine m_lightOf hS1 hf (by omega) ?_
        simp (disch := omega) only [u155_0, u155_1, u155_3, u155_4, u155_7, u155_8, u155_9, u155_12, u155_13, u155_16, u155_18, u155_19, u155_20, u155_21, u155_22, u155_23, u155_24, u155_27, u155_28, u155_31, u155_32, u155_33, u155_36, u155_37, u155_38, u155_41, u155_42, u155_45, u155_47, u155_48, u155_49, u155_50, u155_52, u155_55, u155_56, u155_59, u155_60, u155_61, u155_64, u155_65, u155_66, u155_69, u155_71, u155_72, u155_73, u155_74, u155_77, u155_80, u155_81, u155_84, u155_86, u155_87, u155_88, u155_91, u155_93, u155_96, u155_98, u155_100, u155_101, u155_104, u155_106, u155_107, u155_108, u155_109, u155_111, u155_112, u155_115, u155_116, u155_118, u155_120, u155_123, u155_125, u155_128, u155_130, u155_131, u155_132, u155_134, u155_137, u155_139, u155_142, u155_144, u155_145, u155_146, u155_147, u155_150, u155_153, u155_154, u155_156, u155_157, u155_160, u155_161, u155_162, u155_165, u155_166, u155_169, u155_171, u155_172, u155_173, u155_174, u155_177, u155_178, u155_179, u155_180, u155_181, u155_184, u155_186, u155_187, u155_188, u155_189, u155_190, u155_191, u155_192, u155_193, u155_196, u155_199, nIz, gfv_s, gfv_n, gop1_s, nI_add, pk_mul, nIcl, vinT, nIle, nIlt, nIeq, true_and, and_true, List.cons_append, List.nil_append, List.length_nil, List.length_cons, Nat.zero_le, Nat.reduceLeDiff, Nat.reduceAdd, Nat.reduceMul]
        refine ⟨fun q5 => k85 0 _ _ _ ?_, fun q5 => k85 2 _ _ _ ?_⟩
        · unfold aBy
          rw [if_neg q1, if_neg (by omega), if_pos ⟨q4, q5⟩]
        · unfold aBy
          rw [if_neg q1, if_neg (by omega), if_neg (fun q6 => q5 q6.2)]
      · unfold aBy
        rw [if_neg q1, if_neg (by omega), if_neg (by omega)]
  rw [e155]
  simp only [u155_0, u155_1, u155_3, u155_4, u155_7, u155_8, u155_9, u155_12, u155_13, u155_16, u155_18, u155_19, u155_20, u155_21, u155_22, u155_23, u155_24, u155_27, u155_28, u155_31, u155_32, u155_33, u155_36, u155_37, u155_38, u155_41, u155_42, u155_45, u155_47, u155_48, u155_49, u155_50, u155_52, u155_55, u155_56, u155_59, u155_60, u155_61, u155_64, u155_65, u155_66, u155_69, u155_71, u155_72, u155_73, u155_74, u155_77, u155_80, u155_81, u155_84, u155_85, u155_86, u155_87, u155_88, u155_91, u155_93, u155_96, u155_98, u155_100, u155_101, u155_104, u155_106, u155_107, u155_108, u155_109, u155_111, u155_112, u155_115, u155_116, u155_118, u155_120, u155_123, u155_125, u155_128, u155_130, u155_131, u155_132, u155_134, u155_137, u155_139, u155_142, u155_144, u155_145, u155_146, u155_147, u155_150, u155_153, u155_154, u155_156, u155_157, u155_160, u155_161, u155_162, u155_165, u155_166, u155_169, u155_171, u155_172, u155_173, u155_174, u155_177, u155_178, u155_179, u155_180, u155_181, u155_184, u155_186, u155_187, u155_188, u155_189, u155_190, u155_191, u155_192, u155_193, u155_196, u155_199]
  exact first (f 2) 0 M none none none none (by omega) (fun j hj => absurd hj (Nat.not_lt_zero j)) (fun _ _ => rfl)
end G24
