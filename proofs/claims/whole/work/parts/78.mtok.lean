/-! the reference reads: tokens -/
theorem tK_1f {b : Nat → Nat} {n e : Nat} (h : tK b n e = 1) : fg b n e = false ∧ tV b n e = b e ∧ tN b n e = e + 1 := by
  have hf : fg b n e = false := by
    cases q : fg b n e
    · rfl
    · have h9 := fg_t q
      unfold tK at h
      rw [if_neg (by omega), if_pos q] at h
      split at h <;> omega
  exact ⟨hf, tVN_l hf⟩
theorem tS_of (b : Nat → Nat) (n e : Nat) : tS b n e = if tIs b n e 102 = true then 1 else if tIs b n e 111 = true then 2 else if tIs b n e 108 = true then 3 else if tIs b n e 98 = true then 4 else if tIs b n e 109 = true then 5 else 0 := by
  unfold tS tIs
  by_cases q : tK b n e = 1
  · simp [q]
  · simp [q]
/-- what a token may change in the reference; what reading may -/
def mX (M M' : gM) : Prop := (∀ a, a ≠ 29 → M' a = M a) ∧ ∀ k, k < 10 ∨ 15 ≤ k → M' 29 k = M 29 k
def mW (M M' : gM) : Prop := (∀ a, a ≠ 29 → a ≠ 36 → M' a = M a) ∧ ∀ k, k < 10 ∨ 15 ≤ k → M' 29 k = M 29 k
theorem mW_x {M M' : gM} (h : mX M M') : mW M M' := ⟨fun a w _ => h.1 a w, h.2⟩
theorem mW_t {M M1 M2 : gM} (h1 : mW M M1) (h2 : mW M1 M2) : mW M M2 := ⟨fun a x y => (h2.1 a x y).trans (h1.1 a x y), fun k hk => (h2.2 k hk).trans (h1.2 k hk)⟩
theorem mW_36 {M : gM} {g : Nat → Int32} : mW M (gr M 36 g) := ⟨fun a _ w => gr_ne w, fun k _ => by rw [gr_ne (by omega)]⟩
theorem mpe_w {M M' : gM} {n : Nat} {b : Nat → Nat} (h : mpe M n b) (hw : mW M M') : mpe M' n b := by
  unfold mpe at h ⊢
  rw [hw.2 8 (by omega), hw.1 35 (by omega) (by omega)]
  exact h
theorem mR_c {M M' : gM} {n e : Nat} {b : Nat → Nat} (h : mR M b n e) (e1 : M' 29 = M 29) : mR M' b n e := by
  unfold mR at h ⊢
  rw [e1]
  exact h
section G78
variable {d : Nat} {rs : gS} {M : gM} {Q : gQ} {n e : Nat} {b : Nat → Nat}
set_option maxHeartbeats 1000000 in
theorem m_nextToken (ht : mpe M n b) (h10 : M 29 10 = nI e) (he : e ≤ n) (hQ : ∀ M', mR M' b n e → (∀ a, a ≠ 29 → M' a = M a) → (∀ k, k < 10 ∨ 14 ≤ k → M' 29 k = M 29 k) → Q [] (gSH ++ rs) M') : gcl (d + 2) 135 [.ref 29] (gSH ++ rs) M Q := by
  obtain ⟨hn, h8, hb⟩ := ht
  have ending : ∀ M1 (t w : Nat), e ≤ t → t ≤ n → (∀ i, e ≤ i → i < t → fg b n i = true) → fg b n t = false → (t = e + 1 → w = b e - 48) → (t = e + 2 → w = (b e - 48) * 10 + (b (e + 1) - 48)) → w ≤ 999 → M1 29 10 = nI t → M1 29 11 = nI (if e = n then 3 else 0) → M1 29 12 = nI w → M1 29 13 = nI e → (∀ a, a ≠ 29 → M1 a = M a) → (∀ k, k < 10 ∨ 14 ≤ k → M1 29 k = M 29 k) → gR (gcl (d + 1)) (0, fun _ => 0) 135 119 [some (.ref 29)] [] (gSH ++ rs) M1 0 0 Q := by
    intro M1 t w h1 h2 hf hnf v1 v2 hw q10 q11 q12 q13 qa qk
    by_cases c : t ≤ e
    · obtain rfl : t = e := by omega
      by_cases cn : t = n
      · rw [if_pos cn] at q11
        simp (disch := first | omega | assumption) only [u135_0, u135_1, u135_2, u135_5, u135_8, u135_9, u135_10, u135_13, u135_14, u135_17, u135_20, u135_21, u135_24, u135_25, u135_28, u135_29, u135_30, u135_34, u135_37, u135_38, u135_41, u135_44, u135_45, u135_48, u135_49, u135_52, u135_53, u135_54, u135_57, u135_60, u135_63, u135_66, u135_67, u135_68, u135_71, u135_73, u135_76, u135_77, u135_80, u135_83, u135_85, u135_86, u135_89, u135_90, u135_91, u135_94, u135_95, u135_98, u135_99, u135_100, u135_102, u135_103, u135_106, u135_107, u135_107i, u135_108, u135_111, u135_112, u135_113, u135_116, u135_119, u135_120, u135_123, u135_124, u135_127, u135_130, u135_131, u135_132, u135_135, u135_136, u135_139, u135_140, u135_141, u135_144, u135_145, u135_148, u135_149, u135_152, u135_155, u135_156, u135_159, u135_162, u135_163, u135_164, u135_167, u135_168, u135_171, u135_172, u135_175, u135_176, u135_177, u135_180, u135_181, u135_184, u135_187, u135_190, u135_193, u135_194, u135_197, u135_199, u135_202, u135_203, u135_206, u135_208, u135_211, u135_212, u135_215, u135_216, u135_219, u135_220, u135_220i, u135_221, u135_224, u135_225, u135_226, u135_229, kc29, ks29_0, ks29_1, ks29_2, ks29_3, ks29_4, ks29_5, ks29_6, ks29_7, ks29_8, ks29_9, ks29_10, ks29_11, ks29_12, ks29_13, ks29_14, ks29_15, ks29_16, ks29_17, ks29_18, ks29_19, ks29_20, ks29_21, ks29_22, ks29_23, ks29_24, q10, q11, q13, Nat.le_refl, kc0, kc1, kc13, kc15, kc19, kc23, kc27, kc29, gb_z, z0, z1, n11, true_or, false_or, nb0, nb1, gb_01, nlt0, nge0, neq0, ngt0, nle0, m1lt, m1ge, true_implies, false_implies, not_true_eq_false, not_false_eq_true, Bool.true_eq_false, Bool.false_eq_true, eq_self, and_self, Nat.reduceEqDiff, Nat.reduceLT, gfv_s, gfv_n, gop1_s, nI_add, pk_mul, nIcl, vinT, nIle, nIlt, nIeq, true_and, and_true, List.cons_append, List.nil_append, List.length_nil, List.length_cons, Nat.zero_le, Nat.reduceLeDiff, Nat.reduceAdd, Nat.reduceMul]
        have hk := tK_3 (b := b) (show n ≤ t by omega)
        exact hQ M1 ⟨q13, by rw [q11, hk], fun q => by rw [hk] at q; omega⟩ qa qk
      · rw [if_neg cn] at q11
        have hbt := hb t (by omega)
        have b35 : ∀ A2 : Nat → Int32, gr M1 29 A2 35 t = nI (b t) := fun A2 => by rw [gr_ne (by omega), qa 35 (by omega)]; exact hbt.2
        have b35' : M1 35 t = nI (b t) := by rw [qa 35 (by omega)]; exact hbt.2
        have vl := tVN_l hnf
        have hq0 : ¬ n ≤ t := by omega
        have key : ∀ k : Bool, lt (b t) = k → gR (gcl (d + 1)) (0, fun _ => 0) 135 216 [some (.ref 29)] [.int (gb k), .ref 29] (gSH ++ rs) (gr M1 29 (upd (M1 29) 12 (nI (b t)))) 0 0 Q := by
          intro k hk
          have hkk : tK b n t = if k = true then 1 else 0 := by
            cases k
            · exact tK_0 hq0 hnf hk
            · exact tK_l hq0 hnf hk
          have e11 : gb k = nI (tK b n t) := by
            rw [hkk]
            cases k <;> rfl
          simp (disch := first | omega | assumption) only [u135_0, u135_1, u135_2, u135_5, u135_8, u135_9, u135_10, u135_13, u135_14, u135_17, u135_20, u135_21, u135_24, u135_25, u135_28, u135_29, u135_30, u135_34, u135_37, u135_38, u135_41, u135_44, u135_45, u135_48, u135_49, u135_52, u135_53, u135_54, u135_57, u135_60, u135_63, u135_66, u135_67, u135_68, u135_71, u135_73, u135_76, u135_77, u135_80, u135_83, u135_85, u135_86, u135_89, u135_90, u135_91, u135_94, u135_95, u135_98, u135_99, u135_100, u135_102, u135_103, u135_106, u135_107, u135_107i, u135_108, u135_111, u135_112, u135_113, u135_116, u135_119, u135_120, u135_123, u135_124, u135_127, u135_130, u135_131, u135_132, u135_135, u135_136, u135_139, u135_140, u135_141, u135_144, u135_145, u135_148, u135_149, u135_152, u135_155, u135_156, u135_159, u135_162, u135_163, u135_164, u135_167, u135_168, u135_171, u135_172, u135_175, u135_176, u135_177, u135_180, u135_181, u135_184, u135_187, u135_190, u135_193, u135_194, u135_197, u135_199, u135_202, u135_203, u135_206, u135_208, u135_211, u135_212, u135_215, u135_216, u135_219, u135_220, u135_220i, u135_221, u135_224, u135_225, u135_226, u135_229, kc29, ks29_0, ks29_1, ks29_2, ks29_3, ks29_4, ks29_5, ks29_6, ks29_7, ks29_8, ks29_9, ks29_10, ks29_11, ks29_12, ks29_13, ks29_14, ks29_15, ks29_16, ks29_17, ks29_18, ks29_19, ks29_20, ks29_21, ks29_22, ks29_23, ks29_24, gr_at, gr_gr, upd_ne, q10, kc0, kc1, kc13, kc15, kc19, kc23, kc27, kc29, gb_z, z0, z1, n11, true_or, false_or, nb0, nb1, gb_01, nlt0, nge0, neq0, ngt0, nle0, m1lt, m1ge, true_implies, false_implies, not_true_eq_false, not_false_eq_true, Bool.true_eq_false, Bool.false_eq_true, eq_self, and_self, Nat.reduceEqDiff, Nat.reduceLT, gfv_s, gfv_n, gop1_s, nI_add, pk_mul, nIcl, vinT, nIle, nIlt, nIeq, true_and, and_true, List.cons_append, List.nil_append, List.length_nil, List.length_cons, Nat.zero_le, Nat.reduceLeDiff, Nat.reduceAdd, Nat.reduceMul]
          refine hQ _ ⟨?_, ?_, fun _ => ⟨?_, ?_⟩⟩ (fun a ha => by rw [gr_ne ha, qa a ha]) (fun j hj => ?_)
          · rw [gr_at, upd_ne (by omega), upd_ne (by omega), upd_ne (by omega), q13]
          · rw [gr_at, upd_ne (by omega), upd_at, e11]
          · rw [gr_at, upd_ne (by omega), upd_ne (by omega), upd_at, vl.1]
          · rw [gr_at, upd_at, vl.2]
          · rw [gr_at, upd_ne (by omega), upd_ne (by omega), upd_ne (by omega), qk j hj]
        have y := key true
        have z := key false
        unfold lt at y z
        rw [gb_t] at y
        rw [gb_f] at z
        have hin := gIn_n (p := b t) (l := 97) (n := 122) (by omega)
        by_cases c1 : 97 ≤ b t ∧ b t ≤ 122
        · rw [decide_eq_true c1] at hin
          simp (disch := first | omega | assumption) only [u135_0, u135_1, u135_2, u135_5, u135_8, u135_9, u135_10, u135_13, u135_14, u135_17, u135_20, u135_21, u135_24, u135_25, u135_28, u135_29, u135_30, u135_34, u135_37, u135_38, u135_41, u135_44, u135_45, u135_48, u135_49, u135_52, u135_53, u135_54, u135_57, u135_60, u135_63, u135_66, u135_67, u135_68, u135_71, u135_73, u135_76, u135_77, u135_80, u135_83, u135_85, u135_86, u135_89, u135_90, u135_91, u135_94, u135_95, u135_98, u135_99, u135_100, u135_102, u135_103, u135_106, u135_107, u135_107i, u135_108, u135_111, u135_112, u135_113, u135_116, u135_119, u135_120, u135_123, u135_124, u135_127, u135_130, u135_131, u135_132, u135_135, u135_136, u135_139, u135_140, u135_141, u135_144, u135_145, u135_148, u135_149, u135_152, u135_155, u135_156, u135_159, u135_162, u135_163, u135_164, u135_167, u135_168, u135_171, u135_172, u135_175, u135_176, u135_177, u135_180, u135_181, u135_184, u135_187, u135_190, u135_193, u135_194, u135_197, u135_199, u135_202, u135_203, u135_206, u135_208, u135_211, u135_212, u135_215, u135_219, u135_220, u135_220i, u135_221, u135_224, u135_225, u135_226, u135_229, kc29, ks29_0, ks29_1, ks29_2, ks29_3, ks29_4, ks29_5, ks29_6, ks29_7, ks29_8, ks29_9, ks29_10, ks29_11, ks29_12, ks29_13, ks29_14, ks29_15, ks29_16, ks29_17, ks29_18, ks29_19, ks29_20, ks29_21, ks29_22, ks29_23, ks29_24, kk35, kl35, q10, q11, q13, Nat.le_refl, b35', gr_at, upd_at, m_inN, hin, kc0, kc1, kc13, kc15, kc19, kc23, kc27, kc29, gb_z, z0, z1, n11, true_or, false_or, nb0, nb1, gb_01, nlt0, nge0, neq0, ngt0, nle0, m1lt, m1ge, true_implies, false_implies, not_true_eq_false, not_false_eq_true, Bool.true_eq_false, Bool.false_eq_true, eq_self, and_self, Nat.reduceEqDiff, Nat.reduceLT, gfv_s, gfv_n, gop1_s, nI_add, pk_mul, nIcl, vinT, nIle, nIlt, nIeq, true_and, and_true, List.cons_append, List.nil_append, List.length_nil, List.length_cons, Nat.zero_le, Nat.reduceLeDiff, Nat.reduceAdd, Nat.reduceMul]
          exact y (decide_eq_true (by omega))
        · rw [decide_eq_false c1] at hin
          simp (disch := first | omega | assumption) only [u135_0, u135_1, u135_2, u135_5, u135_8, u135_9, u135_10, u135_13, u135_14, u135_17, u135_20, u135_21, u135_24, u135_25, u135_28, u135_29, u135_30, u135_34, u135_37, u135_38, u135_41, u135_44, u135_45, u135_48, u135_49, u135_52, u135_53, u135_54, u135_57, u135_60, u135_63, u135_66, u135_67, u135_68, u135_71, u135_73, u135_76, u135_77, u135_80, u135_83, u135_85, u135_86, u135_89, u135_90, u135_91, u135_94, u135_95, u135_98, u135_99, u135_100, u135_102, u135_103, u135_106, u135_107, u135_107i, u135_108, u135_111, u135_112, u135_113, u135_116, u135_119, u135_120, u135_123, u135_124, u135_127, u135_130, u135_131, u135_132, u135_135, u135_136, u135_139, u135_140, u135_141, u135_144, u135_145, u135_148, u135_149, u135_152, u135_155, u135_156, u135_159, u135_162, u135_163, u135_164, u135_167, u135_168, u135_171, u135_172, u135_175, u135_176, u135_177, u135_180, u135_181, u135_184, u135_187, u135_190, u135_193, u135_194, u135_197, u135_199, u135_202, u135_203, u135_206, u135_208, u135_211, u135_212, u135_215, u135_219, u135_220, u135_220i, u135_221, u135_224, u135_225, u135_226, u135_229, kc29, ks29_0, ks29_1, ks29_2, ks29_3, ks29_4, ks29_5, ks29_6, ks29_7, ks29_8, ks29_9, ks29_10, ks29_11, ks29_12, ks29_13, ks29_14, ks29_15, ks29_16, ks29_17, ks29_18, ks29_19, ks29_20, ks29_21, ks29_22, ks29_23, ks29_24, kk35, kl35, q10, q11, q13, Nat.le_refl, b35', gr_at, upd_at, m_inN, hin, kc0, kc1, kc13, kc15, kc19, kc23, kc27, kc29, gb_z, z0, z1, n11, true_or, false_or, nb0, nb1, gb_01, nlt0, nge0, neq0, ngt0, nle0, m1lt, m1ge, true_implies, false_implies, not_true_eq_false, not_false_eq_true, Bool.true_eq_false, Bool.false_eq_true, eq_self, and_self, Nat.reduceEqDiff, Nat.reduceLT, gfv_s, gfv_n, gop1_s, nI_add, pk_mul, nIcl, vinT, nIle, nIlt, nIeq, true_and, and_true, List.cons_append, List.nil_append, List.length_nil, List.length_cons, Nat.zero_le, Nat.reduceLeDiff, Nat.reduceAdd, Nat.reduceMul]
          exact ⟨fun c2 => y (decide_eq_true (by omega)), fun c2 => ⟨fun c3 => y (decide_eq_true (by omega)), fun c3 => z (decide_eq_false (by omega))⟩⟩
    · have f0 := hf e (by omega) (by omega)
      by_cases c2 : t - e ≤ 2
      · simp (disch := first | omega | assumption) only [u135_0, u135_1, u135_2, u135_5, u135_8, u135_9, u135_10, u135_13, u135_14, u135_17, u135_20, u135_21, u135_24, u135_25, u135_28, u135_29, u135_30, u135_34, u135_37, u135_38, u135_41, u135_44, u135_45, u135_48, u135_49, u135_52, u135_53, u135_54, u135_57, u135_60, u135_63, u135_66, u135_67, u135_68, u135_71, u135_73, u135_76, u135_77, u135_80, u135_83, u135_85, u135_86, u135_89, u135_90, u135_91, u135_94, u135_95, u135_98, u135_99, u135_100, u135_102, u135_103, u135_106, u135_107, u135_107i, u135_108, u135_111, u135_112, u135_113, u135_116, u135_119, u135_120, u135_123, u135_124, u135_127, u135_130, u135_131, u135_132, u135_135, u135_136, u135_139, u135_140, u135_141, u135_144, u135_145, u135_148, u135_149, u135_152, u135_155, u135_156, u135_159, u135_162, u135_163, u135_164, u135_167, u135_168, u135_171, u135_172, u135_175, u135_176, u135_177, u135_180, u135_181, u135_184, u135_187, u135_190, u135_193, u135_194, u135_197, u135_199, u135_202, u135_203, u135_206, u135_208, u135_211, u135_212, u135_215, u135_216, u135_219, u135_220, u135_220i, u135_221, u135_224, u135_225, u135_226, u135_229, kc29, ks29_0, ks29_1, ks29_2, ks29_3, ks29_4, ks29_5, ks29_6, ks29_7, ks29_8, ks29_9, ks29_10, ks29_11, ks29_12, ks29_13, ks29_14, ks29_15, ks29_16, ks29_17, ks29_18, ks29_19, ks29_20, ks29_21, ks29_22, ks29_23, ks29_24, q10, q11, q13, c, nIsub, c2, kc0, kc1, kc13, kc15, kc19, kc23, kc27, kc29, gb_z, z0, z1, n11, true_or, false_or, nb0, nb1, gb_01, nlt0, nge0, neq0, ngt0, nle0, m1lt, m1ge, true_implies, false_implies, not_true_eq_false, not_false_eq_true, Bool.true_eq_false, Bool.false_eq_true, eq_self, and_self, Nat.reduceEqDiff, Nat.reduceLT, gfv_s, gfv_n, gop1_s, nI_add, pk_mul, nIcl, vinT, nIle, nIlt, nIeq, true_and, and_true, List.cons_append, List.nil_append, List.length_nil, List.length_cons, Nat.zero_le, Nat.reduceLeDiff, Nat.reduceAdd, Nat.reduceMul]
        have hk : tK b n e = 2 ∧ tV b n e = w ∧ tN b n e = t := by
          by_cases c3 : t = e + 1
          · subst c3
            have vv := tVN_1 f0 hnf
            exact ⟨tK_f2 f0 (fun q => by rw [hnf] at q; simp at q), by rw [vv.1, v1 rfl], vv.2⟩
          · obtain rfl : t = e + 1 + 1 := by omega
            have f1 := hf (e + 1) (by omega) (by omega)
            have vv := tVN_2 f0 f1
            exact ⟨tK_f2 f0 (fun q => by rw [hnf] at q; simp at q), by rw [vv.1, v2 rfl], vv.2⟩
        refine hQ _ ⟨?_, ?_, fun _ => ⟨?_, ?_⟩⟩ (fun a ha => by rw [gr_ne ha, qa a ha]) (fun j hj => ?_)
        · rw [gr_at, upd_ne (by omega), q13]
        · rw [gr_at, upd_at, hk.1]
        · rw [gr_at, upd_ne (by omega), q12, hk.2.1]
        · rw [gr_at, upd_ne (by omega), q10, hk.2.2]
        · rw [gr_at, upd_ne (by omega), qk j hj]
      · simp (disch := first | omega | assumption) only [u135_0, u135_1, u135_2, u135_5, u135_8, u135_9, u135_10, u135_13, u135_14, u135_17, u135_20, u135_21, u135_24, u135_25, u135_28, u135_29, u135_30, u135_34, u135_37, u135_38, u135_41, u135_44, u135_45, u135_48, u135_49, u135_52, u135_53, u135_54, u135_57, u135_60, u135_63, u135_66, u135_67, u135_68, u135_71, u135_73, u135_76, u135_77, u135_80, u135_83, u135_85, u135_86, u135_89, u135_90, u135_91, u135_94, u135_95, u135_98, u135_99, u135_100, u135_102, u135_103, u135_106, u135_107, u135_107i, u135_108, u135_111, u135_112, u135_113, u135_116, u135_119, u135_120, u135_123, u135_124, u135_127, u135_130, u135_131, u135_132, u135_135, u135_136, u135_139, u135_140, u135_141, u135_144, u135_145, u135_148, u135_149, u135_152, u135_155, u135_156, u135_159, u135_162, u135_163, u135_164, u135_167, u135_168, u135_171, u135_172, u135_175, u135_176, u135_177, u135_180, u135_181, u135_184, u135_187, u135_190, u135_193, u135_194, u135_197, u135_199, u135_202, u135_203, u135_206, u135_208, u135_211, u135_212, u135_215, u135_216, u135_219, u135_220, u135_220i, u135_221, u135_224, u135_225, u135_226, u135_229, kc29, ks29_0, ks29_1, ks29_2, ks29_3, ks29_4, ks29_5, ks29_6, ks29_7, ks29_8, ks29_9, ks29_10, ks29_11, ks29_12, ks29_13, ks29_14, ks29_15, ks29_16, ks29_17, ks29_18, ks29_19, ks29_20, ks29_21, ks29_22, ks29_23, ks29_24, q10, q11, q13, c, nIsub, c2, kc0, kc1, kc13, kc15, kc19, kc23, kc27, kc29, gb_z, z0, z1, n11, true_or, false_or, nb0, nb1, gb_01, nlt0, nge0, neq0, ngt0, nle0, m1lt, m1ge, true_implies, false_implies, not_true_eq_false, not_false_eq_true, Bool.true_eq_false, Bool.false_eq_true, eq_self, and_self, Nat.reduceEqDiff, Nat.reduceLT, gfv_s, gfv_n, gop1_s, nI_add, pk_mul, nIcl, vinT, nIle, nIlt, nIeq, true_and, and_true, List.cons_append, List.nil_append, List.length_nil, List.length_cons, Nat.zero_le, Nat.reduceLeDiff, Nat.reduceAdd, Nat.reduceMul]
        have hk := tK_f3 f0 (hf (e + 1) (by omega) (by omega)) (hf (e + 1 + 1) (by omega) (by omega))
        refine hQ _ ⟨?_, ?_, fun q => by rw [hk] at q; omega⟩ (fun a ha => by rw [gr_ne ha, qa a ha]) (fun j hj => ?_)
        · rw [gr_at, upd_ne (by omega), q13]
        · rw [gr_at, upd_at, hk]
        · rw [gr_at, upd_ne (by omega), qk j hj]
  have loop : ∀ m t w M1, t + m = n → e ≤ t → (∀ i, e ≤ i → i < t → fg b n i = true) → (t = e → w = 0) → (t = e + 1 → w = b e - 48) → (t = e + 2 → w = (b e - 48) * 10 + (b (e + 1) - 48)) → w ≤ 999 → M1 29 10 = nI t → M1 29 11 = nI (if e = n then 3 else 0) → M1 29 12 = nI w → M1 29 13 = nI e → (∀ a, a ≠ 29 → M1 a = M a) → (∀ k, k < 10 ∨ 14 ≤ k → M1 29 k = M 29 k) → gR (gcl (d + 1)) (0, fun _ => 0) 135 33 [some (.ref 29)] [] (gSH ++ rs) M1 0 0 Q := by
    intro m
    induction m with
    | zero =>
      intro t w M1 hm h1 hf v0 v1 v2 hw q10 q11 q12 q13 qa qk
      obtain rfl : t = n := by omega
      have q8 : M1 29 8 = nI t := by rw [qk 8 (by omega)]; exact h8
      rw [u135_33]
      simp (disch := first | omega | assumption) only [u135_0, u135_1, u135_2, u135_5, u135_8, u135_9, u135_10, u135_13, u135_14, u135_17, u135_20, u135_21, u135_24, u135_25, u135_28, u135_29, u135_30, u135_34, u135_37, u135_38, u135_41, u135_44, u135_45, u135_48, u135_49, u135_52, u135_53, u135_54, u135_57, u135_60, u135_63, u135_66, u135_67, u135_68, u135_71, u135_73, u135_76, u135_77, u135_80, u135_83, u135_85, u135_86, u135_89, u135_90, u135_91, u135_94, u135_95, u135_98, u135_99, u135_100, u135_102, u135_103, u135_106, u135_107, u135_107i, u135_108, u135_111, u135_112, u135_113, u135_116, u135_120, u135_123, u135_124, u135_127, u135_130, u135_131, u135_132, u135_135, u135_136, u135_139, u135_140, u135_141, u135_144, u135_145, u135_148, u135_149, u135_152, u135_155, u135_156, u135_159, u135_162, u135_163, u135_164, u135_167, u135_168, u135_171, u135_172, u135_175, u135_176, u135_177, u135_180, u135_181, u135_184, u135_187, u135_190, u135_193, u135_194, u135_197, u135_199, u135_202, u135_203, u135_206, u135_208, u135_211, u135_212, u135_215, u135_216, u135_219, u135_220, u135_220i, u135_221, u135_224, u135_225, u135_226, u135_229, kc29, ks29_0, ks29_1, ks29_2, ks29_3, ks29_4, ks29_5, ks29_6, ks29_7, ks29_8, ks29_9, ks29_10, ks29_11, ks29_12, ks29_13, ks29_14, ks29_15, ks29_16, ks29_17, ks29_18, ks29_19, ks29_20, ks29_21, ks29_22, ks29_23, ks29_24, q10, q8, Nat.le_refl, kc0, kc1, kc13, kc15, kc19, kc23, kc27, kc29, gb_z, z0, z1, n11, true_or, false_or, nb0, nb1, gb_01, nlt0, nge0, neq0, ngt0, nle0, m1lt, m1ge, true_implies, false_implies, not_true_eq_false, not_false_eq_true, Bool.true_eq_false, Bool.false_eq_true, eq_self, and_self, Nat.reduceEqDiff, Nat.reduceLT, gfv_s, gfv_n, gop1_s, nI_add, pk_mul, nIcl, vinT, nIle, nIlt, nIeq, true_and, and_true, List.cons_append, List.nil_append, List.length_nil, List.length_cons, Nat.zero_le, Nat.reduceLeDiff, Nat.reduceAdd, Nat.reduceMul]
      exact ending M1 t w h1 (Nat.le_refl _) hf (decide_eq_false (by omega)) v1 v2 hw q10 q11 q12 q13 qa qk
    | succ m ih =>
      intro t w M1 hm h1 hf v0 v1 v2 hw q10 q11 q12 q13 qa qk
      have q8 : M1 29 8 = nI n := by rw [qk 8 (by omega)]; exact h8
      have hbt := hb t (by omega)
      have b35 : M1 35 t = nI (b t) := by rw [qa 35 (by omega)]; exact hbt.2
      have b35' : ∀ A2 : Nat → Int32, gr M1 29 A2 35 t = nI (b t) := fun A2 => by rw [gr_ne (by omega)]; exact b35
      have qn : ¬ n ≤ t := by omega
      have hin := gIn_n (p := b t) (l := 48) (n := 57) (by omega)
      rw [u135_33]
      cases g : fg b n t with
      | false =>
        have gf := fg_f g
        rw [decide_eq_false (by omega)] at hin
        simp (disch := first | omega | assumption) only [u135_0, u135_1, u135_2, u135_5, u135_8, u135_9, u135_10, u135_13, u135_14, u135_17, u135_20, u135_21, u135_24, u135_25, u135_28, u135_29, u135_30, u135_34, u135_37, u135_38, u135_41, u135_44, u135_45, u135_48, u135_49, u135_52, u135_53, u135_54, u135_57, u135_60, u135_63, u135_66, u135_67, u135_68, u135_71, u135_73, u135_76, u135_77, u135_80, u135_83, u135_85, u135_86, u135_89, u135_90, u135_91, u135_94, u135_95, u135_98, u135_99, u135_100, u135_102, u135_103, u135_106, u135_107, u135_107i, u135_108, u135_111, u135_112, u135_113, u135_116, u135_120, u135_123, u135_124, u135_127, u135_130, u135_131, u135_132, u135_135, u135_136, u135_139, u135_140, u135_141, u135_144, u135_145, u135_148, u135_149, u135_152, u135_155, u135_156, u135_159, u135_162, u135_163, u135_164, u135_167, u135_168, u135_171, u135_172, u135_175, u135_176, u135_177, u135_180, u135_181, u135_184, u135_187, u135_190, u135_193, u135_194, u135_197, u135_199, u135_202, u135_203, u135_206, u135_208, u135_211, u135_212, u135_215, u135_216, u135_219, u135_220, u135_220i, u135_221, u135_224, u135_225, u135_226, u135_229, kc29, ks29_0, ks29_1, ks29_2, ks29_3, ks29_4, ks29_5, ks29_6, ks29_7, ks29_8, ks29_9, ks29_10, ks29_11, ks29_12, ks29_13, ks29_14, ks29_15, ks29_16, ks29_17, ks29_18, ks29_19, ks29_20, ks29_21, ks29_22, ks29_23, ks29_24, kk35, kl35, q10, q8, qn, b35, m_inN, hin, kc0, kc1, kc13, kc15, kc19, kc23, kc27, kc29, gb_z, z0, z1, n11, true_or, false_or, nb0, nb1, gb_01, nlt0, nge0, neq0, ngt0, nle0, m1lt, m1ge, true_implies, false_implies, not_true_eq_false, not_false_eq_true, Bool.true_eq_false, Bool.false_eq_true, eq_self, and_self, Nat.reduceEqDiff, Nat.reduceLT, gfv_s, gfv_n, gop1_s, nI_add, pk_mul, nIcl, vinT, nIle, nIlt, nIeq, true_and, and_true, List.cons_append, List.nil_append, List.length_nil, List.length_cons, Nat.zero_le, Nat.reduceLeDiff, Nat.reduceAdd, Nat.reduceMul]
        exact ending M1 t w h1 (by omega) hf g v1 v2 hw q10 q11 q12 q13 qa qk
      | true =>
        have gt := fg_t g
        rw [decide_eq_true (by omega)] at hin
        have nxt : ∀ w2, w2 ≤ 999 → (t + 1 = e + 1 → w2 = b e - 48) → (t + 1 = e + 2 → w2 = (b e - 48) * 10 + (b (e + 1) - 48)) → gR (gcl (d + 1)) (0, fun _ => 0) 135 33 [some (.ref 29)] [] (gSH ++ rs) (gr M1 29 (upd (upd (M1 29) 12 (nI w2)) 10 (nI (t + 1)))) 0 0 Q := by
          intro w2 z1 z2 z3
          refine ih (t + 1) w2 _ (by omega) (by omega) (fun i i1 i2 => ?_) (fun q => by omega) z2 z3 z1 ?_ ?_ ?_ ?_ (fun a ha => by rw [gr_ne ha, qa a ha]) (fun j hj => ?_)
          · by_cases q : i = t
            · rw [q]; exact g
            · exact hf i i1 (by omega)
          · rw [gr_at, upd_at]
          · rw [gr_at, upd_ne (by omega), upd_ne (by omega), q11]
          · rw [gr_at, upd_ne (by omega), upd_at]
          · rw [gr_at, upd_ne (by omega), upd_ne (by omega), q13]
          · rw [gr_at, upd_ne (by omega), upd_ne (by omega), qk j hj]
        by_cases c9 : w ≤ 99
        · have e48 : 48 ≤ 10 * w + b t := by omega
          simp (disch := first | omega | assumption) only [u135_0, u135_1, u135_2, u135_5, u135_8, u135_9, u135_10, u135_13, u135_14, u135_17, u135_20, u135_21, u135_24, u135_25, u135_28, u135_29, u135_30, u135_34, u135_37, u135_38, u135_41, u135_44, u135_45, u135_48, u135_49, u135_52, u135_53, u135_54, u135_57, u135_60, u135_63, u135_66, u135_67, u135_68, u135_71, u135_73, u135_76, u135_77, u135_80, u135_83, u135_85, u135_86, u135_89, u135_90, u135_91, u135_94, u135_95, u135_98, u135_99, u135_100, u135_102, u135_103, u135_106, u135_107, u135_107i, u135_108, u135_111, u135_112, u135_113, u135_116, u135_120, u135_123, u135_124, u135_127, u135_130, u135_131, u135_132, u135_135, u135_136, u135_139, u135_140, u135_141, u135_144, u135_145, u135_148, u135_149, u135_152, u135_155, u135_156, u135_159, u135_162, u135_163, u135_164, u135_167, u135_168, u135_171, u135_172, u135_175, u135_176, u135_177, u135_180, u135_181, u135_184, u135_187, u135_190, u135_193, u135_194, u135_197, u135_199, u135_202, u135_203, u135_206, u135_208, u135_211, u135_212, u135_215, u135_216, u135_219, u135_220, u135_220i, u135_221, u135_224, u135_225, u135_226, u135_229, kc29, ks29_0, ks29_1, ks29_2, ks29_3, ks29_4, ks29_5, ks29_6, ks29_7, ks29_8, ks29_9, ks29_10, ks29_11, ks29_12, ks29_13, ks29_14, ks29_15, ks29_16, ks29_17, ks29_18, ks29_19, ks29_20, ks29_21, ks29_22, ks29_23, ks29_24, kk35, kl35, q10, q8, q12, qn, b35, b35', m_inN, hin, c9, nIsub, gr_at, gr_gr, upd_at, upd_ne, kc0, kc1, kc13, kc15, kc19, kc23, kc27, kc29, gb_z, z0, z1, n11, true_or, false_or, nb0, nb1, gb_01, nlt0, nge0, neq0, ngt0, nle0, m1lt, m1ge, true_implies, false_implies, not_true_eq_false, not_false_eq_true, Bool.true_eq_false, Bool.false_eq_true, eq_self, and_self, Nat.reduceEqDiff, Nat.reduceLT, gfv_s, gfv_n, gop1_s, nI_add, pk_mul, nIcl, vinT, nIle, nIlt, nIeq, true_and, and_true, List.cons_append, List.nil_append, List.length_nil, List.length_cons, Nat.zero_le, Nat.reduceLeDiff, Nat.reduceAdd, Nat.reduceMul]
          refine nxt (10 * w + b t - 48) (by omega) (fun q => ?_) (fun q => ?_)
          · obtain rfl : t = e := by omega
            rw [v0 rfl]
            omega
          · obtain rfl : t = e + 1 := by omega
            rw [v1 rfl]
            omega
        · simp (disch := first | omega | assumption) only [u135_0, u135_1, u135_2, u135_5, u135_8, u135_9, u135_10, u135_13, u135_14, u135_17, u135_20, u135_21, u135_24, u135_25, u135_28, u135_29, u135_30, u135_34, u135_37, u135_38, u135_41, u135_44, u135_45, u135_48, u135_49, u135_52, u135_53, u135_54, u135_57, u135_60, u135_63, u135_66, u135_67, u135_68, u135_71, u135_73, u135_76, u135_77, u135_80, u135_83, u135_85, u135_86, u135_89, u135_90, u135_91, u135_94, u135_95, u135_98, u135_99, u135_100, u135_102, u135_103, u135_106, u135_107, u135_107i, u135_108, u135_111, u135_112, u135_113, u135_116, u135_120, u135_123, u135_124, u135_127, u135_130, u135_131, u135_132, u135_135, u135_136, u135_139, u135_140, u135_141, u135_144, u135_145, u135_148, u135_149, u135_152, u135_155, u135_156, u135_159, u135_162, u135_163, u135_164, u135_167, u135_168, u135_171, u135_172, u135_175, u135_176, u135_177, u135_180, u135_181, u135_184, u135_187, u135_190, u135_193, u135_194, u135_197, u135_199, u135_202, u135_203, u135_206, u135_208, u135_211, u135_212, u135_215, u135_216, u135_219, u135_220, u135_220i, u135_221, u135_224, u135_225, u135_226, u135_229, kc29, ks29_0, ks29_1, ks29_2, ks29_3, ks29_4, ks29_5, ks29_6, ks29_7, ks29_8, ks29_9, ks29_10, ks29_11, ks29_12, ks29_13, ks29_14, ks29_15, ks29_16, ks29_17, ks29_18, ks29_19, ks29_20, ks29_21, ks29_22, ks29_23, ks29_24, kk35, kl35, q10, q8, q12, qn, b35, b35', m_inN, hin, c9, gr_at, gr_gr, upd_at, upd_ne, kc0, kc1, kc13, kc15, kc19, kc23, kc27, kc29, gb_z, z0, z1, n11, true_or, false_or, nb0, nb1, gb_01, nlt0, nge0, neq0, ngt0, nle0, m1lt, m1ge, true_implies, false_implies, not_true_eq_false, not_false_eq_true, Bool.true_eq_false, Bool.false_eq_true, eq_self, and_self, Nat.reduceEqDiff, Nat.reduceLT, gfv_s, gfv_n, gop1_s, nI_add, pk_mul, nIcl, vinT, nIle, nIlt, nIeq, true_and, and_true, List.cons_append, List.nil_append, List.length_nil, List.length_cons, Nat.zero_le, Nat.reduceLeDiff, Nat.reduceAdd, Nat.reduceMul]
          refine nxt w hw (fun q => ?_) (fun q => ?_)
          · have := v0 (by omega)
            omega
          · have := v1 (by omega)
            have h9 := fg_t (hf e (by omega) (by omega))
            omega
  rw [e135]
  by_cases c : e = n
  · subst c
    simp (disch := first | omega | assumption) only [u135_0, u135_1, u135_2, u135_5, u135_8, u135_9, u135_10, u135_13, u135_14, u135_17, u135_20, u135_21, u135_24, u135_25, u135_28, u135_29, u135_30, u135_34, u135_37, u135_38, u135_41, u135_44, u135_45, u135_48, u135_49, u135_52, u135_53, u135_54, u135_57, u135_60, u135_63, u135_66, u135_67, u135_68, u135_71, u135_73, u135_76, u135_77, u135_80, u135_83, u135_85, u135_86, u135_89, u135_90, u135_91, u135_94, u135_95, u135_98, u135_99, u135_100, u135_102, u135_103, u135_106, u135_107, u135_107i, u135_108, u135_111, u135_112, u135_113, u135_116, u135_119, u135_120, u135_123, u135_124, u135_127, u135_130, u135_131, u135_132, u135_135, u135_136, u135_139, u135_140, u135_141, u135_144, u135_145, u135_148, u135_149, u135_152, u135_155, u135_156, u135_159, u135_162, u135_163, u135_164, u135_167, u135_168, u135_171, u135_172, u135_175, u135_176, u135_177, u135_180, u135_181, u135_184, u135_187, u135_190, u135_193, u135_194, u135_197, u135_199, u135_202, u135_203, u135_206, u135_208, u135_211, u135_212, u135_215, u135_216, u135_219, u135_220, u135_220i, u135_221, u135_224, u135_225, u135_226, u135_229, kc29, ks29_0, ks29_1, ks29_2, ks29_3, ks29_4, ks29_5, ks29_6, ks29_7, ks29_8, ks29_9, ks29_10, ks29_11, ks29_12, ks29_13, ks29_14, ks29_15, ks29_16, ks29_17, ks29_18, ks29_19, ks29_20, ks29_21, ks29_22, ks29_23, ks29_24, h10, h8, gr_at, gr_gr, upd_at, upd_ne, kc0, kc1, kc13, kc15, kc19, kc23, kc27, kc29, gb_z, z0, z1, n11, true_or, false_or, nb0, nb1, gb_01, nlt0, nge0, neq0, ngt0, nle0, m1lt, m1ge, true_implies, false_implies, not_true_eq_false, not_false_eq_true, Bool.true_eq_false, Bool.false_eq_true, eq_self, and_self, Nat.reduceEqDiff, Nat.reduceLT, gfv_s, gfv_n, gop1_s, nI_add, pk_mul, nIcl, vinT, nIle, nIlt, nIeq, true_and, and_true, List.cons_append, List.nil_append, List.length_nil, List.length_cons, Nat.zero_le, Nat.reduceLeDiff, Nat.reduceAdd, Nat.reduceMul]
    refine loop 0 e 0 _ (by omega) (Nat.le_refl _) (fun i i1 i2 => by omega) (fun _ => rfl) (fun q => by omega) (fun q => by omega) (by omega) ?_ ?_ ?_ ?_ (fun a ha => gr_ne ha) (fun j hj => ?_)
    · rw [gr_at, upd_ne (by omega), upd_ne (by omega), upd_ne (by omega), h10]
    · rw [gr_at, upd_ne (by omega), upd_at, if_pos rfl]
    · rw [gr_at, upd_at]
    · rw [gr_at, upd_ne (by omega), upd_ne (by omega), upd_at]
    · rw [gr_at, upd_ne (by omega), upd_ne (by omega), upd_ne (by omega)]
  · simp (disch := first | omega | assumption) only [u135_0, u135_1, u135_2, u135_5, u135_8, u135_9, u135_10, u135_13, u135_14, u135_17, u135_20, u135_21, u135_24, u135_25, u135_28, u135_29, u135_30, u135_34, u135_37, u135_38, u135_41, u135_44, u135_45, u135_48, u135_49, u135_52, u135_53, u135_54, u135_57, u135_60, u135_63, u135_66, u135_67, u135_68, u135_71, u135_73, u135_76, u135_77, u135_80, u135_83, u135_85, u135_86, u135_89, u135_90, u135_91, u135_94, u135_95, u135_98, u135_99, u135_100, u135_102, u135_103, u135_106, u135_107, u135_107i, u135_108, u135_111, u135_112, u135_113, u135_116, u135_119, u135_120, u135_123, u135_124, u135_127, u135_130, u135_131, u135_132, u135_135, u135_136, u135_139, u135_140, u135_141, u135_144, u135_145, u135_148, u135_149, u135_152, u135_155, u135_156, u135_159, u135_162, u135_163, u135_164, u135_167, u135_168, u135_171, u135_172, u135_175, u135_176, u135_177, u135_180, u135_181, u135_184, u135_187, u135_190, u135_193, u135_194, u135_197, u135_199, u135_202, u135_203, u135_206, u135_208, u135_211, u135_212, u135_215, u135_216, u135_219, u135_220, u135_220i, u135_221, u135_224, u135_225, u135_226, u135_229, kc29, ks29_0, ks29_1, ks29_2, ks29_3, ks29_4, ks29_5, ks29_6, ks29_7, ks29_8, ks29_9, ks29_10, ks29_11, ks29_12, ks29_13, ks29_14, ks29_15, ks29_16, ks29_17, ks29_18, ks29_19, ks29_20, ks29_21, ks29_22, ks29_23, ks29_24, h10, h8, gr_at, gr_gr, upd_at, upd_ne, c, kc0, kc1, kc13, kc15, kc19, kc23, kc27, kc29, gb_z, z0, z1, n11, true_or, false_or, nb0, nb1, gb_01, nlt0, nge0, neq0, ngt0, nle0, m1lt, m1ge, true_implies, false_implies, not_true_eq_false, not_false_eq_true, Bool.true_eq_false, Bool.false_eq_true, eq_self, and_self, Nat.reduceEqDiff, Nat.reduceLT, gfv_s, gfv_n, gop1_s, nI_add, pk_mul, nIcl, vinT, nIle, nIlt, nIeq, true_and, and_true, List.cons_append, List.nil_append, List.length_nil, List.length_cons, Nat.zero_le, Nat.reduceLeDiff, Nat.reduceAdd, Nat.reduceMul]
    refine loop (n - e) e 0 _ (by omega) (Nat.le_refl _) (fun i i1 i2 => by omega) (fun _ => rfl) (fun q => by omega) (fun q => by omega) (by omega) ?_ ?_ ?_ ?_ (fun a ha => gr_ne ha) (fun j hj => ?_)
    · rw [gr_at, upd_ne (by omega), upd_ne (by omega), upd_ne (by omega), h10]
    · rw [gr_at, upd_ne (by omega), upd_at, if_neg c]
    · rw [gr_at, upd_at]
    · rw [gr_at, upd_ne (by omega), upd_ne (by omega), upd_at]
    · rw [gr_at, upd_ne (by omega), upd_ne (by omega), upd_ne (by omega)]
end G78
