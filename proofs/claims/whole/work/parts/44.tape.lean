/-! the class: the tape (13, bytes 14) -/
section G44
variable {d : Nat} {rs : gS} {M : gM} {Q : gQ}
theorem c_tadd {n : Nat} {x : Int32} (h1 : M 13 1 = nI n) (hn : n < 120) : gcl (d + 1) 72 [.ref 13, .int x] (gSH ++ rs) M Q = Q [.int (nI (n + 1))] (gSH ++ rs) (gr (gr M 14 (upd (M 14) n x)) 13 (upd (M 13) 1 (nI (n + 1)))) := by
  have e : gr M 14 (upd (M 14) n x) 13 = M 13 := gr_ne (by decide)
  rw [e72]
  simp (disch := omega) only [u72_0, u72_1, u72_4, u72_5, u72_8, u72_9, u72_10, u72_11, u72_11i, u72_12, u72_15, u72_16, u72_17, u72_20, u72_21, u72_24, kc13, ks13_0, ks13_1, kk14, kl14, h1, e, gr_at, upd_at, gfv_s, gfv_n, gop1_s, nI_add, pk_mul, nIcl, vinT, nIle, nIlt, nIeq, true_and, and_true, List.cons_append, List.nil_append, List.length_nil, List.length_cons, Nat.zero_le, Nat.reduceLeDiff, Nat.reduceAdd, Nat.reduceMul]
theorem c_isFigure {n i : Nat} {b : Nat → Nat} (h1 : M 13 1 = nI n) (hn : n ≤ 120) (hi : i ≤ 1000) (hb : ∀ k, k < n → M 14 k = nI (b k)) (hb2 : ∀ k, k < n → b k < 1000000) (hQ : Q [.int (if i < n ∧ 48 ≤ b i ∧ b i ≤ 57 then nI 1 else nI 0)] (gSH ++ rs) M) : gcl (d + 1) 73 [.ref 13, .int (nI i)] (gSH ++ rs) M Q := by
  rw [e73]
  by_cases q : i < n
  · have e1 := hb i q
    have e2 := hb2 i q
    simp (disch := omega) only [u73_0, u73_1, u73_4, u73_5, u73_6, u73_9, u73_12, u73_13, u73_16, u73_17, u73_18, u73_20, u73_23, u73_24, u73_27, u73_28, u73_29, u73_31, u73_34, u73_35, u73_38, u73_39, kc13, ks13_0, ks13_1, kk14, kl14, h1, e1, nIz, gfv_s, gfv_n, gop1_s, nI_add, pk_mul, nIcl, vinT, nIle, nIlt, nIeq, true_and, and_true, List.cons_append, List.nil_append, List.length_nil, List.length_cons, Nat.zero_le, Nat.reduceLeDiff, Nat.reduceAdd, Nat.reduceMul]
    refine ⟨fun z => absurd z (by omega), fun _ => ⟨fun z => absurd z (by omega), fun _ => ⟨fun z => ?_, fun z => ⟨fun z2 => ?_, fun z2 => ?_⟩⟩⟩⟩
    · rw [if_neg (by omega)] at hQ
      exact ⟨Or.inl trivial, hQ⟩
    · rw [if_neg (by omega)] at hQ
      exact ⟨Or.inl trivial, hQ⟩
    · rw [if_pos (by omega)] at hQ
      exact ⟨Or.inr rfl, hQ⟩
  · rw [if_neg (by omega)] at hQ
    simp (disch := omega) only [u73_0, u73_1, u73_4, u73_5, u73_6, u73_9, u73_12, u73_13, u73_16, u73_17, u73_18, u73_20, u73_23, u73_24, u73_27, u73_28, u73_29, u73_31, u73_34, u73_35, u73_38, u73_39, kc13, ks13_0, ks13_1, kk14, kl14, h1, nIz, gfv_s, gfv_n, gop1_s, nI_add, pk_mul, nIcl, vinT, nIle, nIlt, nIeq, true_and, and_true, List.cons_append, List.nil_append, List.length_nil, List.length_cons, Nat.zero_le, Nat.reduceLeDiff, Nat.reduceAdd, Nat.reduceMul]
    exact ⟨fun z => absurd z (by omega), fun _ => ⟨fun _ => ⟨Or.inl trivial, hQ⟩, fun z => absurd (by omega) z⟩⟩
end G44
