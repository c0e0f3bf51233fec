/-! the class: what a row holds -/
section G47
variable {d : Nat} {rs : gS} {M : gM} {Q : gQ}
theorem c_holds {i s : Nat} {x n : Int32} (hi : i < 8) (h12 : M 12 i = nI s) (hQ : Q [.int (if 0 ≤ x ∧ 0 ≤ n ∧ x ≤ nI s ∧ n ≤ nI s - x then nI 1 else nI 0)] (gSH ++ rs) M) : gcl (d + 1) 64 [.ref 1, .int (nI i), .int x, .int n] (gSH ++ rs) M Q := by
  have c0 : ∀ {P : Prop} [Decidable P], ¬ P → (if P then nI 1 else nI 0) = nI 0 := fun h => if_neg h
  rw [e64]
  simp (disch := omega) only [u64_0, u64_1, u64_4, u64_5, u64_8, u64_9, u64_10, u64_13, u64_14, u64_15, u64_18, u64_19, u64_20, u64_23, u64_24, u64_25, u64_26, u64_27, u64_30, u64_31, u64_34, u64_35, kc1, ks1_0, ks1_1, ks1_2, kk11, kl11, kk12, kl12, h12, gfv_s, gfv_n, gop1_s, nI_add, pk_mul, nIcl, vinT, nIle, nIlt, nIeq, true_and, and_true, List.cons_append, List.nil_append, List.length_nil, List.length_cons, Nat.zero_le, Nat.reduceLeDiff, Nat.reduceAdd, Nat.reduceMul]
  refine ⟨fun z => ?_, fun z1 => ⟨fun z => ?_, fun z2 => ⟨fun z => ?_, fun z3 => ⟨fun z => ?_, fun z4 => ?_⟩⟩⟩⟩
  · rw [if_neg (fun q => Int32.not_lt.2 q.1 z)] at hQ
    exact ⟨Or.inl rfl, hQ⟩
  · rw [if_neg (fun q => Int32.not_lt.2 q.2.1 z)] at hQ
    exact ⟨Or.inl rfl, hQ⟩
  · rw [if_neg (fun q => Int32.not_lt.2 q.2.2.1 z)] at hQ
    exact ⟨Or.inl rfl, hQ⟩
  · rw [if_neg (fun q => Int32.not_lt.2 q.2.2.2 z)] at hQ
    exact ⟨Or.inl rfl, hQ⟩
  · rw [if_pos ⟨Int32.not_lt.1 z1, Int32.not_lt.1 z2, Int32.not_lt.1 z3, Int32.not_lt.1 z4⟩] at hQ
    exact ⟨Or.inr rfl, hQ⟩
end G47
