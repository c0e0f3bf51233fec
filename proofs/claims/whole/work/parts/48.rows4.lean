/-! the class: items brought -/
section G48
variable {d : Nat} {rs : gS} {M : gM} {Q : gQ}
theorem c_bring {a b i j n : Nat} (ha : a < 8) (hb : b < 8) (hi : i + n ≤ 40) (hj : j + n ≤ 40) : gcl (d + 1) 67 [.ref 1, .int (nI a), .int (nI i), .int (nI b), .int (nI j), .int (nI n)] (gSH ++ rs) M Q = Q [] (gSH ++ rs) (gr M (3 + b) (va_cpy (M (3 + a)) (M (3 + b)) i j n)) := by
  rw [e67]
  simp (disch := omega) only [u67_0, u67_1, u67_4, u67_5, u67_6, u67_7, u67_8, u67_11, u67_12, u67_13, u67_15, u67_17, u67_20, kc1, ks1_0, ks1_1, ks1_2, kk2, kl2, kk11, kl11, kk12, kl12, krf, kki, kli, nIz, gfv_s, gfv_n, gop1_s, nI_add, pk_mul, nIcl, vinT, nIle, nIlt, nIeq, true_and, and_true, List.cons_append, List.nil_append, List.length_nil, List.length_cons, Nat.zero_le, Nat.reduceLeDiff, Nat.reduceAdd, Nat.reduceMul]
  apply propext
  exact ⟨fun h => h.2, fun h => ⟨⟨⟨by omega, by omega, by omega⟩, by omega, by omega⟩, h⟩⟩
end G48
