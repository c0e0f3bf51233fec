/-! the class: items narrowed and put -/
def aNar (lane v : Int32) : Int32 := if lane = nI 0 then v.toInt8.toInt32 else if lane = nI 1 then v.toInt16.toInt32 else v
section G46
variable {d : Nat} {rs : gS} {sh : gS} {M : gM} {Q : gQ}
theorem c_narrowed {lane v : Int32} : gcl (d + 1) 70 [.int lane, .int v] sh M Q = Q [.int (aNar lane v)] sh M := by
  unfold aNar
  by_cases q0 : lane = nI 0
  · subst q0
    rw [e70]
    simp only [u70_0, u70_1_0, u70_1_1, u70_28, u70_29, u70_30, u70_31, u70_32, u70_33, u70_34, u70_35, if_true]
  · by_cases q1 : lane = nI 1
    · subst q1
      rw [e70, if_neg q0]
      simp only [u70_0, u70_1_0, u70_1_1, u70_28, u70_29, u70_30, u70_31, u70_32, u70_33, u70_34, u70_35, if_true]
    · rw [e70, if_neg q0, if_neg q1]
      simp only [u70_0, u70_1_0, u70_1_1, u70_28, u70_29, u70_30, u70_31, u70_32, u70_33, u70_34, u70_35]
      rw [u70_1_d ⟨q0, q1⟩]
      simp only [u70_0, u70_1_0, u70_1_1, u70_28, u70_29, u70_30, u70_31, u70_32, u70_33, u70_34, u70_35]
theorem c_put {i k : Nat} {v : Int32} (hi : i < 8) (hk : k < 40) : gcl (d + 2) 66 [.ref 1, .int (nI i), .int (nI k), .int v] (gSH ++ rs) M Q = Q [.int (aNar (M 11 i) v)] (gSH ++ rs) (gr M (3 + i) (upd (M (3 + i)) k (aNar (M 11 i) v))) := by
  rw [e66]
  simp (disch := omega) only [u66_0, u66_1, u66_4, u66_5, u66_6, u66_7, u66_8, u66_11, u66_12, u66_13, u66_14, u66_17, u66_18, u66_19, u66_22, u66_23, u66_24, u66_25, u66_26, kc1, ks1_0, ks1_1, ks1_2, kk2, kl2, kk11, kl11, kk12, kl12, krf, kki, kli, c_narrowed, gr_at, upd_at, gfv_s, gfv_n, gop1_s, nI_add, pk_mul, nIcl, vinT, nIle, nIlt, nIeq, true_and, and_true, List.cons_append, List.nil_append, List.length_nil, List.length_cons, Nat.zero_le, Nat.reduceLeDiff, Nat.reduceAdd, Nat.reduceMul]
end G46
