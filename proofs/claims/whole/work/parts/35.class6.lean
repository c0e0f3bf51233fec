/-! the class: years on end; trees felled and planted -/
theorem aGrow_b {f : Nat → Nat} {k : Nat} : aGrow f k ≤ f k + 2 := by
  unfold aGrow aGrowN
  split
  · have h1 := aBy_le f (k - 20)
    rw [show k = 20 + (k - 20) by omega]
    unfold aHi
    rw [Nat.add_sub_cancel_left]
    (repeat' split) <;> omega
  · split <;> omega
def cTk (r : Nat → Int32) (tree m k : Nat) : Int32 := if (7 + tree ≤ k ∧ k < 7 + m) ∨ (14 + tree ≤ k ∧ k < 14 + m) ∨ (21 + tree ≤ k ∧ k < 21 + m) ∨ (28 + tree ≤ k ∧ k < 28 + m) then r (k + 1) else r k
section G35
variable {d : Nat} {sh : gS} {M : gM} {Q : gQ} {f : Nat → Nat} {h : Nat}
theorem c_passYears {n : Nat} (hh : gHl sh h) (hH : cH (M (h + 1)) f) (hf : aInv f) (hy : f 4 ≤ 50000) (hn : n ≤ 1000) (hQ : ∀ M', cH (M' (h + 1)) (aYears n f) → (∀ a, a ≠ h + 1 → a ≠ h + 2 → a ≠ h + 3 → M' a = M a) → Q [] sh M') : gcl (d + 5) 42 [.ref h, .int (nI n)] sh M Q := by
  obtain ⟨k1, -⟩ := id hh
  have loop : ∀ m t M1 (g : Nat → Nat), t + m = n → cH (M1 (h + 1)) g → aInv g → g 4 ≤ 50000 + t → aYears m g = aYears n f → (∀ a, a ≠ h + 1 → a ≠ h + 2 → a ≠ h + 3 → M1 a = M a) → gR (gcl (d + 4)) (0, fun _ => 0) 42 2 [some (.ref h), some (.int (nI n)), some (.int (nI t))] [] sh M1 0 0 Q := by
    intro m
    induction m with
    | zero =>
      intro t M1 g ht h1 h2 h3 he hM
      rw [u42_2]
      simp (disch := omega) only [u42_0, u42_1, u42_3, u42_4, u42_7, u42_8, u42_11, u42_12, u42_15, u42_18, gfv_s, gfv_n, gop1_s, nI_add, pk_mul, nIcl, vinT, nIle, nIlt, nIeq, true_and, and_true, List.cons_append, List.nil_append, List.length_nil, List.length_cons, Nat.zero_le, Nat.reduceLeDiff, Nat.reduceAdd, Nat.reduceMul]
      refine ⟨fun _ => hQ M1 ?_ hM, fun q => absurd (by omega) q⟩
      have e : g = aYears n f := he
      rw [← e]
      exact h1
    | succ m ih =>
      intro t M1 g ht h1 h2 h3 he hM
      rw [u42_2]
      simp (disch := omega) only [u42_0, u42_1, u42_3, u42_4, u42_7, u42_8, u42_11, u42_12, u42_15, u42_18, k1, gfv_s, gfv_n, gop1_s, nI_add, pk_mul, nIcl, vinT, nIle, nIlt, nIeq, true_and, and_true, List.cons_append, List.nil_append, List.length_nil, List.length_cons, Nat.zero_le, Nat.reduceLeDiff, Nat.reduceAdd, Nat.reduceMul]
      refine ⟨fun q => absurd q (by omega), fun _ => ?_⟩
      refine c_passYear hh h1 h2 (by omega) (fun M2 x1 x2 => ?_)
      simp (disch := omega) only [u42_0, u42_1, u42_3, u42_4, u42_7, u42_8, u42_11, u42_12, u42_15, u42_18, gfv_s, gfv_n, gop1_s, nI_add, pk_mul, nIcl, vinT, nIle, nIlt, nIeq, true_and, and_true, List.cons_append, List.nil_append, List.length_nil, List.length_cons, Nat.zero_le, Nat.reduceLeDiff, Nat.reduceAdd, Nat.reduceMul]
      exact ih (t + 1) M2 (aYear g) (by omega) x1 (aYear_inv h2 (by omega)) (by rw [aYear_4]; omega) he (fun a q1 q2 q3 => by rw [x2 a q1 q2 q3]; exact hM a q1 q2 q3)
  rw [e42]
  simp only [u42_0, u42_1, u42_3, u42_4, u42_7, u42_8, u42_11, u42_12, u42_15, u42_18]
  exact loop n 0 M f (by omega) hH hf (by omega) rfl (fun _ _ _ _ => rfl)
theorem c_growFor {n : Nat} (hh : gHl sh h) (hT : cT (M (h + 1)) f) (hf : aWf f) (hb : ∀ k, k < 46 → f k < 500000) (hn : n ≤ 1000) (hQ : ∀ M', cT (M' (h + 1)) (aGrows n f) → (∀ k, k < 14 ∨ 35 ≤ k → M' (h + 1) k = M (h + 1) k) → (∀ a, a ≠ h + 1 → a ≠ h + 3 → M' a = M a) → Q [] sh M') : gcl (d + 4) 46 [.ref h, .int (nI n)] sh M Q := by
  obtain ⟨k1, -⟩ := id hh
  have loop : ∀ m t M1 (g : Nat → Nat), t + m = n → cT (M1 (h + 1)) g → aWf g → (∀ k, k < 46 → g k < 500000 + 2 * t) → aGrows m g = aGrows n f → (∀ k, k < 14 ∨ 35 ≤ k → M1 (h + 1) k = M (h + 1) k) → (∀ a, a ≠ h + 1 → a ≠ h + 3 → M1 a = M a) → gR (gcl (d + 3)) (0, fun _ => 0) 46 2 [some (.ref h), some (.int (nI n)), some (.int (nI t))] [] sh M1 0 0 Q := by
    intro m
    induction m with
    | zero =>
      intro t M1 g ht h1 h2 h3 he hK hM
      rw [u46_2]
      simp (disch := omega) only [u46_0, u46_1, u46_3, u46_4, u46_7, u46_8, u46_11, u46_14, u46_17, gfv_s, gfv_n, gop1_s, nI_add, pk_mul, nIcl, vinT, nIle, nIlt, nIeq, true_and, and_true, List.cons_append, List.nil_append, List.length_nil, List.length_cons, Nat.zero_le, Nat.reduceLeDiff, Nat.reduceAdd, Nat.reduceMul]
      refine ⟨fun _ => hQ M1 ?_ hK hM, fun q => absurd (by omega) q⟩
      have e : g = aGrows n f := he
      rw [← e]
      exact h1
    | succ m ih =>
      intro t M1 g ht h1 h2 h3 he hK hM
      rw [u46_2]
      simp (disch := omega) only [u46_0, u46_1, u46_3, u46_4, u46_7, u46_8, u46_11, u46_14, u46_17, k1, gfv_s, gfv_n, gop1_s, nI_add, pk_mul, nIcl, vinT, nIle, nIlt, nIeq, true_and, and_true, List.cons_append, List.nil_append, List.length_nil, List.length_cons, Nat.zero_le, Nat.reduceLeDiff, Nat.reduceAdd, Nat.reduceMul]
      refine ⟨fun q => absurd q (by omega), fun _ => ?_⟩
      refine c_growTrees hh h1 h2 (fun M2 x1 x2 x3 => ?_)
      simp (disch := omega) only [u46_0, u46_1, u46_3, u46_4, u46_7, u46_8, u46_11, u46_14, u46_17, gfv_s, gfv_n, gop1_s, nI_add, pk_mul, nIcl, vinT, nIle, nIlt, nIeq, true_and, and_true, List.cons_append, List.nil_append, List.length_nil, List.length_cons, Nat.zero_le, Nat.reduceLeDiff, Nat.reduceAdd, Nat.reduceMul]
      exact ih (t + 1) M2 (aGrow g) (by omega) x1 (aGrow_wf h2 (fun k hk => by have := h3 k hk; omega)) (fun k hk => by have := h3 k hk; have := @aGrow_b g k; omega) he (fun k hk => by rw [x2 k hk]; exact hK k hk) (fun a q1 q3 => by rw [x3 a q1 q3]; exact hM a q1 q3)
  rw [e46]
  simp only [u46_0, u46_1, u46_3, u46_4, u46_7, u46_8, u46_11, u46_14, u46_17]
  exact loop n 0 M f (by omega) hT hf (fun k hk => by have := hb k hk; omega) rfl (fun _ _ => rfl) (fun _ _ _ => rfl)
set_option maxHeartbeats 1000000 in
theorem c_removeTree {tree : Nat} (hh : gHl sh h) (hT : cT (M (h + 1)) f) (h2 : f 2 ≤ 7) (ht : tree < f 2) (hQ : ∀ M', cT (M' (h + 1)) (aTake f tree) → (∀ k, k ≠ 1 → k < 7 ∨ 35 ≤ k → M' (h + 1) k = M (h + 1) k) → (∀ a, a ≠ h + 1 → M' a = M a) → Q [] sh M') : gcl (d + 2) 31 [.ref h, .int (nI tree)] sh M Q := by
  obtain ⟨k1, k2, k3, k4, ⟨k5, k6⟩, -⟩ := id hh
  obtain ⟨t1, t3, tt⟩ := id hT
  have loop : ∀ n m M1, m + n = f 2 - 1 → tree ≤ m → (∀ k, M1 (h + 1) k = cTk (M (h + 1)) tree m k) → (∀ a, a ≠ h + 1 → M1 a = M a) → gR (gcl (d + 1)) (0, fun _ => 0) 31 9 [some (.ref h), some (.int (nI tree)), some (.int (nI (f 2 - 1))), some (.int (nI m))] [] sh M1 0 0 Q := by
    intro n
    induction n with
    | zero =>
      intro m M1 hm hle h1 hM
      obtain rfl : m = f 2 - 1 := by omega
      rw [u31_9]
      simp (disch := omega) only [u31_0, u31_1, u31_4, u31_5, u31_6, u31_7, u31_8, u31_10, u31_11, u31_14, u31_15, u31_18, u31_20, u31_21, u31_22, u31_23, u31_26, u31_28, u31_29, u31_30, u31_31, u31_32, u31_33, u31_34, u31_35, u31_38, u31_40, u31_41, u31_42, u31_43, u31_46, u31_48, u31_49, u31_50, u31_51, u31_52, u31_53, u31_54, u31_55, u31_58, u31_60, u31_61, u31_62, u31_63, u31_66, u31_68, u31_69, u31_70, u31_71, u31_72, u31_73, u31_74, u31_75, u31_78, u31_80, u31_81, u31_82, u31_83, u31_86, u31_88, u31_89, u31_90, u31_91, u31_92, u31_93, u31_94, u31_97, u31_100, u31_101, u31_104, u31_105, u31_106, u31_107, k1, k2, k5, k6, gfv_s, gfv_n, gop1_s, nI_add, pk_mul, nIcl, vinT, nIle, nIlt, nIeq, true_and, and_true, List.cons_append, List.nil_append, List.length_nil, List.length_cons, Nat.zero_le, Nat.reduceLeDiff, Nat.reduceAdd, Nat.reduceMul]
      refine ⟨fun _ => hQ _ ?_ (fun k q1 q2 => ?_) (fun a ha => by rw [gr_ne ha]; exact hM a ha), fun q => (q (Nat.le_refl _)).elim⟩
      · rw [gr_at]
        refine ⟨by rw [upd_at]; rfl, fun s hs => ?_, fun j hj => ?_⟩
        · rw [upd_ne (by omega), h1]
          unfold cTk
          rw [if_neg (by omega), t3 s hs, aFall_c (aTake_e f h2 (by omega) (by omega)) (aTake_e f h2 (by omega) (by omega))]
        · rw [aTake_2] at hj
          rw [aTake_t f h2 hj (Or.inl rfl), aTake_t f h2 hj (Or.inr (Or.inl rfl)), aTake_t f h2 hj (Or.inr (Or.inr (Or.inl rfl))), aTake_t f h2 hj (Or.inr (Or.inr (Or.inr rfl)))]
          rw [upd_ne (by omega), upd_ne (by omega), upd_ne (by omega), upd_ne (by omega), h1, h1, h1, h1]
          unfold cTk
          by_cases q : j < tree
          · rw [if_pos q, if_neg (by omega), if_neg (by omega), if_neg (by omega), if_neg (by omega)]
            exact tt j (by omega)
          · rw [if_neg q, if_pos (by omega), if_pos (by omega), if_pos (by omega), if_pos (by omega)]
            exact tt (j + 1) (by omega)
      · rw [gr_at, upd_ne q1, h1]
        unfold cTk
        rw [if_neg (by omega)]
    | succ n ih =>
      intro m M1 hm hle h1 hM
      rw [u31_9]
      simp (disch := omega) only [u31_0, u31_1, u31_4, u31_5, u31_6, u31_7, u31_8, u31_10, u31_11, u31_14, u31_15, u31_18, u31_20, u31_21, u31_22, u31_23, u31_26, u31_28, u31_29, u31_30, u31_31, u31_32, u31_33, u31_34, u31_35, u31_38, u31_40, u31_41, u31_42, u31_43, u31_46, u31_48, u31_49, u31_50, u31_51, u31_52, u31_53, u31_54, u31_55, u31_58, u31_60, u31_61, u31_62, u31_63, u31_66, u31_68, u31_69, u31_70, u31_71, u31_72, u31_73, u31_74, u31_75, u31_78, u31_80, u31_81, u31_82, u31_83, u31_86, u31_88, u31_89, u31_90, u31_91, u31_92, u31_93, u31_94, u31_97, u31_100, u31_101, u31_104, u31_105, u31_106, u31_107, k1, k2, k5, k6, gr_at, gr_gr, upd_ne, h1, gfv_s, gfv_n, gop1_s, nI_add, pk_mul, nIcl, vinT, nIle, nIlt, nIeq, true_and, and_true, List.cons_append, List.nil_append, List.length_nil, List.length_cons, Nat.zero_le, Nat.reduceLeDiff, Nat.reduceAdd, Nat.reduceMul]
      refine ⟨fun q => absurd q (by omega), fun _ => ih (m + 1) _ (by omega) (by omega) (fun k => ?_) (fun a ha => by rw [gr_ne ha]; exact hM a ha)⟩
      rw [gr_at]
      unfold upd
      simp only [h1]
      unfold cTk
      (repeat' split) <;> first | rfl | omega | (congr 1; omega)
  rw [e31]
  simp (disch := first | omega | assumption) only [u31_0, u31_1, u31_4, u31_5, u31_6, u31_7, u31_8, u31_10, u31_11, u31_14, u31_15, u31_18, u31_20, u31_21, u31_22, u31_23, u31_26, u31_28, u31_29, u31_30, u31_31, u31_32, u31_33, u31_34, u31_35, u31_38, u31_40, u31_41, u31_42, u31_43, u31_46, u31_48, u31_49, u31_50, u31_51, u31_52, u31_53, u31_54, u31_55, u31_58, u31_60, u31_61, u31_62, u31_63, u31_66, u31_68, u31_69, u31_70, u31_71, u31_72, u31_73, u31_74, u31_75, u31_78, u31_80, u31_81, u31_82, u31_83, u31_86, u31_88, u31_89, u31_90, u31_91, u31_92, u31_93, u31_94, u31_97, u31_100, u31_101, u31_104, u31_105, u31_106, u31_107, k1, c_trees, t1, nIsub, gfv_s, gfv_n, gop1_s, nI_add, pk_mul, nIcl, vinT, nIle, nIlt, nIeq, true_and, and_true, List.cons_append, List.nil_append, List.length_nil, List.length_cons, Nat.zero_le, Nat.reduceLeDiff, Nat.reduceAdd, Nat.reduceMul]
  refine loop (f 2 - 1 - tree) tree M (by omega) (Nat.le_refl _) (fun k => ?_) (fun _ _ => rfl)
  unfold cTk
  rw [if_neg (by omega)]
end G35
