/-! the reference: aside and back, light then; trees come and go -/
theorem upd_ne {f : Nat → Int32} {k j : Nat} {x : Int32} (h : j ≠ k) : upd f k x j = f j := by unfold upd; rw [if_neg h]
theorem upd_at {f : Nat → Int32} {k : Nat} {x : Int32} : upd f k x k = x := by unfold upd; rw [if_pos rfl]
theorem gr_gr {M : gM} {a : Nat} {f g : Nat → Int32} : gr (gr M a f) a g = gr M a g := by
  funext x
  unfold gr
  split <;> rfl
def aYears : Nat → (Nat → Nat) → (Nat → Nat)
  | 0, f => f
  | n + 1, f => aYears n (aYear f)
/-- what may change beside the hill in the reference -/
def mF (M M' : gM) : Prop := (∀ a, a ≠ 33 → a ≠ 29 → a ≠ 37 → M' a = M a) ∧ ∀ k, k ≠ 16 → M' 29 k = M 29 k
theorem mF_r (M : gM) : mF M M := ⟨fun _ _ _ _ => rfl, fun _ _ => rfl⟩
theorem mF_t {M M1 M2 : gM} (h1 : mF M M1) (h2 : mF M1 M2) : mF M M2 := ⟨fun a x y z => (h2.1 a x y z).trans (h1.1 a x y z), fun k hk => (h2.2 k hk).trans (h1.2 k hk)⟩
/-- the reference's hill -/
def mS (M : gM) (f : Nat → Nat) : Prop := ∀ k, k < 46 → M 33 k = nI (f k)
def aTk (f : Nat → Nat) (tree m k : Nat) : Nat := if k = 2 then f 2 - 1 else if 6 + tree ≤ k ∧ k < 6 + m then f (k + 1) else if 13 + tree ≤ k ∧ k < 13 + m then f (k + 1) else if 20 + tree ≤ k ∧ k < 20 + m then f (k + 1) else if 27 + tree ≤ k ∧ k < 27 + m then f (k + 1) else f k
def aTake (f : Nat → Nat) (tree : Nat) : Nat → Nat := aTk f tree (f 2 - 1)
def aAdd (f : Nat → Nat) (p kind : Nat) : Nat → Nat := aUp (aUp (aUp (aUp (aUp f (6 + f 2) kind) (13 + f 2) p) (20 + f 2) 0) (27 + f 2) 0) 2 (f 2 + 1)
section G27
variable {d : Nat} {rs : gS} {M : gM} {Q : gQ} {f : Nat → Nat}
theorem m_putAside (hQ : ∀ M', (∀ k, k < 46 → M' 39 k = M 33 k) → (∀ a, a ≠ 39 → M' a = M a) → Q [] (gSH ++ rs) M') : gcl (d + 1) 168 [.ref 29] (gSH ++ rs) M Q := by
  have loop : ∀ n t M1, t + n = 46 → (∀ k, k < t → M1 39 k = M 33 k) → (∀ a, a ≠ 39 → M1 a = M a) → gR (gcl d) (0, fun _ => 0) 168 2 [some (.ref 29), some (.int (nI t))] [] (gSH ++ rs) M1 0 0 Q := by
    intro n
    induction n with
    | zero =>
      intro t M1 ht h1 hM
      obtain rfl : t = 46 := by omega
      rw [u168_2]
      simp (disch := omega) only [u168_0, u168_1, u168_3, u168_5, u168_8, u168_9, u168_12, u168_13, u168_14, u168_17, u168_18, u168_19, u168_20, u168_23, u168_26, gfv_s, gfv_n, gop1_s, nI_add, pk_mul, nIcl, vinT, nIle, nIlt, nIeq, true_and, and_true, List.cons_append, List.nil_append, List.length_nil, List.length_cons, Nat.zero_le, Nat.reduceLeDiff, Nat.reduceAdd, Nat.reduceMul]
      exact ⟨fun _ => hQ M1 h1 hM, fun q => (q (by simp)).elim⟩
    | succ n ih =>
      intro t M1 ht h1 hM
      rw [u168_2]
      simp (disch := omega) only [u168_0, u168_1, u168_3, u168_5, u168_8, u168_9, u168_12, u168_13, u168_14, u168_17, u168_18, u168_19, u168_20, u168_23, u168_26, kc29, ks29_0, ks29_1, ks29_2, ks29_3, ks29_4, ks29_5, ks29_6, ks29_7, ks29_8, ks29_9, ks29_10, ks29_11, ks29_12, ks29_13, ks29_14, ks29_15, ks29_16, ks29_17, ks29_18, ks29_19, ks29_20, ks29_21, ks29_22, ks29_23, ks29_24, kk33, kl33, kk39, kl39, gfv_s, gfv_n, gop1_s, nI_add, pk_mul, nIcl, vinT, nIle, nIlt, nIeq, true_and, and_true, List.cons_append, List.nil_append, List.length_nil, List.length_cons, Nat.zero_le, Nat.reduceLeDiff, Nat.reduceAdd, Nat.reduceMul]
      refine ⟨fun q => absurd q (by omega), fun _ => ih (t + 1) _ (by omega) (fun k hk => ?_) (fun a ha => by rw [gr_ne ha]; exact hM a ha)⟩
      rw [gr_at]
      by_cases hk2 : k = t
      · rw [hk2, upd_at, hM 33 (by decide)]
      · rw [upd_ne hk2]
        exact h1 k (by omega)
  rw [e168]
  simp only [u168_0, u168_1, u168_3, u168_5, u168_8, u168_9, u168_12, u168_13, u168_14, u168_17, u168_18, u168_19, u168_20, u168_23, u168_26]
  exact loop 46 0 M rfl (fun k hk => absurd hk (Nat.not_lt_zero k)) (fun _ _ => rfl)
theorem m_takeBack (hQ : ∀ M', (∀ k, k < 46 → M' 33 k = M 39 k) → (∀ a, a ≠ 33 → M' a = M a) → Q [] (gSH ++ rs) M') : gcl (d + 1) 169 [.ref 29] (gSH ++ rs) M Q := by
  have loop : ∀ n t M1, t + n = 46 → (∀ k, k < t → M1 33 k = M 39 k) → (∀ a, a ≠ 33 → M1 a = M a) → gR (gcl d) (0, fun _ => 0) 169 2 [some (.ref 29), some (.int (nI t))] [] (gSH ++ rs) M1 0 0 Q := by
    intro n
    induction n with
    | zero =>
      intro t M1 ht h1 hM
      obtain rfl : t = 46 := by omega
      rw [u169_2]
      simp (disch := omega) only [u169_0, u169_1, u169_3, u169_5, u169_8, u169_9, u169_12, u169_13, u169_14, u169_17, u169_18, u169_19, u169_20, u169_23, u169_26, gfv_s, gfv_n, gop1_s, nI_add, pk_mul, nIcl, vinT, nIle, nIlt, nIeq, true_and, and_true, List.cons_append, List.nil_append, List.length_nil, List.length_cons, Nat.zero_le, Nat.reduceLeDiff, Nat.reduceAdd, Nat.reduceMul]
      exact ⟨fun _ => hQ M1 h1 hM, fun q => (q (by simp)).elim⟩
    | succ n ih =>
      intro t M1 ht h1 hM
      rw [u169_2]
      simp (disch := omega) only [u169_0, u169_1, u169_3, u169_5, u169_8, u169_9, u169_12, u169_13, u169_14, u169_17, u169_18, u169_19, u169_20, u169_23, u169_26, kc29, ks29_0, ks29_1, ks29_2, ks29_3, ks29_4, ks29_5, ks29_6, ks29_7, ks29_8, ks29_9, ks29_10, ks29_11, ks29_12, ks29_13, ks29_14, ks29_15, ks29_16, ks29_17, ks29_18, ks29_19, ks29_20, ks29_21, ks29_22, ks29_23, ks29_24, kk33, kl33, kk39, kl39, gfv_s, gfv_n, gop1_s, nI_add, pk_mul, nIcl, vinT, nIle, nIlt, nIeq, true_and, and_true, List.cons_append, List.nil_append, List.length_nil, List.length_cons, Nat.zero_le, Nat.reduceLeDiff, Nat.reduceAdd, Nat.reduceMul]
      refine ⟨fun q => absurd q (by omega), fun _ => ih (t + 1) _ (by omega) (fun k hk => ?_) (fun a ha => by rw [gr_ne ha]; exact hM a ha)⟩
      rw [gr_at]
      by_cases hk2 : k = t
      · rw [hk2, upd_at, hM 39 (by decide)]
      · rw [upd_ne hk2]
        exact h1 k (by omega)
  rw [e169]
  simp only [u169_0, u169_1, u169_3, u169_5, u169_8, u169_9, u169_12, u169_13, u169_14, u169_17, u169_18, u169_19, u169_20, u169_23, u169_26]
  exact loop 46 0 M rfl (fun k hk => absurd hk (Nat.not_lt_zero k)) (fun _ _ => rfl)
theorem m_lightIn {p n : Nat} {f0 : Nat → Nat} (hS : mS M f) (hf : aInv f) (hy : f 4 ≤ 50000) (hn : n ≤ 1000) (hp : p < 12) (h39 : ∀ k, k < 46 → M 39 k = nI (f0 k)) (hQ : ∀ M', mS M' f0 → mF M M' → Q [.int (nI (aLight (aYears n f) p))] (gSH ++ rs) M') : gcl (d + 6) 172 [.ref 29, .int (nI p), .int (nI n)] (gSH ++ rs) M Q := by
  have loop : ∀ m t M1 (g : Nat → Nat), t + m = n → mS M1 g → aInv g → g 4 ≤ 50000 + t → aYears m g = aYears n f → mF M M1 → gR (gcl (d + 5)) (0, fun _ => 0) 172 2 [some (.ref 29), some (.int (nI p)), some (.int (nI n)), some (.int (nI t))] [] (gSH ++ rs) M1 0 0 Q := by
    intro m
    induction m with
    | zero =>
      intro t M1 g ht h1 hg hg4 he hF
      obtain rfl : t = n := by omega
      rw [u172_2]
      simp (disch := omega) only [u172_0, u172_1, u172_3, u172_4, u172_7, u172_8, u172_11, u172_14, u172_17, u172_18, u172_19, u172_22, u172_23, u172_24, u172_27, u172_28, kc29, ks29_0, ks29_1, ks29_2, ks29_3, ks29_4, ks29_5, ks29_6, ks29_7, ks29_8, ks29_9, ks29_10, ks29_11, ks29_12, ks29_13, ks29_14, ks29_15, ks29_16, ks29_17, ks29_18, ks29_19, ks29_20, ks29_21, ks29_22, ks29_23, ks29_24, kk33, kl33, gfv_s, gfv_n, gop1_s, nI_add, pk_mul, nIcl, vinT, nIle, nIlt, nIeq, true_and, and_true, List.cons_append, List.nil_append, List.length_nil, List.length_cons, Nat.zero_le, Nat.reduceLeDiff, Nat.reduceAdd, Nat.reduceMul]
      refine ⟨fun _ => ?_, fun q => (q (by simp)).elim⟩
      refine m_lightOf h1 hg.1 hp ?_
      simp (disch := omega) only [u172_0, u172_1, u172_3, u172_4, u172_7, u172_8, u172_11, u172_14, u172_17, u172_18, u172_19, u172_22, u172_23, u172_24, u172_27, u172_28, kc29, ks29_0, ks29_1, ks29_2, ks29_3, ks29_4, ks29_5, ks29_6, ks29_7, ks29_8, ks29_9, ks29_10, ks29_11, ks29_12, ks29_13, ks29_14, ks29_15, ks29_16, ks29_17, ks29_18, ks29_19, ks29_20, ks29_21, ks29_22, ks29_23, ks29_24, kk33, kl33, gfv_s, gfv_n, gop1_s, nI_add, pk_mul, nIcl, vinT, nIle, nIlt, nIeq, true_and, and_true, List.cons_append, List.nil_append, List.length_nil, List.length_cons, Nat.zero_le, Nat.reduceLeDiff, Nat.reduceAdd, Nat.reduceMul]
      refine m_takeBack (fun M2 h2 hM2 => ?_)
      simp (disch := omega) only [u172_0, u172_1, u172_3, u172_4, u172_7, u172_8, u172_11, u172_14, u172_17, u172_18, u172_19, u172_22, u172_23, u172_24, u172_27, u172_28, kc29, ks29_0, ks29_1, ks29_2, ks29_3, ks29_4, ks29_5, ks29_6, ks29_7, ks29_8, ks29_9, ks29_10, ks29_11, ks29_12, ks29_13, ks29_14, ks29_15, ks29_16, ks29_17, ks29_18, ks29_19, ks29_20, ks29_21, ks29_22, ks29_23, ks29_24, kk33, kl33, gfv_s, gfv_n, gop1_s, nI_add, pk_mul, nIcl, vinT, nIle, nIlt, nIeq, true_and, and_true, List.cons_append, List.nil_append, List.length_nil, List.length_cons, Nat.zero_le, Nat.reduceLeDiff, Nat.reduceAdd, Nat.reduceMul]
      have e : g = aYears t f := he
      rw [e]
      refine hQ M2 (fun k hk => ?_) ⟨fun a x1 x2 x3 => ?_, fun k hk => ?_⟩
      · rw [h2 k hk, hF.1 39 (by decide) (by decide) (by decide)]
        exact h39 k hk
      · rw [hM2 a x1]
        exact hF.1 a x1 x2 x3
      · rw [hM2 29 (by decide)]
        exact hF.2 k hk
    | succ m ih =>
      intro t M1 g ht h1 hg hg4 he hF
      rw [u172_2]
      simp (disch := omega) only [u172_0, u172_1, u172_3, u172_4, u172_7, u172_8, u172_11, u172_14, u172_17, u172_18, u172_19, u172_22, u172_23, u172_24, u172_27, u172_28, kc29, ks29_0, ks29_1, ks29_2, ks29_3, ks29_4, ks29_5, ks29_6, ks29_7, ks29_8, ks29_9, ks29_10, ks29_11, ks29_12, ks29_13, ks29_14, ks29_15, ks29_16, ks29_17, ks29_18, ks29_19, ks29_20, ks29_21, ks29_22, ks29_23, ks29_24, kk33, kl33, gfv_s, gfv_n, gop1_s, nI_add, pk_mul, nIcl, vinT, nIle, nIlt, nIeq, true_and, and_true, List.cons_append, List.nil_append, List.length_nil, List.length_cons, Nat.zero_le, Nat.reduceLeDiff, Nat.reduceAdd, Nat.reduceMul]
      refine ⟨fun q => absurd q (by omega), fun _ => ?_⟩
      refine m_oneYear h1 hg (by omega) (fun M2 a1 a2 a3 a4 => ?_)
      simp (disch := omega) only [u172_0, u172_1, u172_3, u172_4, u172_7, u172_8, u172_11, u172_14, u172_17, u172_18, u172_19, u172_22, u172_23, u172_24, u172_27, u172_28, kc29, ks29_0, ks29_1, ks29_2, ks29_3, ks29_4, ks29_5, ks29_6, ks29_7, ks29_8, ks29_9, ks29_10, ks29_11, ks29_12, ks29_13, ks29_14, ks29_15, ks29_16, ks29_17, ks29_18, ks29_19, ks29_20, ks29_21, ks29_22, ks29_23, ks29_24, kk33, kl33, gfv_s, gfv_n, gop1_s, nI_add, pk_mul, nIcl, vinT, nIle, nIlt, nIeq, true_and, and_true, List.cons_append, List.nil_append, List.length_nil, List.length_cons, Nat.zero_le, Nat.reduceLeDiff, Nat.reduceAdd, Nat.reduceMul]
      exact ih (t + 1) M2 (aYear g) (by omega) a1 (aYear_inv hg (by omega)) (by rw [aYear_4]; omega) he (mF_t hF ⟨a4, a3⟩)
  rw [e172]
  simp only [u172_0, u172_1, u172_3, u172_4, u172_7, u172_8, u172_11, u172_14, u172_17, u172_18, u172_19, u172_22, u172_23, u172_24, u172_27, u172_28]
  exact loop n 0 M f (by omega) hS hf (by omega) rfl (mF_r M)
set_option maxHeartbeats 2000000 in
theorem m_takeTree {tree : Nat} (hS : mS M f) (h2 : f 2 ≤ 7) (ht : tree < f 2) (hQ : ∀ M', mS M' (aTake f tree) → (∀ a, a ≠ 33 → M' a = M a) → Q [] (gSH ++ rs) M') : gcl (d + 1) 160 [.ref 29, .int (nI tree)] (gSH ++ rs) M Q := by
  have loop : ∀ n m M1, m + n = f 2 - 1 → tree ≤ m → mS M1 (aTk f tree m) → (∀ a, a ≠ 33 → M1 a = M a) → gR (gcl d) (0, fun _ => 0) 160 12 [some (.ref 29), some (.int (nI tree)), some (.int (nI m))] [] (gSH ++ rs) M1 0 0 Q := by
    intro n
    induction n with
    | zero =>
      intro m M1 hm hle h1 hM
      obtain rfl : m = f 2 - 1 := by omega
      have e2 : aTk f tree (f 2 - 1) 2 = f 2 - 1 := rfl
      have h1' : ∀ k, k < 46 → M1 33 k = nI (aTk f tree (f 2 - 1) k) := h1
      rw [u160_12]
      simp (disch := omega) only [u160_0, u160_1, u160_4, u160_5, u160_6, u160_7, u160_8, u160_9, u160_10, u160_11, u160_13, u160_14, u160_17, u160_18, u160_19, u160_22, u160_23, u160_26, u160_28, u160_29, u160_30, u160_31, u160_34, u160_36, u160_37, u160_38, u160_39, u160_40, u160_41, u160_42, u160_43, u160_46, u160_48, u160_49, u160_50, u160_51, u160_54, u160_56, u160_57, u160_58, u160_59, u160_60, u160_61, u160_62, u160_63, u160_66, u160_68, u160_69, u160_70, u160_71, u160_74, u160_76, u160_77, u160_78, u160_79, u160_80, u160_81, u160_82, u160_83, u160_86, u160_88, u160_89, u160_90, u160_91, u160_94, u160_96, u160_97, u160_98, u160_99, u160_100, u160_101, u160_102, u160_105, u160_108, kc29, ks29_0, ks29_1, ks29_2, ks29_3, ks29_4, ks29_5, ks29_6, ks29_7, ks29_8, ks29_9, ks29_10, ks29_11, ks29_12, ks29_13, ks29_14, ks29_15, ks29_16, ks29_17, ks29_18, ks29_19, ks29_20, ks29_21, ks29_22, ks29_23, ks29_24, kk33, kl33, h1', e2, gfv_s, gfv_n, gop1_s, nI_add, pk_mul, nIcl, vinT, nIle, nIlt, nIeq, true_and, and_true, List.cons_append, List.nil_append, List.length_nil, List.length_cons, Nat.zero_le, Nat.reduceLeDiff, Nat.reduceAdd, Nat.reduceMul]
      exact ⟨fun _ => hQ M1 h1 hM, fun q => (q (Nat.le_refl _)).elim⟩
    | succ n ih =>
      intro m M1 hm hle h1 hM
      have e2 : aTk f tree m 2 = f 2 - 1 := rfl
      have h1' : ∀ k, k < 46 → M1 33 k = nI (aTk f tree m k) := h1
      have e6 : aTk f tree m (6 + m + 1) = f (6 + m + 1) := by unfold aTk; (repeat' split) <;> first | rfl | omega
      have e13 : aTk f tree m (13 + m + 1) = f (13 + m + 1) := by unfold aTk; (repeat' split) <;> first | rfl | omega
      have e20 : aTk f tree m (20 + m + 1) = f (20 + m + 1) := by unfold aTk; (repeat' split) <;> first | rfl | omega
      have e27 : aTk f tree m (27 + m + 1) = f (27 + m + 1) := by unfold aTk; (repeat' split) <;> first | rfl | omega
      rw [u160_12]
      simp (disch := omega) only [u160_0, u160_1, u160_4, u160_5, u160_6, u160_7, u160_8, u160_9, u160_10, u160_11, u160_13, u160_14, u160_17, u160_18, u160_19, u160_22, u160_23, u160_26, u160_28, u160_29, u160_30, u160_31, u160_34, u160_36, u160_37, u160_38, u160_39, u160_40, u160_41, u160_42, u160_43, u160_46, u160_48, u160_49, u160_50, u160_51, u160_54, u160_56, u160_57, u160_58, u160_59, u160_60, u160_61, u160_62, u160_63, u160_66, u160_68, u160_69, u160_70, u160_71, u160_74, u160_76, u160_77, u160_78, u160_79, u160_80, u160_81, u160_82, u160_83, u160_86, u160_88, u160_89, u160_90, u160_91, u160_94, u160_96, u160_97, u160_98, u160_99, u160_100, u160_101, u160_102, u160_105, u160_108, kc29, ks29_0, ks29_1, ks29_2, ks29_3, ks29_4, ks29_5, ks29_6, ks29_7, ks29_8, ks29_9, ks29_10, ks29_11, ks29_12, ks29_13, ks29_14, ks29_15, ks29_16, ks29_17, ks29_18, ks29_19, ks29_20, ks29_21, ks29_22, ks29_23, ks29_24, kk33, kl33, gr_at, gr_gr, upd_ne, h1', e2, e6, e13, e20, e27, gfv_s, gfv_n, gop1_s, nI_add, pk_mul, nIcl, vinT, nIle, nIlt, nIeq, true_and, and_true, List.cons_append, List.nil_append, List.length_nil, List.length_cons, Nat.zero_le, Nat.reduceLeDiff, Nat.reduceAdd, Nat.reduceMul]
      refine ⟨fun q => absurd q (by omega), fun _ => ih (m + 1) _ (by omega) (by omega) (fun k hk => ?_) (fun a ha => by rw [gr_ne ha]; exact hM a ha)⟩
      rw [gr_at]
      by_cases q4 : k = 27 + m
      · rw [q4, upd_at]
        congr 1
        unfold aTk
        repeat' split
        all_goals first | rfl | omega
      · rw [upd_ne q4]
        by_cases q3 : k = 20 + m
        · rw [q3, upd_at]
          congr 1
          unfold aTk
          repeat' split
          all_goals first | rfl | omega
        · rw [upd_ne q3]
          by_cases q2 : k = 13 + m
          · rw [q2, upd_at]
            congr 1
            unfold aTk
            repeat' split
            all_goals first | rfl | omega
          · rw [upd_ne q2]
            by_cases q1 : k = 6 + m
            · rw [q1, upd_at]
              congr 1
              unfold aTk
              repeat' split
              all_goals first | rfl | omega
            · rw [upd_ne q1, h1' k hk]
              congr 1
              unfold aTk
              repeat' split
              all_goals first | rfl | omega
  have hS' : ∀ k, k < 46 → M 33 k = nI (f k) := hS
  rw [e160]
  simp (disch := omega) only [u160_0, u160_1, u160_4, u160_5, u160_6, u160_7, u160_8, u160_9, u160_10, u160_11, u160_13, u160_14, u160_17, u160_18, u160_19, u160_22, u160_23, u160_26, u160_28, u160_29, u160_30, u160_31, u160_34, u160_36, u160_37, u160_38, u160_39, u160_40, u160_41, u160_42, u160_43, u160_46, u160_48, u160_49, u160_50, u160_51, u160_54, u160_56, u160_57, u160_58, u160_59, u160_60, u160_61, u160_62, u160_63, u160_66, u160_68, u160_69, u160_70, u160_71, u160_74, u160_76, u160_77, u160_78, u160_79, u160_80, u160_81, u160_82, u160_83, u160_86, u160_88, u160_89, u160_90, u160_91, u160_94, u160_96, u160_97, u160_98, u160_99, u160_100, u160_101, u160_102, u160_105, u160_108, kc29, ks29_0, ks29_1, ks29_2, ks29_3, ks29_4, ks29_5, ks29_6, ks29_7, ks29_8, ks29_9, ks29_10, ks29_11, ks29_12, ks29_13, ks29_14, ks29_15, ks29_16, ks29_17, ks29_18, ks29_19, ks29_20, ks29_21, ks29_22, ks29_23, ks29_24, kk33, kl33, hS', nIsub, gfv_s, gfv_n, gop1_s, nI_add, pk_mul, nIcl, vinT, nIle, nIlt, nIeq, true_and, and_true, List.cons_append, List.nil_append, List.length_nil, List.length_cons, Nat.zero_le, Nat.reduceLeDiff, Nat.reduceAdd, Nat.reduceMul]
  refine loop (f 2 - 1 - tree) tree _ (by omega) (Nat.le_refl _) (fun k hk => ?_) (fun a ha => by rw [gr_ne ha])
  rw [gr_at]
  by_cases q : k = 2
  · rw [q, upd_at]; rfl
  · rw [upd_ne q, hS' k hk]
    congr 1
    unfold aTk
    repeat' split
    all_goals first | rfl | omega
theorem m_addTree {p kind : Nat} (hS : mS M f) (h2 : f 2 ≤ 6) (hQ : ∀ M', mS M' (aAdd f p kind) → (∀ a, a ≠ 33 → M' a = M a) → Q [] (gSH ++ rs) M') : gcl (d + 1) 159 [.ref 29, .int (nI p), .int (nI kind)] (gSH ++ rs) M Q := by
  have hS' : ∀ k, k < 46 → M 33 k = nI (f k) := hS
  rw [e159]
  simp (disch := omega) only [u159_0, u159_1, u159_4, u159_5, u159_6, u159_7, u159_8, u159_11, u159_13, u159_14, u159_15, u159_16, u159_17, u159_18, u159_21, u159_23, u159_24, u159_25, u159_26, u159_27, u159_28, u159_31, u159_33, u159_34, u159_35, u159_36, u159_37, u159_38, u159_41, u159_43, u159_44, u159_45, u159_46, u159_47, u159_48, u159_51, u159_52, u159_53, u159_54, u159_55, u159_56, u159_57, kc29, ks29_0, ks29_1, ks29_2, ks29_3, ks29_4, ks29_5, ks29_6, ks29_7, ks29_8, ks29_9, ks29_10, ks29_11, ks29_12, ks29_13, ks29_14, ks29_15, ks29_16, ks29_17, ks29_18, ks29_19, ks29_20, ks29_21, ks29_22, ks29_23, ks29_24, kk33, kl33, gr_at, gr_gr, upd_ne, hS', gfv_s, gfv_n, gop1_s, nI_add, pk_mul, nIcl, vinT, nIle, nIlt, nIeq, true_and, and_true, List.cons_append, List.nil_append, List.length_nil, List.length_cons, Nat.zero_le, Nat.reduceLeDiff, Nat.reduceAdd, Nat.reduceMul]
  refine hQ _ (fun k hk => ?_) (fun a ha => by rw [gr_ne ha])
  rw [gr_at]
  unfold aAdd aUp upd
  repeat' split
  all_goals first | rfl | exact hS' k hk | omega
end G27
