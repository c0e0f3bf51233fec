/-! the reference: sets of trees felled; what is kept -/
def aHas (n k : Nat) : Bool := decide (n / 2 ^ k % 2 = 1)
def aFellN (set : Nat) : Nat → (Nat → Nat) → (Nat → Nat)
  | 0, f => f
  | t + 1, f => aFellN set t (if aHas set t = true then aTake f t else f)
def aFell (f : Nat → Nat) (set : Nat) : Nat → Nat := aFellN set (f 2) f
theorem nIbit : ∀ n, n < 64 → ∀ k, k < 6 → (nI n >>> (nI k &&& 31)) &&& nI 1 = nI (n / 2 ^ k % 2) := by decide +kernel
theorem aTake_2 (f : Nat → Nat) (t : Nat) : aTake f t 2 = f 2 - 1 := rfl
theorem aTake_e (f : Nat → Nat) {t k : Nat} (h : f 2 ≤ 7) (hk : k ≠ 2) (h2 : k < 6 ∨ 34 ≤ k) : aTake f t k = f k := by
  unfold aTake aTk
  (repeat' split) <;> first | rfl | omega
/-- a tree behind the felled one comes forward -/
theorem aTake_t (f : Nat → Nat) {t j b : Nat} (h : f 2 ≤ 7) (hj : j < f 2 - 1) (hb : b = 6 ∨ b = 13 ∨ b = 20 ∨ b = 27) : aTake f t (b + j) = f (b + (if j < t then j else j + 1)) := by
  unfold aTake aTk
  rcases hb with rfl | rfl | rfl | rfl <;> by_cases q : j < t
  all_goals first | rw [if_pos q] | rw [if_neg q]
  all_goals (repeat' split) <;> first | rfl | omega | (congr 1; omega)
theorem aTake_wf {f : Nat → Nat} {t : Nat} (hf : aWf f) (ht : t < f 2) : aWf (aTake f t) := by
  obtain ⟨⟨a0, a1, a2, a3⟩, h1, h2, h3⟩ := hf
  refine ⟨⟨by rw [aTake_e f a2 (by omega) (by omega)]; exact a0, by rw [aTake_e f a2 (by omega) (by omega)]; exact a1, by rw [aTake_2]; omega, by rw [aTake_e f a2 (by omega) (by omega)]; exact a3⟩, fun j hj => ?_, fun h hh => ?_, fun k hk => ?_⟩
  · rw [aTake_2] at hj
    rw [aTake_t f a2 hj (Or.inl rfl), aTake_t f a2 hj (Or.inr (Or.inl rfl)), aTake_t f a2 hj (Or.inr (Or.inr (Or.inl rfl)))]
    exact h1 _ (by split <;> omega)
  · rw [aTake_e f a2 (by omega) (by omega)] at hh
    rw [aTake_e f a2 (by omega) (by omega)]
    exact h2 h hh
  · unfold aTake aTk
    (repeat' split) <;> first | exact h3 k hk | exact h3 (k + 1) (by omega) | (have := h3 2 (by omega); omega)
theorem aTake_inv {f : Nat → Nat} {t : Nat} (hf : aInv f) (ht : t < f 2) : aInv (aTake f t) := by
  refine ⟨aTake_wf hf.1 ht, fun k hk => ?_⟩
  have h2 := hf.1.1.2.2.1
  rw [aTake_e f h2 (k := 4) (by omega) (by omega)]
  unfold aTake aTk
  (repeat' split) <;> first | exact hf.2 k hk | exact hf.2 (k + 1) (by omega) | (have := hf.2 2 (by omega); omega)
theorem aFellN_ok {set : Nat} : ∀ (n : Nat) (f : Nat → Nat), n ≤ f 2 → aInv f → aInv (aFellN set n f) ∧ aFellN set n f 4 = f 4
  | 0, f, _, h => ⟨h, rfl⟩
  | n + 1, f, hn, h => by
    unfold aFellN
    have h2 := h.1.1.2.2.1
    by_cases q : aHas set n = true
    · rw [if_pos q]
      have := aFellN_ok (set := set) n (aTake f n) (by rw [aTake_2]; omega) (aTake_inv h (by omega))
      rw [aTake_e f h2 (k := 4) (by omega) (by omega)] at this
      exact this
    · rw [if_neg q]
      exact aFellN_ok n f (by omega) h
section G28
variable {d : Nat} {rs : gS} {M : gM} {Q : gQ} {f : Nat → Nat}
theorem m_has {n k : Nat} {sh : gS} (hn : n < 64) (hk : k < 6) : gcl (d + 1) 124 [.int (nI n), .int (nI k)] sh M Q = Q [.int (if aHas n k = true then nI 1 else nI 0)] sh M := by
  have e := nIbit n hn k hk
  have hlt : n / 2 ^ k % 2 < 2 := Nat.mod_lt _ (by decide)
  rw [e124]
  simp (disch := omega) only [u124_0, u124_1, u124_2, u124_3, u124_4, u124_5, u124_6, u124_9, u124_10, u124_13, u124_14, e, gfv_s, gfv_n, gop1_s, nI_add, pk_mul, nIcl, vinT, nIle, nIlt, nIeq, true_and, and_true, List.cons_append, List.nil_append, List.length_nil, List.length_cons, Nat.zero_le, Nat.reduceLeDiff, Nat.reduceAdd, Nat.reduceMul]
  by_cases h : n / 2 ^ k % 2 = 1
  · rw [if_pos (by unfold aHas; simpa using h)]
    exact propext ⟨fun q => (q.1 h).2, fun q => ⟨fun _ => ⟨Or.inr rfl, q⟩, fun z => absurd h z⟩⟩
  · rw [if_neg (by unfold aHas; simpa using h)]
    exact propext ⟨fun q => (q.2 h).2, fun q => ⟨fun z => absurd z h, fun _ => ⟨Or.inl rfl, q⟩⟩⟩
theorem m_fellSet {set : Nat} (hS : mS M f) (hf : aInv f) (h6 : f 2 ≤ 6) (hs : set < 64) (hQ : ∀ M', mS M' (aFell f set) → (∀ a, a ≠ 33 → M' a = M a) → Q [] (gSH ++ rs) M') : gcl (d + 2) 177 [.ref 29, .int (nI set)] (gSH ++ rs) M Q := by
  have loop : ∀ m M1 (g : Nat → Nat), mS M1 g → aInv g → m ≤ g 2 → m ≤ 6 → aFellN set m g = aFell f set → (∀ a, a ≠ 33 → M1 a = M a) → gR (gcl (d + 1)) (0, fun _ => 0) 177 9 [some (.ref 29), some (.int (nI set)), some (.int (nI m + (-1)))] [] (gSH ++ rs) M1 0 0 Q := by
    intro m
    induction m with
    | zero =>
      intro M1 g h1 hg hm hm6 he hM
      rw [u177_9]
      simp (disch := omega) only [u177_0, u177_1, u177_4, u177_5, u177_6, u177_7, u177_8, u177_10, u177_13, u177_14, u177_15, u177_18, u177_21, u177_22, u177_23, u177_26, u177_29, u177_32, gfv_s, gfv_n, gop1_s, nI_add, pk_mul, nIcl, vinT, nIle, nIlt, nIeq, true_and, and_true, List.cons_append, List.nil_append, List.length_nil, List.length_cons, Nat.zero_le, Nat.reduceLeDiff, Nat.reduceAdd, Nat.reduceMul]
      have e0 : (nI 0 + (-1) : Int32) < 0 := by decide
      refine ⟨fun _ => hQ M1 ?_ hM, fun q => absurd e0 q⟩
      have e : g = aFell f set := he
      rw [← e]
      exact h1
    | succ m ih =>
      intro M1 g h1 hg hm hm6 he hM
      have h2 := hg.1.1.2.2.1
      have nxt : ∀ M2 (g2 : Nat → Nat), mS M2 g2 → aInv g2 → m ≤ g2 2 → aFellN set m g2 = aFell f set → (∀ a, a ≠ 33 → M2 a = M a) → gR (gcl (d + 1)) (0, fun _ => 0) 177 26 [some (.ref 29), some (.int (nI set)), some (.int (nI m))] [] (gSH ++ rs) M2 0 0 Q := fun M2 g2 x1 x2 x3 x4 x5 => by
        simp (disch := omega) only [u177_0, u177_1, u177_4, u177_5, u177_6, u177_7, u177_8, u177_10, u177_13, u177_14, u177_15, u177_18, u177_21, u177_22, u177_23, u177_26, u177_29, u177_32]
        exact ih M2 g2 x1 x2 x3 (by omega) x4 x5
      rw [u177_9, pk_m1]
      simp (disch := omega) only [u177_0, u177_1, u177_4, u177_5, u177_6, u177_7, u177_8, u177_10, u177_13, u177_14, u177_15, u177_18, u177_21, u177_22, u177_23, u177_29, u177_32, kc29, ks29_0, ks29_1, ks29_2, ks29_3, ks29_4, ks29_5, ks29_6, ks29_7, ks29_8, ks29_9, ks29_10, ks29_11, ks29_12, ks29_13, ks29_14, ks29_15, ks29_16, ks29_17, ks29_18, ks29_19, ks29_20, ks29_21, ks29_22, ks29_23, ks29_24, kk33, kl33, m_has, nIz, gfv_s, gfv_n, gop1_s, nI_add, pk_mul, nIcl, vinT, nIle, nIlt, nIeq, true_and, and_true, List.cons_append, List.nil_append, List.length_nil, List.length_cons, Nat.zero_le, Nat.reduceLeDiff, Nat.reduceAdd, Nat.reduceMul]
      refine ⟨fun q => absurd q (by omega), fun _ => ?_⟩
      unfold aFellN at he
      by_cases q : aHas set m = true
      · rw [if_pos q, nIeq (by omega) (by omega)]
        rw [if_pos q] at he
        refine ⟨fun z => absurd z (by omega), fun _ => ?_⟩
        refine m_takeTree h1 h2 (by omega) (fun M2 x1 x2 => ?_)
        simp (disch := omega) only [u177_0, u177_1, u177_4, u177_5, u177_6, u177_7, u177_8, u177_10, u177_13, u177_14, u177_15, u177_18, u177_21, u177_22, u177_23, u177_29, u177_32, gfv_s, gfv_n, gop1_s, nI_add, pk_mul, nIcl, vinT, nIle, nIlt, nIeq, true_and, and_true, List.cons_append, List.nil_append, List.length_nil, List.length_cons, Nat.zero_le, Nat.reduceLeDiff, Nat.reduceAdd, Nat.reduceMul]
        exact nxt M2 _ x1 (aTake_inv hg (by omega)) (by rw [aTake_2]; omega) he (fun a ha => by rw [x2 a ha]; exact hM a ha)
      · rw [if_neg q, nIeq (by omega) (by omega)]
        rw [if_neg q] at he
        refine ⟨fun _ => nxt M1 g h1 hg (by omega) he hM, fun z => absurd rfl z⟩
  have hS' : ∀ k, k < 46 → M 33 k = nI (f k) := hS
  have e1 : nI (f 2) - nI 1 = nI (f 2) + (-1) := by rw [Int32.sub_eq_add_neg]; rfl
  rw [e177]
  simp (disch := omega) only [u177_0, u177_1, u177_4, u177_5, u177_6, u177_7, u177_8, u177_10, u177_13, u177_14, u177_15, u177_18, u177_21, u177_22, u177_23, u177_26, u177_29, u177_32, kc29, ks29_0, ks29_1, ks29_2, ks29_3, ks29_4, ks29_5, ks29_6, ks29_7, ks29_8, ks29_9, ks29_10, ks29_11, ks29_12, ks29_13, ks29_14, ks29_15, ks29_16, ks29_17, ks29_18, ks29_19, ks29_20, ks29_21, ks29_22, ks29_23, ks29_24, kk33, kl33, hS', e1, gfv_s, gfv_n, gop1_s, nI_add, pk_mul, nIcl, vinT, nIle, nIlt, nIeq, true_and, and_true, List.cons_append, List.nil_append, List.length_nil, List.length_cons, Nat.zero_le, Nat.reduceLeDiff, Nat.reduceAdd, Nat.reduceMul]
  exact loop (f 2) M f hS hf (Nat.le_refl _) h6 rfl (fun _ _ => rfl)
end G28
