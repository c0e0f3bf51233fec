/-! the reference: a year, whole -/
def aInv (f : Nat → Nat) : Prop := aWf f ∧ ∀ k, k < 46 → f k ≤ 100 + 4 * f 4
theorem aLit_lo (f : Nat → Nat) (n k : Nat) (hk : k < 38) : aLit f n k = f k := by unfold aLit; rw [if_neg (by omega)]
/-- what a move leaves -/
theorem aMv_e {f : Nat → Nat} (h3 : f 3 ≤ 4) {k : Nat} (hk : k < 34) (h5 : k ≠ 5) : aMv f k = f k := by
  have hw := aWho_lt f (f 3)
  unfold aMv
  split
  · exact aLit_lo f _ k (by omega)
  · unfold aUp
    unfold aW
    rw [if_neg h5, if_neg (by omega), if_neg (by omega)]
    exact aLit_lo f _ k (by omega)
theorem aMv_b {f : Nat → Nat} (h3 : f 3 ≤ 4) (hh : ∀ h, h < f 3 → f (34 + h) ≤ 11) {k B : Nat} (hB : f k ≤ B) (h11 : 11 ≤ B) : aMv f k ≤ B + 4 := by
  have hl : aLit f (f 3) k ≤ B + 4 := by
    unfold aLit
    have := aLight_le f (f (34 + (k - 38)))
    split <;> omega
  unfold aMv
  split
  · exact hl
  · rename_i hn
    have hw := aWho_lt f (f 3)
    have hb : aB f ≤ 11 := aBest_le (hh (aW f) (by unfold aW; omega)) 12 (Nat.le_refl _)
    unfold aUp
    split
    · rename_i q; subst q; omega
    · split
      · rename_i q; subst q; omega
      · split
        · omega
        · exact hl
theorem aMv_h {f : Nat → Nat} (h3 : f 3 ≤ 4) (hh : ∀ h, h < f 3 → f (34 + h) ≤ 11) {h : Nat} (hk : h < f 3) : aMv f (34 + h) ≤ 11 := by
  have hw := aWho_lt f (f 3)
  unfold aMv
  split
  · rw [aLit_lo f _ _ (by omega)]; exact hh h hk
  · have hb : aB f ≤ 11 := aBest_le (hh (aW f) (by unfold aW; omega)) 12 (Nat.le_refl _)
    unfold aUp
    rw [if_neg (by omega), if_neg (by unfold aW; omega)]
    split
    · exact hb
    · rw [aLit_lo f _ _ (by omega)]; exact hh h hk
theorem aMv_wf {f : Nat → Nat} (hf : aWf f) (hb : ∀ k, k < 46 → f k < 900000) : aWf (aMv f) := by
  obtain ⟨⟨a0, a1, a2, a3⟩, h1, h2, h3⟩ := hf
  have e : ∀ k, k < 34 → k ≠ 5 → aMv f k = f k := fun k hk h5 => aMv_e a3 hk h5
  refine ⟨⟨by rw [e 0 (by omega) (by omega)]; exact a0, by rw [e 1 (by omega) (by omega)]; exact a1, by rw [e 2 (by omega) (by omega)]; exact a2, by rw [e 3 (by omega) (by omega)]; exact a3⟩, fun t ht => ?_, fun h hh => ?_, fun k hk => ?_⟩
  · rw [e 2 (by omega) (by omega)] at ht
    rw [e (6 + t) (by omega) (by omega), e (13 + t) (by omega) (by omega), e (20 + t) (by omega) (by omega)]
    exact h1 t ht
  · rw [e 3 (by omega) (by omega)] at hh
    exact aMv_h a3 h2 hh
  · have := aMv_b (B := 900000) a3 h2 (Nat.le_of_lt (hb k hk)) (by omega)
    omega
theorem aGrow_e (f : Nat → Nat) (h2 : f 2 ≤ 7) {k : Nat} (hk : k < 20 ∨ 34 ≤ k) : aGrow f k = f k := by
  unfold aGrow aGrowN
  rw [if_neg (by omega), if_neg (by omega)]
theorem aHi_le {f : Nat → Nat} {t : Nat} (h : f (20 + t) ≤ 60) : aHi f t ≤ 60 := by
  have := aBd_le f t
  unfold aHi
  split
  · exact h
  · split <;> omega
theorem aGrow_wf {f : Nat → Nat} (hf : aWf f) (hb : ∀ k, k < 46 → f k < 950000) : aWf (aGrow f) := by
  obtain ⟨⟨a0, a1, a2, a3⟩, h1, h2, h3⟩ := hf
  have e : ∀ k, (k < 20 ∨ 34 ≤ k) → aGrow f k = f k := fun k hk => aGrow_e f a2 hk
  refine ⟨⟨by rw [e 0 (by omega)]; exact a0, by rw [e 1 (by omega)]; exact a1, by rw [e 2 (by omega)]; exact a2, by rw [e 3 (by omega)]; exact a3⟩, fun t ht => ?_, fun h hh => ?_, fun k hk => ?_⟩
  · rw [e 2 (by omega)] at ht
    obtain ⟨b1, b2, b3, b4⟩ := h1 t ht
    rw [e (6 + t) (by omega), e (13 + t) (by omega)]
    refine ⟨b1, b2, b3, ?_⟩
    unfold aGrow aGrowN
    rw [if_pos (by omega), Nat.add_sub_cancel_left]
    exact aHi_le b4
  · rw [e 3 (by omega)] at hh
    rw [e (34 + h) (by omega)]
    exact h2 h hh
  · unfold aGrow aGrowN
    have := hb k hk
    split
    · rename_i q
      have := aHi_le (h1 (k - 20) (by omega)).2.2.2
      omega
    · split <;> omega
theorem aUp_ne {f : Nat → Nat} {k v j : Nat} (h : j ≠ k) : aUp f k v j = f j := by unfold aUp; rw [if_neg h]
theorem aUp_at {f : Nat → Nat} {k v : Nat} : aUp f k v k = v := by unfold aUp; rw [if_pos rfl]
theorem aYear_4 (f : Nat → Nat) : aYear f 4 = f 4 + 1 := aUp_at
theorem aYear_inv {f : Nat → Nat} (hf : aInv f) (hy : f 4 ≤ 100000) : aInv (aYear f) := by
  have hb : ∀ k, k < 46 → f k < 900000 := fun k hk => by have := hf.2 k hk; omega
  have hm := aMv_wf hf.1 hb
  have h3 := hf.1.1.2.2.2
  have hmb : ∀ k, k < 46 → aMv f k ≤ 100 + 4 * f 4 + 4 := fun k hk => aMv_b h3 hf.1.2.2.1 (hf.2 k hk) (by omega)
  obtain ⟨⟨a0, a1, a2, a3⟩, h1, h2, h4⟩ := aGrow_wf hm (fun k hk => by have := hmb k hk; omega)
  refine ⟨⟨⟨a0, a1, a2, a3⟩, fun t ht => ?_, fun h hh => ?_, fun k hk => ?_⟩, fun k hk => ?_⟩
  · have ht' : t < aGrow (aMv f) 2 := ht
    unfold aYear
    rw [aUp_ne (by omega), aUp_ne (by omega), aUp_ne (by omega)]
    exact h1 t ht'
  · have hh' : h < aGrow (aMv f) 3 := hh
    unfold aYear
    rw [aUp_ne (by omega)]
    exact h2 h hh'
  · by_cases h9 : k = 4
    · rw [h9, aYear_4]; omega
    · unfold aYear
      rw [aUp_ne h9]
      exact h4 k hk
  · rw [aYear_4]
    by_cases h9 : k = 4
    · rw [h9, aYear_4]; omega
    · unfold aYear
      rw [aUp_ne h9]
      have hk9 := hmb k hk
      unfold aGrow aGrowN
      have e2 := aMv_e (f := f) h3 (k := 2) (by omega) (by omega)
      split
      · have := aHi_le (hm.2.1 (k - 20) (by omega)).2.2.2
        omega
      · split
        · have e9 := aMv_e (f := f) h3 (k := k) (by have := hm.1.2.2.1; omega) (by omega)
          have := hf.2 k hk
          omega
        · omega
section G26
variable {d : Nat} {rs : gS} {M : gM} {Q : gQ} {f : Nat → Nat}
theorem m_oneYear (hS : ∀ k, k < 46 → M 33 k = nI (f k)) (hf : aInv f) (hy : f 4 ≤ 100000) (hQ : ∀ M', (∀ k, k < 46 → M' 33 k = nI (aYear f k)) → M' 29 16 = aMover f → (∀ k, k ≠ 16 → M' 29 k = M 29 k) → (∀ a, a ≠ 33 → a ≠ 29 → a ≠ 37 → M' a = M a) → Q [] (gSH ++ rs) M') : gcl (d + 5) 156 [.ref 29] (gSH ++ rs) M Q := by
  have hb : ∀ k, k < 46 → f k < 900000 := fun k hk => by have := hf.2 k hk; omega
  have hm := aMv_wf hf.1 hb
  rw [e156]
  simp (disch := omega) only [u156_0, u156_1, u156_4, u156_5, u156_8, u156_9, u156_12, u156_13, u156_14, u156_15, u156_16, u156_17, u156_18, kc29, ks29_0, ks29_1, ks29_2, ks29_3, ks29_4, ks29_5, ks29_6, ks29_7, ks29_8, ks29_9, ks29_10, ks29_11, ks29_12, ks29_13, ks29_14, ks29_15, ks29_16, ks29_17, ks29_18, ks29_19, ks29_20, ks29_21, ks29_22, ks29_23, ks29_24, kk33, kl33, gfv_s, gfv_n, gop1_s, nI_add, pk_mul, nIcl, vinT, nIle, nIlt, nIeq, true_and, and_true, List.cons_append, List.nil_append, List.length_nil, List.length_cons, Nat.zero_le, Nat.reduceLeDiff, Nat.reduceAdd, Nat.reduceMul]
  refine m_moveOne hS hf.1 hb (fun M1 h33 h16 h29 hM => ?_)
  simp (disch := omega) only [u156_0, u156_1, u156_4, u156_5, u156_8, u156_9, u156_12, u156_13, u156_14, u156_15, u156_16, u156_17, u156_18, kc29, ks29_0, ks29_1, ks29_2, ks29_3, ks29_4, ks29_5, ks29_6, ks29_7, ks29_8, ks29_9, ks29_10, ks29_11, ks29_12, ks29_13, ks29_14, ks29_15, ks29_16, ks29_17, ks29_18, ks29_19, ks29_20, ks29_21, ks29_22, ks29_23, ks29_24, kk33, kl33, gfv_s, gfv_n, gop1_s, nI_add, pk_mul, nIcl, vinT, nIle, nIlt, nIeq, true_and, and_true, List.cons_append, List.nil_append, List.length_nil, List.length_cons, Nat.zero_le, Nat.reduceLeDiff, Nat.reduceAdd, Nat.reduceMul]
  refine m_growAll h33 hm (fun M2 g33 gM2 => ?_)
  have e4 : aGrow (aMv f) 4 = f 4 := by rw [aGrow_e _ hm.1.2.2.1 (by omega), aMv_e hf.1.1.2.2.2 (by omega) (by omega)]
  simp (disch := omega) only [u156_0, u156_1, u156_4, u156_5, u156_8, u156_9, u156_12, u156_13, u156_14, u156_15, u156_16, u156_17, u156_18, kc29, ks29_0, ks29_1, ks29_2, ks29_3, ks29_4, ks29_5, ks29_6, ks29_7, ks29_8, ks29_9, ks29_10, ks29_11, ks29_12, ks29_13, ks29_14, ks29_15, ks29_16, ks29_17, ks29_18, ks29_19, ks29_20, ks29_21, ks29_22, ks29_23, ks29_24, kk33, kl33, g33, e4, gfv_s, gfv_n, gop1_s, nI_add, pk_mul, nIcl, vinT, nIle, nIlt, nIeq, true_and, and_true, List.cons_append, List.nil_append, List.length_nil, List.length_cons, Nat.zero_le, Nat.reduceLeDiff, Nat.reduceAdd, Nat.reduceMul]
  refine hQ _ (fun k hk => ?_) ?_ (fun k hk => ?_) (fun a h1 h2 h3 => ?_)
  · rw [gr_at]
    unfold upd aYear aUp
    by_cases h : k = 4
    · rw [if_pos h, if_pos h]
    · rw [if_neg h, if_neg h]
      exact g33 k hk
  · rw [gr_ne (by decide), gM2 29 (by decide) (by decide)]
    exact h16
  · rw [gr_ne (by decide), gM2 29 (by decide) (by decide)]
    exact h29 k hk
  · rw [gr_ne h1, gM2 a h1 h3]
    exact hM a h1 h2
end G26
