/-! what the acts make of a hill that can be -/
theorem kC_c {M M' : gM} {a n : Nat} {G : Nat → Nat → Nat} (h : kC M a n G) (e23 : M' 23 = M 23) (e24 : M' 24 = M 24) : kC M' a n G := by
  unfold kC at h ⊢
  rw [e23, e24]
  exact h
theorem kM_c {M M' : gM} {n : Nat} {G : Nat → Nat → Nat} (h : kM M n G) (e19 : M' 29 19 = M 29 19) (e38 : M' 38 = M 38) : kM M' n G := by
  unfold kM at h ⊢
  rw [e19, e38]
  exact h
theorem mS_c {M M' : gM} {f : Nat → Nat} (h : mS M f) (e : M' 33 = M 33) : mS M' f := by
  unfold mS at h ⊢
  rw [e]
  exact h
theorem gHi_mk {M : gM} {f : Nat → Nat} (hS : mS M f) (hH : cH (M 16) f) (hf : hOK f) (h0 : M 0 8 = nI 1) (h29 : M 29 4 = nI 1) : gHi M f :=
  ⟨hS, hH.2, hH.1.1, hf, by rw [h29, h0], Or.inr ⟨h0, hH.1⟩⟩
theorem gI_hill {M M' : gM} {f' : Nat → Nat} {a' n' : Nat} {G' : Nat → Nat → Nat} (hI : gI M) (hH : gHi M' f') (hA : gAc M' a' n' G') (e : ∀ a, (3 ≤ a ∧ a ≤ 14) ∨ (25 ≤ a ∧ a ≤ 28) ∨ (30 ≤ a ∧ a ≤ 32) ∨ a = 35 ∨ (40 ≤ a ∧ a ≤ 42) → M' a = M a) (e0 : ∀ k, k ≠ 8 → M' 0 k = M 0 k) (e08 : M' 0 8 = M 0 8 ∨ M' 0 8 = nI 1) (e29 : ∀ k, k = 3 ∨ k = 8 ∨ k = 9 ∨ k = 24 → M' 29 k = M 29 k) : gI M' := by
  obtain ⟨⟨b1, ⟨n, b, b2⟩, -, -, b5, ⟨u, b6⟩, b7⟩, b8⟩ := hI
  exact ⟨⟨fun r hr => gRw_c (b1 r hr) hr (fun c hc => e c (by omega)), ⟨n, b, gTp_c b2 (by rw [e 13 (by omega)]) (e 14 (by omega)) (e 35 (by omega)) (e29 8 (by omega))⟩, ⟨f', hH⟩, ⟨a', n', G', hA⟩, fun k hk => gIm_c (b5 k hk) (e 25 (by omega)) (e 26 (by omega)) (e 40 (by omega)) (e 41 (by omega)) e08, ⟨u, gAk_c b6 (by rw [e 27 (by omega)]) (e 28 (by omega)) (e 42 (by omega)) (e29 24 (by omega))⟩, by rw [e0 9 (by omega), e29 9 (by omega)]; exact b7⟩, by rw [e0 10 (by omega), e29 3 (by omega)]; exact b8⟩
theorem aMoves_c {f g : Nat → Nat} (h : aMoves f) (e3 : g 3 = f 3) (e5 : g 5 = f 5) (e : ∀ j, j < f 3 → g (42 + j) = f (42 + j)) : aMoves g := by
  unfold aMoves at h ⊢
  rw [e3, e5, h]
  exact aSum_c (fun t ht => (e t ht).symm)
theorem hOK_take {f : Nat → Nat} {t : Nat} (h : hOK f) (ht : t < f 2) : hOK (aTake f t) := by
  obtain ⟨h1, h2, h3, h4⟩ := h
  have h7 := h1.1.1.2.2.1
  refine ⟨aTake_inv h1 ht, by rw [aTake_2]; omega, by rw [aTake_e f h7 (by omega) (by omega)]; exact h3, aMoves_c h4 (aTake_e f h7 (by omega) (by omega)) (aTake_e f h7 (by omega) (by omega)) (fun j _ => aTake_e f h7 (by omega) (by omega))⟩
theorem aPlant_e {f : Nat → Nat} {s p hi ag k : Nat} (h6 : f 2 ≤ 6) (h : k ≠ 2) (hk : k < 6 ∨ 34 ≤ k) : aPlant f s p hi ag k = f k := by
  unfold aPlant
  rw [aUp_ne h, aUp_ne (by omega), aUp_ne (by omega), aUp_ne (by omega), aUp_ne (by omega)]
theorem aPlant_2 {f : Nat → Nat} {s p hi ag : Nat} : aPlant f s p hi ag 2 = f 2 + 1 := aUp_at
theorem aPlant_b {f : Nat → Nat} {s p hi ag k B : Nat} (hf : f k ≤ B) (h2 : f 2 + 1 ≤ B) (hs : s ≤ B) (hp : p ≤ B) (hh : hi ≤ B) (ha : ag ≤ B) : aPlant f s p hi ag k ≤ B := by
  unfold aPlant aUp
  (repeat' split) <;> omega
theorem aPlant_inv {f : Nat → Nat} {s p hi ag : Nat} (h : aInv f) (h6 : f 2 ≤ 6) (hs : 1 ≤ s ∧ s ≤ 5) (hp : p ≤ 11) (hh : hi ≤ 60) (ha : ag ≤ 100) : aInv (aPlant f s p hi ag) := by
  obtain ⟨⟨⟨a0, a1, a2, a3⟩, h1, h2, h3⟩, h4⟩ := h
  have e : ∀ k, k ≠ 2 → k < 6 ∨ 34 ≤ k → aPlant f s p hi ag k = f k := fun k q1 q2 => aPlant_e h6 q1 q2
  have hb : ∀ k, k < 46 → aPlant f s p hi ag k ≤ 100 + 4 * f 4 := fun k hk => aPlant_b (h4 k hk) (by omega) (by omega) (by omega) (by omega) (by omega)
  refine ⟨⟨⟨by rw [e 0 (by omega) (by omega)]; exact a0, by rw [e 1 (by omega) (by omega)]; exact a1, by rw [aPlant_2]; omega, by rw [e 3 (by omega) (by omega)]; exact a3⟩, fun t ht => ?_, fun j hj => ?_, fun k hk => ?_⟩, fun k hk => ?_⟩
  · rw [aPlant_2] at ht
    unfold aPlant aUp
    by_cases q : t = f 2
    · subst q
      refine ⟨?_, ?_, ?_, ?_⟩ <;> (repeat' split) <;> omega
    · have := h1 t (by omega)
      refine ⟨?_, ?_, ?_, ?_⟩ <;> (repeat' split) <;> omega
  · rw [e 3 (by omega) (by omega)] at hj
    rw [e (34 + j) (by omega) (by omega)]
    exact h2 j hj
  · have := h3 k hk
    unfold aPlant aUp
    (repeat' split) <;> omega
  · rw [e 4 (by omega) (by omega)]
    exact hb k hk
theorem hOK_plant {f : Nat → Nat} {s p : Nat} (h : hOK f) (h5 : f 2 ≤ 5) (hs : 1 ≤ s ∧ s ≤ 5) (hp : p ≤ 11) : hOK (aPlant f s p 0 0) := by
  obtain ⟨h1, h2, h3, h4⟩ := h
  refine ⟨aPlant_inv h1 h2 hs hp (by omega) (by omega), by rw [aPlant_2]; omega, by rw [aPlant_e h2 (by omega) (by omega)]; exact h3, aMoves_c h4 (aPlant_e h2 (by omega) (by omega)) (aPlant_e h2 (by omega) (by omega)) (fun j _ => aPlant_e h2 (by omega) (by omega))⟩
theorem aUp_inv {f : Nat → Nat} {w p : Nat} (h : aInv f) (hw : w < 4) (hp : p ≤ 11) : aInv (aUp f (34 + w) p) := by
  obtain ⟨⟨⟨a0, a1, a2, a3⟩, h1, h2, h3⟩, h4⟩ := h
  refine ⟨⟨⟨by rw [aUp_ne (by omega)]; exact a0, by rw [aUp_ne (by omega)]; exact a1, by rw [aUp_ne (by omega)]; exact a2, by rw [aUp_ne (by omega)]; exact a3⟩, fun t ht => ?_, fun j hj => ?_, fun k hk => ?_⟩, fun k hk => ?_⟩
  · rw [aUp_ne (by omega)] at ht
    rw [aUp_ne (by omega), aUp_ne (by omega), aUp_ne (by omega)]
    exact h1 t ht
  · rw [aUp_ne (by omega)] at hj
    unfold aUp
    split
    · exact hp
    · exact h2 j hj
  · have := h3 k hk
    unfold aUp
    split <;> omega
  · have := h4 k hk
    rw [aUp_ne (show 4 ≠ 34 + w by omega)]
    unfold aUp
    split <;> omega
theorem hOK_carry {f : Nat → Nat} {w p : Nat} (h : hOK f) (hw : w < 4) (hp : p ≤ 11) : hOK (aUp f (34 + w) p) := by
  obtain ⟨h1, h2, h3, h4⟩ := h
  exact ⟨aUp_inv h1 hw hp, by rw [aUp_ne (by omega)]; exact h2, by rw [aUp_ne (by omega)]; exact h3, aMoves_c h4 (aUp_ne (by omega)) (aUp_ne (by omega)) (fun j _ => aUp_ne (by omega))⟩
theorem hOK_year {f : Nat → Nat} (h : hOK f) (h9 : f 4 < 999) : hOK (aYear f) := by
  obtain ⟨h1, h2, h3, h4⟩ := h
  have h7 := h1.1.1.2.2.1
  have h8 := h1.1.1.2.2.2
  exact ⟨aYear_inv h1 (by omega), by rw [aYear_e h7 h8 (by omega) (by omega) (by omega)]; exact h2, by rw [aYear_4]; omega, aYear_moves h7 h8 h4⟩
theorem aFind_ix (g : Nat → Nat) (p : Nat) : ∀ n t, aFind g p n t = -1000000 ∨ ∃ j, j < t + n ∧ aFind g p n t = nI j
  | 0, _ => Or.inl rfl
  | n + 1, t => by
    unfold aFind
    by_cases h : g t = p
    · rw [if_pos h]; exact Or.inr ⟨t, by omega, rfl⟩
    · rw [if_neg h]
      rcases aFind_ix g p n (t + 1) with q | ⟨j, q1, q2⟩
      · exact Or.inl q
      · exact Or.inr ⟨j, by omega, q2⟩
theorem noneLt : ((-1000000 : Int32) < 0) = True := eq_true (by decide)
theorem noneGe : (0 ≤ (-1000000 : Int32)) = False := eq_false (by decide)
