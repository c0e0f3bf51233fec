/-! the class: years -/
def cH (r : Nat → Int32) (f : Nat → Nat) : Prop := cT r f ∧ cO r f
def aGrows : Nat → (Nat → Nat) → (Nat → Nat)
  | 0, f => f
  | n + 1, f => aGrows n (aGrow f)
theorem cO_c {r r' : Nat → Int32} {f g : Nat → Nat} (hO : cO r f) (h3 : f 3 ≤ 4) (he : ∀ k, k = 0 ∨ k = 2 ∨ 35 ≤ k → r' k = r k) (hg : ∀ k, k = 3 ∨ k = 4 ∨ 34 ≤ k → g k = f k) : cO r' g := by
  obtain ⟨o1, o2, o3⟩ := hO
  refine ⟨by rw [he 0 (by omega), hg 4 (by omega), o1], by rw [he 2 (by omega), hg 3 (by omega), o2], fun j hj => ?_⟩
  rw [hg 3 (by omega)] at hj
  rw [he _ (by omega), he (39 + j) (by omega), he (43 + j) (by omega), hg (34 + j) (by omega), hg (38 + j) (by omega), hg (42 + j) (by omega)]
  exact o3 j hj
section G34
variable {d : Nat} {sh : gS} {M : gM} {Q : gQ} {f : Nat → Nat} {h : Nat}
theorem c_passYear (hh : gHl sh h) (hH : cH (M (h + 1)) f) (hf : aInv f) (hy : f 4 ≤ 100000) (hQ : ∀ M', cH (M' (h + 1)) (aYear f) → (∀ a, a ≠ h + 1 → a ≠ h + 2 → a ≠ h + 3 → M' a = M a) → Q [.int (aMover f)] sh M') : gcl (d + 4) 43 [.ref h] sh M Q := by
  obtain ⟨k1, k2, k3, k4, ⟨k5, k6⟩, ⟨k7, k8⟩, -⟩ := id hh
  have hw := hf.1
  have h2 := hw.1.2.2.1
  have h3 := hw.1.2.2.2
  have hb : ∀ k, k < 46 → f k < 900000 := fun k hk => by have := hf.2 k hk; omega
  have hmw := aMv_wf hw hb
  have hm2 : aMv f 2 = f 2 := aMv_e h3 (by omega) (by omega)
  have hm3 : aMv f 3 = f 3 := aMv_e h3 (by omega) (by omega)
  have hm4 : aMv f 4 = f 4 := aMv_e h3 (by omega) (by omega)
  have grow : ∀ M1, cT (M1 (h + 1)) (aMv f) → cO (M1 (h + 1)) (aMv f) → (∀ a, a ≠ h + 1 → a ≠ h + 2 → M1 a = M a) → gR (gcl (d + 3)) (0, fun _ => 0) 43 33 [some (.ref h), some (.int (nI 12))] [.int (aMover f)] sh M1 0 0 Q := by
    intro M1 hT1 hO1 hM1
    simp (disch := first | omega | assumption) only [u43_0, u43_1, u43_3, u43_5, u43_8, u43_9, u43_12, u43_13, u43_14, u43_15, u43_18, u43_19, u43_22, u43_25, u43_26, u43_27, u43_30, u43_33, u43_34, u43_35, u43_38, u43_39, u43_42, u43_43, u43_44, u43_45, u43_46, u43_47, u43_48, u43_49, k1, gfv_s, gfv_n, gop1_s, nI_add, pk_mul, nIcl, vinT, nIle, nIlt, nIeq, true_and, and_true, List.cons_append, List.nil_append, List.length_nil, List.length_cons, Nat.zero_le, Nat.reduceLeDiff, Nat.reduceAdd, Nat.reduceMul]
    refine c_growTrees hh hT1 hmw (fun M2 hT2 hK2 hM2 => ?_)
    have e0 : M2 (h + 1) 0 = nI (f 4) := by rw [hK2 0 (by omega), hO1.1, hm4]
    simp (disch := first | omega | assumption) only [u43_0, u43_1, u43_3, u43_5, u43_8, u43_9, u43_12, u43_13, u43_14, u43_15, u43_18, u43_19, u43_22, u43_25, u43_26, u43_27, u43_30, u43_33, u43_34, u43_35, u43_38, u43_39, u43_42, u43_43, u43_44, u43_45, u43_46, u43_47, u43_48, u43_49, k1, k2, k5, k6, e0, gfv_s, gfv_n, gop1_s, nI_add, pk_mul, nIcl, vinT, nIle, nIlt, nIeq, true_and, and_true, List.cons_append, List.nil_append, List.length_nil, List.length_cons, Nat.zero_le, Nat.reduceLeDiff, Nat.reduceAdd, Nat.reduceMul]
    refine hQ _ ⟨?_, ?_⟩ (fun a q1 q2 q3 => ?_)
    · rw [gr_at]
      have hg2 : aGrow (aMv f) 2 = f 2 := by rw [aGrow_e _ (by omega) (by omega), hm2]
      have hT3 : cT (M2 (h + 1)) (aYear f) := cT_f hT2 (by omega) (fun k _ q4 _ => aUp_ne q4)
      refine ⟨by rw [upd_ne (by omega)]; exact hT3.1, fun s hs => by rw [upd_ne (by omega)]; exact hT3.2.1 s hs, fun t ht => ?_⟩
      rw [upd_ne (by omega), upd_ne (by omega), upd_ne (by omega), upd_ne (by omega)]
      exact hT3.2.2 t ht
    · rw [gr_at]
      have hO2 : cO (M2 (h + 1)) (aGrow (aMv f)) := cO_c hO1 (by omega) (fun k hk => hK2 k (by omega)) (fun k hk => aGrow_e _ (by omega) (by omega))
      obtain ⟨o1, o2, o3⟩ := hO2
      refine ⟨by rw [upd_at, aYear_4], by rw [upd_ne (by omega), o2]; exact congrArg nI (aUp_ne (by omega)).symm, fun j hj => ?_⟩
      have hj2 : j < aGrow (aMv f) 3 := by
        have : aYear f 3 = aGrow (aMv f) 3 := aUp_ne (by omega)
        omega
      have e1 : ∀ k, k ≠ 4 → aYear f k = aGrow (aMv f) k := fun k hk => aUp_ne hk
      rw [upd_ne (by omega), upd_ne (by omega), upd_ne (by omega), e1 _ (by omega), e1 _ (by omega), e1 _ (by omega)]
      exact o3 j hj2
    · rw [gr_ne q1, hM2 a q1 q3]
      exact hM1 a q1 q2
  have mid : ∀ M1, M1 (h + 1) = M (h + 1) → (∀ p, p < 12 → M1 (h + 2) p = nI (aLight f p)) → (∀ a, a ≠ h + 2 → M1 a = M a) → gR (gcl (d + 3)) (0, fun _ => 0) 43 25 [some (.ref h), some (.int (nI 12))] [] sh M1 0 0 Q := by
    intro M1 hE hL hM1
    simp (disch := first | omega | assumption) only [u43_0, u43_1, u43_3, u43_5, u43_8, u43_9, u43_12, u43_13, u43_14, u43_15, u43_18, u43_19, u43_22, u43_25, u43_26, u43_27, u43_30, u43_34, u43_35, u43_38, u43_39, u43_42, u43_43, u43_44, u43_45, u43_46, u43_47, u43_48, u43_49, k1, gfv_s, gfv_n, gop1_s, nI_add, pk_mul, nIcl, vinT, nIle, nIlt, nIeq, true_and, and_true, List.cons_append, List.nil_append, List.length_nil, List.length_cons, Nat.zero_le, Nat.reduceLeDiff, Nat.reduceAdd, Nat.reduceMul]
    refine c_shareLight hh (by rw [hE]; exact hH.2) hL hw hb (fun M2 hO2 hK2 hM2 => ?_)
    simp (disch := first | omega | assumption) only [u43_0, u43_1, u43_3, u43_5, u43_8, u43_9, u43_12, u43_13, u43_14, u43_15, u43_18, u43_19, u43_22, u43_25, u43_26, u43_27, u43_30, u43_34, u43_35, u43_38, u43_39, u43_42, u43_43, u43_44, u43_45, u43_46, u43_47, u43_48, u43_49, k1, gfv_s, gfv_n, gop1_s, nI_add, pk_mul, nIcl, vinT, nIle, nIlt, nIeq, true_and, and_true, List.cons_append, List.nil_append, List.length_nil, List.length_cons, Nat.zero_le, Nat.reduceLeDiff, Nat.reduceAdd, Nat.reduceMul]
    have hT2 : cT (M2 (h + 1)) f := cT_c hH.1 (fun k hk => by rw [hK2 k (by omega), hE]) h2
    have hT3 : cT (M2 (h + 1)) (aMv f) := cT_f hT2 h2 (fun k q1 _ q3 => aMv_e h3 q1 q3)
    by_cases q0 : f 3 = 0
    · rw [if_pos q0]
      refine c_moveOut_no hh ?_
      have := grow M2 hT3 ?_ (fun a q1 q2 => by rw [hM2 a q1, hM1 a q2])
      · unfold aMover at this
        rw [if_pos (Or.inl q0)] at this
        exact this
      · unfold aMv
        rw [if_pos (Or.inl q0)]
        exact hO2
    · rw [if_neg q0]
      have hww : aW f < f 3 := by
        have := aWho_lt f (f 3)
        unfold aW
        omega
      have hlw := aLit_wf hw hb (f 3) (Nat.le_refl _)
      have hlb : ∀ k, k < 46 → aLit f (f 3) k < 950000 := fun k hk => by
        have := hb k hk
        have := aLight_le f (f (34 + (k - 38)))
        unfold aLit
        split <;> omega
      refine c_moveOut (f := f) hh hO2 hlw (fun k hk => aLit_lo _ _ _ hk) (fun p hp => by rw [hM2 _ (by omega)]; exact hL p hp) hww hlb ?_
      have eB : aBest f (f (34 + aW f)) 12 = aB f := rfl
      rw [eB]
      by_cases q1 : aB f = f (34 + aW f)
      · rw [if_pos q1, if_pos q1]
        have := grow M2 hT3 ?_ (fun a q1 q2 => by rw [hM2 a q1, hM1 a q2])
        · unfold aMover at this
          rw [if_pos (Or.inr q1)] at this
          exact this
        · unfold aMv
          rw [if_pos (Or.inr q1)]
          exact hO2
      · rw [if_neg q1, if_neg q1]
        have hm : aMover f = nI (aW f) := by unfold aMover; rw [if_neg (by omega)]
        have hv : aMv f = aUp (aUp (aUp (aLit f (f 3)) (34 + aW f) (aB f)) (42 + aW f) (f (42 + aW f) + 1)) 5 (f 5 + 1) := by unfold aMv; rw [if_neg (by omega)]
        have e42 : aLit f (f 3) (42 + aW f) = f (42 + aW f) := by unfold aLit; rw [if_neg (by omega)]
        have := grow (gr M2 (h + 1) (upd (upd (M2 (h + 1)) (35 + aW f) (nI (aB f))) (43 + aW f) (nI (aLit f (f 3) (42 + aW f) + 1)))) ?_ ?_ (fun a q1 q2 => by rw [gr_ne q1, hM2 a q1, hM1 a q2])
        · rw [hm] at this
          exact this
        · rw [gr_at]
          exact cT_c hT3 (fun k hk => by rw [upd_ne (by omega), upd_ne (by omega)]) (by omega)
        · rw [gr_at, hv, e42]
          obtain ⟨o1, o2, o3⟩ := hO2
          have el : aLit f (f 3) 3 = f 3 := aLit_lo _ _ _ (by omega)
          refine ⟨?_, ?_, fun j hj => ?_⟩
          · rw [upd_ne (by omega), upd_ne (by omega), o1, aUp_ne (by omega), aUp_ne (by omega), aUp_ne (by omega)]
          · rw [upd_ne (by omega), upd_ne (by omega), o2, aUp_ne (by omega), aUp_ne (by omega), aUp_ne (by omega)]
          · rw [aUp_ne (by omega), aUp_ne (by omega), aUp_ne (by omega)] at hj
            obtain ⟨c1, c2, c3⟩ := o3 j hj
            refine ⟨?_, ?_, ?_⟩
            · by_cases q : j = aW f
              · subst q
                rw [upd_ne (by omega), upd_at, aUp_ne (by omega), aUp_ne (by omega), aUp_at]
              · rw [upd_ne (by omega), upd_ne (by omega), c1, aUp_ne (by omega), aUp_ne (by omega), aUp_ne (by omega)]
            · rw [upd_ne (by omega), upd_ne (by omega), c2, aUp_ne (by omega), aUp_ne (by omega), aUp_ne (by omega)]
            · by_cases q : j = aW f
              · subst q
                rw [upd_at, aUp_ne (by omega), aUp_at]
              · rw [upd_ne (by omega), upd_ne (by omega), c3, aUp_ne (by omega), aUp_ne (by omega), aUp_ne (by omega)]
  have loop : ∀ n t M1, t + n = 12 → M1 (h + 1) = M (h + 1) → (∀ p, p < t → M1 (h + 2) p = nI (aLight f p)) → (∀ a, a ≠ h + 2 → M1 a = M a) → gR (gcl (d + 3)) (0, fun _ => 0) 43 2 [some (.ref h), some (.int (nI t))] [] sh M1 0 0 Q := by
    intro n
    induction n with
    | zero =>
      intro t M1 ht hE hL hM1
      obtain rfl : t = 12 := by omega
      rw [u43_2]
      simp (disch := first | omega | assumption) only [u43_0, u43_1, u43_3, u43_5, u43_8, u43_9, u43_12, u43_13, u43_14, u43_15, u43_18, u43_19, u43_22, u43_26, u43_27, u43_30, u43_33, u43_34, u43_35, u43_38, u43_39, u43_42, u43_43, u43_44, u43_45, u43_46, u43_47, u43_48, u43_49, gfv_s, gfv_n, gop1_s, nI_add, pk_mul, nIcl, vinT, nIle, nIlt, nIeq, true_and, and_true, List.cons_append, List.nil_append, List.length_nil, List.length_cons, Nat.zero_le, Nat.reduceLeDiff, Nat.reduceAdd, Nat.reduceMul]
      exact ⟨fun _ => mid M1 hE hL hM1, fun q => (q (by simp)).elim⟩
    | succ n ih =>
      intro t M1 ht hE hL hM1
      rw [u43_2]
      simp (disch := first | omega | assumption) only [u43_0, u43_1, u43_3, u43_5, u43_8, u43_9, u43_12, u43_13, u43_14, u43_15, u43_18, u43_19, u43_22, u43_26, u43_27, u43_30, u43_33, u43_34, u43_35, u43_38, u43_39, u43_42, u43_43, u43_44, u43_45, u43_46, u43_47, u43_48, u43_49, k1, k3, gfv_s, gfv_n, gop1_s, nI_add, pk_mul, nIcl, vinT, nIle, nIlt, nIeq, true_and, and_true, List.cons_append, List.nil_append, List.length_nil, List.length_cons, Nat.zero_le, Nat.reduceLeDiff, Nat.reduceAdd, Nat.reduceMul]
      refine ⟨fun q => absurd q (by omega), fun _ => ?_⟩
      refine c_lightAt hh (by rw [hE]; exact hH.1) hw (by omega) ?_
      simp (disch := first | omega | assumption) only [u43_0, u43_1, u43_3, u43_5, u43_8, u43_9, u43_12, u43_13, u43_14, u43_15, u43_18, u43_19, u43_22, u43_26, u43_27, u43_30, u43_33, u43_34, u43_35, u43_38, u43_39, u43_42, u43_43, u43_44, u43_45, u43_46, u43_47, u43_48, u43_49, k7, k8, gfv_s, gfv_n, gop1_s, nI_add, pk_mul, nIcl, vinT, nIle, nIlt, nIeq, true_and, and_true, List.cons_append, List.nil_append, List.length_nil, List.length_cons, Nat.zero_le, Nat.reduceLeDiff, Nat.reduceAdd, Nat.reduceMul]
      refine ih (t + 1) _ (by omega) (by rw [gr_ne (by omega)]; exact hE) (fun p hp => ?_) (fun a ha => by rw [gr_ne ha]; exact hM1 a ha)
      rw [gr_at]
      by_cases q : p = t
      · rw [q, upd_at]
      · rw [upd_ne q]
        exact hL p (by omega)
  rw [e43]
  simp only [u43_0, u43_1, u43_3, u43_5, u43_8, u43_9, u43_12, u43_13, u43_14, u43_15, u43_18, u43_19, u43_22, u43_25, u43_26, u43_27, u43_30, u43_33, u43_34, u43_35, u43_38, u43_39, u43_42, u43_43, u43_44, u43_45, u43_46, u43_47, u43_48, u43_49]
  exact loop 12 0 M (by omega) rfl (fun p hp => absurd hp (by omega)) (fun _ _ => rfl)
end G34
