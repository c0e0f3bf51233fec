/-! the class: sets of trees felled, trees and houses added, copies, the sun -/
theorem cH_c {r r' : Nat → Int32} {f : Nat → Nat} (h2 : f 2 ≤ 7) (h3 : f 3 ≤ 4) (hH : cH r f) (he : ∀ k, k < 47 → r' k = r k) : cH r' f := by
  refine ⟨cT_c hH.1 (fun k hk => he k (by omega)) h2, ?_⟩
  obtain ⟨o1, o2, o3⟩ := hH.2
  refine ⟨by rw [he 0 (by omega), o1], by rw [he 2 (by omega), o2], fun j hj => ?_⟩
  rw [he _ (by omega), he _ (by omega), he _ (by omega)]
  exact o3 j hj
theorem aHas_b (n k : Nat) : (n / 2 ^ k % 2 = 0) = (¬ aHas n k = true) := by
  unfold aHas
  simp
def aPlant (f : Nat → Nat) (sort p hi ag : Nat) : Nat → Nat := aUp (aUp (aUp (aUp (aUp f (6 + f 2) sort) (13 + f 2) p) (20 + f 2) hi) (27 + f 2) ag) 2 (f 2 + 1)
def aSet (f : Nat → Nat) (p : Nat) : Nat → Nat := aUp (aUp (aUp (aUp f (34 + f 3) p) (38 + f 3) 0) (42 + f 3) 0) 3 (f 3 + 1)
section G36
variable {d : Nat} {sh : gS} {M : gM} {Q : gQ} {f : Nat → Nat} {h : Nat}
theorem c_removeTrees {set : Nat} (hh : gHl sh h) (hT : cT (M (h + 1)) f) (h7 : f 2 ≤ 7) (hs : set < 64) (hQ : ∀ M', cT (M' (h + 1)) (aFell f set) → (∀ k, k ≠ 1 → k < 7 ∨ 35 ≤ k → M' (h + 1) k = M (h + 1) k) → (∀ a, a ≠ h + 1 → M' a = M a) → Q [] sh M') : gcl (d + 3) 32 [.ref h, .int (nI set)] sh M Q := by
  obtain ⟨k1, -⟩ := id hh
  have loop : ∀ m M1 (g : Nat → Nat), cT (M1 (h + 1)) g → g 2 ≤ 7 → m ≤ g 2 → aFellN set m g = aFell f set → (∀ k, k ≠ 1 → k < 7 ∨ 35 ≤ k → M1 (h + 1) k = M (h + 1) k) → (∀ a, a ≠ h + 1 → M1 a = M a) → gR (gcl (d + 2)) (0, fun _ => 0) 32 7 [some (.ref h), some (.int (nI set)), some (.int (nI m + (-1)))] [] sh M1 0 0 Q := by
    intro m
    induction m with
    | zero =>
      intro M1 g h1 hg hm he hK hM
      rw [u32_7]
      simp (disch := omega) only [u32_0, u32_1, u32_4, u32_5, u32_6, u32_8, u32_11, u32_12, u32_13, u32_14, u32_15, u32_16, u32_19, u32_20, u32_21, u32_24, u32_27, u32_30, gfv_s, gfv_n, gop1_s, nI_add, pk_mul, nIcl, vinT, nIle, nIlt, nIeq, true_and, and_true, List.cons_append, List.nil_append, List.length_nil, List.length_cons, Nat.zero_le, Nat.reduceLeDiff, Nat.reduceAdd, Nat.reduceMul]
      have e0 : (nI 0 + (-1) : Int32) < 0 := by decide
      refine ⟨fun _ => hQ M1 ?_ hK hM, fun q => absurd e0 q⟩
      have e : g = aFell f set := he
      rw [← e]
      exact h1
    | succ m ih =>
      intro M1 g h1 hg hm he hK hM
      have nxt : ∀ M2 (g2 : Nat → Nat), cT (M2 (h + 1)) g2 → g2 2 ≤ 7 → m ≤ g2 2 → aFellN set m g2 = aFell f set → (∀ k, k ≠ 1 → k < 7 ∨ 35 ≤ k → M2 (h + 1) k = M (h + 1) k) → (∀ a, a ≠ h + 1 → M2 a = M a) → gR (gcl (d + 2)) (0, fun _ => 0) 32 24 [some (.ref h), some (.int (nI set)), some (.int (nI m))] [] sh M2 0 0 Q := fun M2 g2 x1 x2 x3 x4 x5 x6 => by
        simp (disch := omega) only [u32_0, u32_1, u32_4, u32_5, u32_6, u32_8, u32_11, u32_12, u32_13, u32_14, u32_15, u32_16, u32_19, u32_20, u32_21, u32_24, u32_27, u32_30]
        exact ih M2 g2 x1 x2 x3 x4 x5 x6
      have e := nIbit2 (n := set) (k := m) (by omega) (by omega)
      have hm2 : set / 2 ^ m % 2 < 2 := Nat.mod_lt _ (by omega)
      rw [u32_7, pk_m1]
      simp (disch := omega) only [u32_0, u32_1, u32_4, u32_5, u32_6, u32_8, u32_11, u32_12, u32_13, u32_14, u32_15, u32_16, u32_19, u32_20, u32_21, u32_27, u32_30, k1, e, nIz, gfv_s, gfv_n, gop1_s, nI_add, pk_mul, nIcl, vinT, nIle, nIlt, nIeq, true_and, and_true, List.cons_append, List.nil_append, List.length_nil, List.length_cons, Nat.zero_le, Nat.reduceLeDiff, Nat.reduceAdd, Nat.reduceMul]
      refine ⟨fun q => absurd q (by omega), fun _ => ?_⟩
      unfold aFellN at he
      rw [aHas_b]
      by_cases q : aHas set m = true
      · rw [if_pos q] at he
        refine ⟨fun z => absurd q z, fun _ => ?_⟩
        refine c_removeTree hh h1 hg (by omega) (fun M2 x1 x2 x3 => ?_)
        simp (disch := omega) only [u32_0, u32_1, u32_4, u32_5, u32_6, u32_8, u32_11, u32_12, u32_13, u32_14, u32_15, u32_16, u32_19, u32_20, u32_21, u32_27, u32_30, gfv_s, gfv_n, gop1_s, nI_add, pk_mul, nIcl, vinT, nIle, nIlt, nIeq, true_and, and_true, List.cons_append, List.nil_append, List.length_nil, List.length_cons, Nat.zero_le, Nat.reduceLeDiff, Nat.reduceAdd, Nat.reduceMul]
        exact nxt M2 _ x1 (by rw [aTake_2]; omega) (by rw [aTake_2]; omega) he (fun k q1 q2 => by rw [x2 k q1 q2]; exact hK k q1 q2) (fun a ha => by rw [x3 a ha]; exact hM a ha)
      · rw [if_neg q] at he
        exact ⟨fun _ => nxt M1 g h1 hg (by omega) he hK hM, fun z => absurd q z⟩
  have e1 : nI (f 2) - nI 1 = nI (f 2) + (-1) := by rw [Int32.sub_eq_add_neg]; rfl
  rw [e32]
  simp (disch := first | omega | assumption) only [u32_0, u32_1, u32_4, u32_5, u32_6, u32_8, u32_11, u32_12, u32_13, u32_14, u32_15, u32_16, u32_19, u32_20, u32_21, u32_24, u32_27, u32_30, k1, c_trees, hT.1, e1, gfv_s, gfv_n, gop1_s, nI_add, pk_mul, nIcl, vinT, nIle, nIlt, nIeq, true_and, and_true, List.cons_append, List.nil_append, List.length_nil, List.length_cons, Nat.zero_le, Nat.reduceLeDiff, Nat.reduceAdd, Nat.reduceMul]
  exact loop (f 2) M f hT h7 (Nat.le_refl _) rfl (fun _ _ _ => rfl) (fun _ _ => rfl)
theorem c_addTree {sort p hi ag : Nat} (hh : gHl sh h) (hT : cT (M (h + 1)) f) (h6 : f 2 ≤ 6) (hQ : ∀ M', cT (M' (h + 1)) (aPlant f sort p hi ag) → (∀ k, k ≠ 1 → k < 7 ∨ 35 ≤ k → M' (h + 1) k = M (h + 1) k) → (∀ a, a ≠ h + 1 → M' a = M a) → Q [] sh M') : gcl (d + 2) 30 [.ref h, .int (nI sort), .int (nI p), .int (nI hi), .int (nI ag)] sh M Q := by
  obtain ⟨k1, k2, k3, k4, ⟨k5, k6⟩, -⟩ := id hh
  obtain ⟨t1, t3, tt⟩ := id hT
  rw [e30]
  simp (disch := first | omega | assumption) only [u30_0, u30_1, u30_4, u30_6, u30_8, u30_10, u30_13, u30_14, u30_15, u30_18, u30_20, u30_22, u30_23, u30_24, u30_25, u30_26, u30_29, u30_31, u30_33, u30_34, u30_35, u30_36, u30_37, u30_40, u30_42, u30_44, u30_45, u30_46, u30_47, u30_48, u30_51, u30_53, u30_55, u30_56, u30_58, u30_59, u30_60, u30_63, u30_64, u30_66, u30_67, u30_68, u30_69, k1, k2, k5, k6, c_trees, t1, gr_at, gr_gr, gfv_s, gfv_n, gop1_s, nI_add, pk_mul, nIcl, vinT, nIle, nIlt, nIeq, true_and, and_true, List.cons_append, List.nil_append, List.length_nil, List.length_cons, Nat.zero_le, Nat.reduceLeDiff, Nat.reduceAdd, Nat.reduceMul]
  refine ⟨fun _ => hQ _ ?_ (fun k q1 q2 => ?_) (fun a ha => gr_ne ha), fun q => absurd (by omega) q⟩
  · rw [gr_at]
    refine ⟨by rw [upd_at]; rfl, fun s hs => ?_, fun j hj => ?_⟩
    · rw [upd_ne (by omega), upd_ne (by omega), upd_ne (by omega), upd_ne (by omega), upd_ne (by omega), t3 s hs]
      have e : ∀ k, k < 2 → aPlant f sort p hi ag k = f k := fun k hk => by unfold aPlant; rw [aUp_ne (by omega), aUp_ne (by omega), aUp_ne (by omega), aUp_ne (by omega), aUp_ne (by omega)]
      rw [aFall_c (e 0 (by omega)) (e 1 (by omega))]
    · have hj2 : j < f 2 + 1 := hj
      unfold upd aPlant aUp
      by_cases q : j = f 2
      · rw [q]
        refine ⟨?_, ?_, ?_, ?_⟩ <;> (repeat' split) <;> first | rfl | omega
      · obtain ⟨c1, c2, c3, c4⟩ := tt j (by omega)
        refine ⟨?_, ?_, ?_, ?_⟩
        · rw [c1]; (repeat' split) <;> first | rfl | omega
        · rw [c2]; (repeat' split) <;> first | rfl | omega
        · rw [c3]; (repeat' split) <;> first | rfl | omega
        · rw [c4]; (repeat' split) <;> first | rfl | omega
  · rw [gr_at, upd_ne (by omega), upd_ne (by omega), upd_ne (by omega), upd_ne (by omega), upd_ne (by omega)]
theorem c_become {h' : Nat} (hh : gHl sh h) (hh' : gHl sh h') (hQ : ∀ M', (∀ k, k < 47 → M' (h + 1) k = M (h' + 1) k) → (∀ a, a ≠ h + 1 → M' a = M a) → Q [] sh M') : gcl (d + 1) 26 [.ref h, .ref h'] sh M Q := by
  obtain ⟨k1, k2, k3, k4, ⟨k5, k6⟩, -⟩ := id hh
  obtain ⟨l1, l2, l3, l4, ⟨l5, l6⟩, -⟩ := id hh'
  rw [e26]
  simp (disch := first | omega | assumption) only [u26_0, u26_1, u26_4, u26_5, u26_6, u26_9, u26_10, u26_12, u26_15, k1, k2, k5, k6, l1, l2, l5, l6, nIz, gfv_s, gfv_n, gop1_s, nI_add, pk_mul, nIcl, vinT, nIle, nIlt, nIeq, true_and, and_true, List.cons_append, List.nil_append, List.length_nil, List.length_cons, Nat.zero_le, Nat.reduceLeDiff, Nat.reduceAdd, Nat.reduceMul]
  refine ⟨by simp, hQ _ (fun k hk => ?_) (fun a ha => gr_ne ha)⟩
  rw [gr_at]
  unfold va_cpy
  rw [if_pos (by omega)]
  congr 1
  omega
end G36
