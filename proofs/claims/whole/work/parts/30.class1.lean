/-! the class: light on a Hill at h (cells at h + 1, lights h + 2, gains h + 3) -/
def gHl (sh : gS) (h : Nat) : Prop := gci sh h = some 2 ∧ gsl sh h 0 = some (some (.ref (h + 1))) ∧ gsl sh h 1 = some (some (.ref (h + 2))) ∧ gsl sh h 2 = some (some (.ref (h + 3))) ∧ (gkd sh (h + 1) = 0 ∧ gln sh (h + 1) = 47) ∧ (gkd sh (h + 2) = 0 ∧ gln sh (h + 2) = 12) ∧ (gkd sh (h + 3) = 0 ∧ gln sh (h + 3) = 7)
theorem gHl_now (rs : gS) : gHl (gSH ++ rs) 15 := ⟨rfl, rfl, rfl, rfl, ⟨rfl, rfl⟩, ⟨rfl, rfl⟩, rfl, rfl⟩
theorem gHl_then (rs : gS) : gHl (gSH ++ rs) 19 := ⟨rfl, rfl, rfl, rfl, ⟨rfl, rfl⟩, ⟨rfl, rfl⟩, rfl, rfl⟩
/-- a row of cells holds a hill: its trees; its houses -/
def cT (r : Nat → Int32) (f : Nat → Nat) : Prop := r 1 = nI (f 2) ∧ (∀ s, s < 4 → r (3 + s) = nI (aFall f s)) ∧ ∀ t, t < f 2 → r (7 + t) = nI (f (6 + t)) ∧ r (14 + t) = nI (f (13 + t)) ∧ r (21 + t) = nI (f (20 + t)) ∧ r (28 + t) = nI (f (27 + t))
def cO (r : Nat → Int32) (f : Nat → Nat) : Prop := r 0 = nI (f 4) ∧ r 2 = nI (f 3) ∧ ∀ h, h < f 3 → r (35 + h) = nI (f (34 + h)) ∧ r (39 + h) = nI (f (38 + h)) ∧ r (43 + h) = nI (f (42 + h))
theorem aBits4_or (g : Nat → Bool) : ∀ k, k < 4 → aBits g 4 ||| 2 ^ k = aBits (fun s => g s || decide (s = k)) 4 := by
  intro k hk
  simp only [aBits]
  rcases (show k = 0 ∨ k = 1 ∨ k = 2 ∨ k = 3 by omega) with rfl | rfl | rfl | rfl <;> cases g 0 <;> cases g 1 <;> cases g 2 <;> cases g 3 <;> decide
def ush (x : Int32) (k : Nat) : Int32 := (x.toUInt32 >>> ((nI k).toUInt32 &&& Int32.toUInt32 31)).toInt32
def bc1 (x : Int32) : Int32 := x - (ush x 1 &&& nI 1431655765)
def bc2 (x : Int32) : Int32 := (x &&& nI 858993459) + (ush x 2 &&& nI 858993459)
def bc3 (x : Int32) : Int32 := (x + ush x 4) &&& nI 252645135
def bc4 (x : Int32) : Int32 := x + ush x 8
def bc5 (x : Int32) : Int32 := x + ush x 16
theorem bc_ok : ∀ n, n < 64 → bc5 (bc4 (bc3 (bc2 (bc1 (nI n))))) &&& nI 63 = nI (aPop n) := by decide +kernel
section G30
variable {d : Nat} {sh : gS} {M : gM} {Q : gQ} {f : Nat → Nat} {h : Nat}
theorem j_bitCount {n : Nat} (hn : n < 64) : gcl (d + 1) 201 [.int (nI n)] sh M Q = Q [.int (nI (aPop n))] sh M := by
  rw [e201, ← bc_ok n hn]
  simp only [u201_0, u201_1, u201_2, u201_3, u201_4, u201_7, u201_8, u201_9, u201_10, u201_11, u201_14, u201_15, u201_16, u201_17, u201_18, u201_21, u201_22, u201_23, u201_24, u201_25, u201_26, u201_27, u201_28, u201_29, u201_32, u201_33, u201_34, u201_35, u201_36, u201_38, u201_39, u201_40, u201_41, u201_42, u201_43, u201_45, u201_46, u201_47, u201_48, u201_49, u201_51, u201_52]
  rfl
theorem c_shadeAt {p : Nat} (hh : gHl sh h) (hT : cT (M (h + 1)) f) (hf : aWf f) (hp : p < 12) (hQ : Q [.int (nI (aShade f p))] sh M) : gcl (d + 1) 40 [.ref h, .int (nI p)] sh M Q := by
  obtain ⟨k1, k2, k3, k4, ⟨k5, k6⟩, -⟩ := hh
  obtain ⟨t1, t3, tt⟩ := hT
  have h2 := hf.1.2.2.1
  have inner : ∀ t, t < f 2 → ∀ l4, l4 = some (.int (nI p - nI (f (13 + t)))) → (gR (gcl d) (0, fun _ => 0) 40 78 [some (.ref h), some (.int (nI p)), some (.int (nI (aBits (fun s => aAny (aSh f p s) (t + 1)) 4))), some (.int (nI t)), l4, some (.int (nI 4))] [] sh M 0 0 Q) → (f (13 + t) < p) → ∀ n k, k + n = 4 → gR (gcl d) (0, fun _ => 0) 40 30 [some (.ref h), some (.int (nI p)), some (.int (nI (aBits (fun s => aAny (aSh f p s) (if s < k then t + 1 else t)) 4))), some (.int (nI t)), l4, some (.int (nI k))] [] sh M 0 0 Q := by
    intro t ht l4 hl4 hk hlt n
    subst hl4
    obtain ⟨a1, a2, a3, a4⟩ := hf.2.1 t ht
    obtain ⟨b1, b2, b3, b4⟩ := tt t ht
    have es : nI p - nI (f (13 + t)) = nI (p - f (13 + t)) := nIsub (by omega)
    rw [es] at hk ⊢
    induction n with
    | zero =>
      intro k hk4
      obtain rfl : k = 4 := by omega
      rw [u40_30]
      simp (disch := omega) only [u40_0, u40_1, u40_2, u40_3, u40_5, u40_6, u40_9, u40_10, u40_11, u40_14, u40_15, u40_16, u40_19, u40_21, u40_22, u40_23, u40_24, u40_25, u40_27, u40_28, u40_32, u40_33, u40_36, u40_38, u40_41, u40_42, u40_45, u40_47, u40_48, u40_49, u40_50, u40_52, u40_53, u40_56, u40_57, u40_59, u40_60, u40_61, u40_62, u40_65, u40_66, u40_67, u40_69, u40_70, u40_71, u40_72, u40_75, u40_81, u40_84, u40_85, gfv_s, gfv_n, gop1_s, nI_add, pk_mul, nIcl, vinT, nIle, nIlt, nIeq, true_and, and_true, List.cons_append, List.nil_append, List.length_nil, List.length_cons, Nat.zero_le, Nat.reduceLeDiff, Nat.reduceAdd, Nat.reduceMul]
      refine ⟨fun _ => ?_, fun q => (q (by simp)).elim⟩
      rw [aBits_c (g' := fun s => aAny (aSh f p s) (t + 1)) (fun s hs => by rw [if_pos hs])]
      exact hk
    | succ n ih =>
      intro k hk4
      have f3 := t3 k (by omega)
      have hfl := aFall_le hf (show k < 4 by omega)
      have hm : (p - f (13 + t)) * aFall f k ≤ 12 * 9 := Nat.mul_le_mul (by omega) hfl.2
      have nxt := ih (k + 1) (by omega)
      rw [u40_30]
      simp (disch := omega) only [u40_0, u40_1, u40_2, u40_3, u40_5, u40_6, u40_9, u40_10, u40_11, u40_14, u40_15, u40_16, u40_19, u40_21, u40_22, u40_23, u40_24, u40_25, u40_27, u40_28, u40_32, u40_33, u40_36, u40_38, u40_41, u40_42, u40_45, u40_47, u40_48, u40_49, u40_50, u40_52, u40_53, u40_56, u40_57, u40_59, u40_60, u40_61, u40_62, u40_65, u40_66, u40_67, u40_69, u40_70, u40_71, u40_72, u40_75, u40_81, u40_84, u40_85, k1, k2, k5, k6, b3, f3, nIz, nIor, nIsh, aBits4_or, gfv_s, gfv_n, gop1_s, nI_add, pk_mul, nIcl, vinT, nIle, nIlt, nIeq, true_and, and_true, List.cons_append, List.nil_append, List.length_nil, List.length_cons, Nat.zero_le, Nat.reduceLeDiff, Nat.reduceAdd, Nat.reduceMul]
      refine ⟨fun q => absurd q (by omega), fun _ => ⟨fun q => absurd q (by omega), fun _ => ⟨fun q => ?_, fun q => ?_⟩⟩⟩
      · have e : aSh f p k t = false := by simp [aSh]; omega
        rw [aBits_c (g' := fun s => aAny (aSh f p s) (if s < k + 1 then t + 1 else t)) (fun s hs => ?_)]
        · exact nxt
        · by_cases q1 : s < k
          · rw [if_pos q1, if_pos (by omega)]
          · rw [if_neg q1]
            by_cases q2 : s = k
            · subst q2
              rw [if_pos (by omega), aAny_s, e, Bool.or_false]
            · rw [if_neg (by omega)]
      · have e : aSh f p k t = true := by simp [aSh]; omega
        rw [aBits_c (g' := fun s => aAny (aSh f p s) (if s < k + 1 then t + 1 else t)) (fun s hs => ?_)]
        · exact nxt
        · by_cases q1 : s < k
          · rw [if_pos q1, if_pos (by omega), decide_eq_false (by omega), Bool.or_false]
          · rw [if_neg q1]
            by_cases q2 : s = k
            · subst q2
              rw [if_pos (by omega), aAny_s, e]
              simp
            · rw [if_neg (by omega), decide_eq_false q2, Bool.or_false]
  have outer : ∀ n t l4 l5, t + n = f 2 → gR (gcl d) (0, fun _ => 0) 40 4 [some (.ref h), some (.int (nI p)), some (.int (nI (aBits (fun s => aAny (aSh f p s) t) 4))), some (.int (nI t)), l4, l5] [] sh M 0 0 Q := by
    intro n
    induction n with
    | zero =>
      intro t l4 l5 ht
      obtain rfl : t = f 2 := by omega
      rw [u40_4]
      simp (disch := omega) only [u40_0, u40_1, u40_2, u40_3, u40_5, u40_6, u40_9, u40_10, u40_11, u40_14, u40_15, u40_16, u40_19, u40_21, u40_22, u40_23, u40_24, u40_25, u40_27, u40_28, u40_32, u40_33, u40_36, u40_38, u40_41, u40_42, u40_45, u40_47, u40_48, u40_49, u40_50, u40_52, u40_53, u40_56, u40_57, u40_59, u40_60, u40_61, u40_62, u40_65, u40_66, u40_67, u40_69, u40_70, u40_71, u40_72, u40_75, u40_78, u40_81, u40_84, u40_85, k1, k2, k5, k6, t1, gfv_s, gfv_n, gop1_s, nI_add, pk_mul, nIcl, vinT, nIle, nIlt, nIeq, true_and, and_true, List.cons_append, List.nil_append, List.length_nil, List.length_cons, Nat.zero_le, Nat.reduceLeDiff, Nat.reduceAdd, Nat.reduceMul]
      exact ⟨fun _ => hQ, fun q => (q (Nat.le_refl _)).elim⟩
    | succ n ih =>
      intro t l4 l5 ht
      obtain ⟨a1, a2, a3, a4⟩ := hf.2.1 t (by omega)
      obtain ⟨b1, b2, b3, b4⟩ := tt t (by omega)
      have nxt : ∀ l4 l5, gR (gcl d) (0, fun _ => 0) 40 78 [some (.ref h), some (.int (nI p)), some (.int (nI (aBits (fun s => aAny (aSh f p s) (t + 1)) 4))), some (.int (nI t)), l4, l5] [] sh M 0 0 Q := fun l4 l5 => by
        simp (disch := omega) only [u40_0, u40_1, u40_2, u40_3, u40_5, u40_6, u40_9, u40_10, u40_11, u40_14, u40_15, u40_16, u40_19, u40_21, u40_22, u40_23, u40_24, u40_25, u40_27, u40_28, u40_32, u40_33, u40_36, u40_38, u40_41, u40_42, u40_45, u40_47, u40_48, u40_49, u40_50, u40_52, u40_53, u40_56, u40_57, u40_59, u40_60, u40_61, u40_62, u40_65, u40_66, u40_67, u40_69, u40_70, u40_71, u40_72, u40_75, u40_78, u40_81, u40_84, u40_85, gfv_s, gfv_n, gop1_s, nI_add, pk_mul, nIcl, vinT, nIle, nIlt, nIeq, true_and, and_true, List.cons_append, List.nil_append, List.length_nil, List.length_cons, Nat.zero_le, Nat.reduceLeDiff, Nat.reduceAdd, Nat.reduceMul]
        exact ih (t + 1) l4 l5 (by omega)
      rw [u40_4]
      simp (disch := omega) only [u40_0, u40_1, u40_2, u40_3, u40_5, u40_6, u40_9, u40_10, u40_11, u40_14, u40_15, u40_16, u40_19, u40_21, u40_22, u40_23, u40_24, u40_25, u40_27, u40_28, u40_32, u40_33, u40_36, u40_38, u40_41, u40_42, u40_45, u40_47, u40_48, u40_49, u40_50, u40_52, u40_53, u40_56, u40_57, u40_59, u40_60, u40_61, u40_62, u40_65, u40_66, u40_67, u40_69, u40_70, u40_71, u40_72, u40_75, u40_81, u40_84, u40_85, k1, k2, k5, k6, t1, b2, gfv_s, gfv_n, gop1_s, nI_add, pk_mul, nIcl, vinT, nIle, nIlt, nIeq, true_and, and_true, List.cons_append, List.nil_append, List.length_nil, List.length_cons, Nat.zero_le, Nat.reduceLeDiff, Nat.reduceAdd, Nat.reduceMul]
      refine ⟨fun q => absurd q (by omega), fun _ => ?_⟩
      by_cases hlt : f (13 + t) < p
      · have := inner t (by omega) _ rfl (nxt _ _) hlt 4 0 rfl
        simpa using this
      · rw [u40_30]
        simp (disch := omega) only [u40_0, u40_1, u40_2, u40_3, u40_5, u40_6, u40_9, u40_10, u40_11, u40_14, u40_15, u40_16, u40_19, u40_21, u40_22, u40_23, u40_24, u40_25, u40_27, u40_28, u40_32, u40_33, u40_36, u40_38, u40_41, u40_42, u40_45, u40_47, u40_48, u40_49, u40_50, u40_52, u40_53, u40_56, u40_57, u40_59, u40_60, u40_61, u40_62, u40_65, u40_66, u40_67, u40_69, u40_70, u40_71, u40_72, u40_75, u40_81, u40_84, u40_85, nIz, nIdle', gfv_s, gfv_n, gop1_s, nI_add, pk_mul, nIcl, vinT, nIle, nIlt, nIeq, true_and, and_true, List.cons_append, List.nil_append, List.length_nil, List.length_cons, Nat.zero_le, Nat.reduceLeDiff, Nat.reduceAdd, Nat.reduceMul]
        refine ⟨fun q => absurd q (by simp), fun _ => ⟨fun _ => ?_, fun q => absurd (by omega) q⟩⟩
        have := nxt (some (.int (nI p - nI (f (13 + t))))) (some (.int (nI 0)))
        rw [aBits_c (g' := fun s => aAny (aSh f p s) t) (fun s hs => ?_)] at this
        · exact this
        · rw [aAny_s, show aSh f p s t = false by simp [aSh]; omega, Bool.or_false]
  rw [e40]
  simp only [u40_0, u40_1, u40_2, u40_3, u40_5, u40_6, u40_9, u40_10, u40_11, u40_14, u40_15, u40_16, u40_19, u40_21, u40_22, u40_23, u40_24, u40_25, u40_27, u40_28, u40_32, u40_33, u40_36, u40_38, u40_41, u40_42, u40_45, u40_47, u40_48, u40_49, u40_50, u40_52, u40_53, u40_56, u40_57, u40_59, u40_60, u40_61, u40_62, u40_65, u40_66, u40_67, u40_69, u40_70, u40_71, u40_72, u40_75, u40_78, u40_81, u40_84, u40_85]
  exact outer (f 2) 0 none none (by omega)
theorem c_lightAt {p : Nat} (hh : gHl sh h) (hT : cT (M (h + 1)) f) (hf : aWf f) (hp : p < 12) (hQ : Q [.int (nI (aLight f p))] sh M) : gcl (d + 2) 41 [.ref h, .int (nI p)] sh M Q := by
  have h16 := aShade_lt f p
  have hp4 := aPop_le _ h16
  obtain ⟨k1, k2, -⟩ := id hh
  rw [e41]
  simp (disch := omega) only [u41_0, u41_1, u41_2, u41_3, u41_6, u41_9, u41_10, k1, gfv_s, gfv_n, gop1_s, nI_add, pk_mul, nIcl, vinT, nIle, nIlt, nIeq, true_and, and_true, List.cons_append, List.nil_append, List.length_nil, List.length_cons, Nat.zero_le, Nat.reduceLeDiff, Nat.reduceAdd, Nat.reduceMul]
  refine c_shadeAt hh hT hf hp ?_
  simp (disch := omega) only [u41_0, u41_1, u41_2, u41_3, u41_6, u41_9, u41_10, j_bitCount, nIsub, gfv_s, gfv_n, gop1_s, nI_add, pk_mul, nIcl, vinT, nIle, nIlt, nIeq, true_and, and_true, List.cons_append, List.nil_append, List.length_nil, List.length_cons, Nat.zero_le, Nat.reduceLeDiff, Nat.reduceAdd, Nat.reduceMul]
  exact hQ
end G30
