/-! calls on both sides that foretell: best -/
theorem cH_settle {r : Nat → Int32} {f : Nat → Nat} {w p : Nat} (hH : cH r f) (h7 : f 2 ≤ 7) (h3 : f 3 ≤ 4) (hw : w < 4) : cH (upd r (35 + w) (nI p)) (aUp f (34 + w) p) := by
  obtain ⟨hT, o1, o2, o3⟩ := hH
  refine ⟨cT_f (cT_c hT (fun k hk => upd_ne (by omega)) h7) h7 (fun k q1 q2 q3 => aUp_ne (by omega)), ?_⟩
  refine ⟨by rw [upd_ne (by omega), aUp_ne (by omega)]; exact o1, by rw [upd_ne (by omega), aUp_ne (by omega)]; exact o2, fun j hj => ?_⟩
  rw [aUp_ne (by omega)] at hj
  obtain ⟨c1, c2, c3⟩ := o3 j hj
  rw [upd_ne (show 39 + j ≠ 35 + w by omega), upd_ne (show 43 + j ≠ 35 + w by omega), aUp_ne (show 38 + j ≠ 34 + w by omega), aUp_ne (show 42 + j ≠ 34 + w by omega)]
  refine ⟨?_, c2, c3⟩
  by_cases z : j = w
  · rw [z, upd_at, aUp_at]
  · rw [upd_ne (by omega), aUp_ne (by omega)]; exact c1
theorem aYear_had {f : Nat → Nat} (h2 : f 2 ≤ 7) (h3 : f 3 ≤ 4) {j : Nat} (hj : j < 4) : f (38 + j) ≤ aYear f (38 + j) := by
  have e2 : aMv f 2 = f 2 := aMv_e h3 (by omega) (by omega)
  have hw := aWho_lt f (f 3)
  have e : aYear f (38 + j) = aMv f (38 + j) := by
    unfold aYear
    rw [aUp_ne (by omega), aGrow_e _ (by omega) (by omega)]
  have hl : f (38 + j) ≤ aLit f (f 3) (38 + j) := by
    unfold aLit
    split <;> omega
  rw [e]
  unfold aMv
  split
  · exact hl
  · have hw2 : aW f < 4 := by unfold aW; omega
    rw [aUp_ne (by omega), aUp_ne (by omega), aUp_ne (by omega)]
    exact hl
theorem aYears_had : ∀ n {f : Nat → Nat}, f 2 ≤ 7 → f 3 ≤ 4 → ∀ {j : Nat}, j < 4 → f (38 + j) ≤ aYears n f (38 + j)
  | 0, _, _, _, _, _ => Nat.le_refl _
  | n + 1, f, h2, h3, j, hj => by
    have e2 : aYear f 2 = f 2 := aYear_e h2 h3 (by omega) (by omega) (by omega)
    have e3 : aYear f 3 = f 3 := aYear_e h2 h3 (by omega) (by omega) (by omega)
    exact Nat.le_trans (aYear_had h2 h3 hj) (aYears_had n (f := aYear f) (by omega) (by omega) hj)
def aDp (f : Nat → Nat) (w n p : Nat) : Nat := aYears n (aUp f (34 + w) p) (38 + w) - f (38 + w)
def aCa (f : Nat → Nat) (w p : Nat) : Bool := decide (aFind (fun t => f (34 + t)) p (f 3) 0 = -1000000 ∨ aFind (fun t => f (34 + t)) p (f 3) 0 = nI w)
def aBt (p v : Nat) : Option (Nat × Nat) → Option (Nat × Nat)
  | none => some (p, v)
  | some (b, u) => if u < v then some (p, v) else some (b, u)
def aBk (f : Nat → Nat) (w n : Nat) : Nat → Nat → Option (Nat × Nat) → Option (Nat × Nat)
  | 0, _, c => c
  | m + 1, p, c => aBk f w n m (p + 1) (if aCa f w p = true then aBt p (aDp f w n p) c else c)
theorem aBk_s (f : Nat → Nat) (w n m p : Nat) (c : Option (Nat × Nat)) : aBk f w n (m + 1) p c = aBk f w n m (p + 1) (if aCa f w p = true then aBt p (aDp f w n p) c else c) := rfl
theorem aBt_ne (p v : Nat) (c : Option (Nat × Nat)) : aBt p v c ≠ none := by
  unfold aBt
  split
  · simp
  · split <;> simp
theorem aBk_none (f : Nat → Nat) (w n : Nat) : ∀ m p c, aBk f w n m p c = none → c = none ∧ ∀ q, p ≤ q → q < p + m → aCa f w q = false
  | 0, p, c, h => ⟨h, fun q h1 h2 => absurd h1 (by omega)⟩
  | m + 1, p, c, h => by
    rw [aBk_s] at h
    obtain ⟨h1, h2⟩ := aBk_none f w n m (p + 1) _ h
    by_cases q : aCa f w p = true
    · rw [if_pos q] at h1
      exact absurd h1 (aBt_ne _ _ _)
    · rw [if_neg q] at h1
      refine ⟨h1, fun r h3 h4 => ?_⟩
      by_cases z : r = p
      · rw [z]; simpa using q
      · exact h2 r (by omega) (by omega)
theorem aFree5 {f : Nat → Nat} (h3 : f 3 ≤ 4) : ∃ p, p < 5 ∧ ∀ j, j < f 3 → ¬ f (34 + j) = p := by
  apply Classical.byContradiction
  intro hc
  have key : ∀ p, p < 5 → f 34 = p ∨ f 35 = p ∨ f 36 = p ∨ f 37 = p := by
    intro p hp
    apply Classical.byContradiction
    intro hn
    refine hc ⟨p, hp, fun j hj q => hn ?_⟩
    rcases (show j = 0 ∨ j = 1 ∨ j = 2 ∨ j = 3 by omega) with rfl | rfl | rfl | rfl
    · exact Or.inl q
    · exact Or.inr (Or.inl q)
    · exact Or.inr (Or.inr (Or.inl q))
    · exact Or.inr (Or.inr (Or.inr q))
  have k0 := key 0 (by omega)
  have k1 := key 1 (by omega)
  have k2 := key 2 (by omega)
  have k3 := key 3 (by omega)
  have k4 := key 4 (by omega)
  rcases k0 with k0 | k0 | k0 | k0 <;> rcases k1 with k1 | k1 | k1 | k1 <;> (try omega) <;> rcases k2 with k2 | k2 | k2 | k2 <;> (try omega) <;> rcases k3 with k3 | k3 | k3 | k3 <;> omega
theorem aBk_some {f : Nat → Nat} (h3 : f 3 ≤ 4) (w n : Nat) : ∃ b v, aBk f w n 12 0 none = some (b, v) := by
  cases h : aBk f w n 12 0 none with
  | some c => exact ⟨c.1, c.2, rfl⟩
  | none =>
    obtain ⟨p, hp, hj⟩ := aFree5 h3
    have hc := (aBk_none f w n 12 0 none h).2 p (by omega) (by omega)
    unfold aCa at hc
    have hn := of_decide_eq_false hc
    exfalso
    apply hn
    rcases aFind_ix (fun t => f (34 + t)) p (f 3) 0 with q | ⟨j, _, q⟩
    · exact Or.inl q
    · have := (aFind_lt (fun t => f (34 + t)) p (f 3) 0 (by omega)).2 (fun j _ h2 => hj j (by omega))
      rw [q] at this
      exact absurd this (nI_pos (by omega))
def cB1 : Option (Nat × Nat) → Int32
  | none => -1000000
  | some (b, _) => nI b
def cB2 : Option (Nat × Nat) → Int32
  | none => -1000000
  | some (_, v) => nI v
def mB1 : Option (Nat × Nat) → Int32
  | none => nI 0
  | some (b, _) => nI b
def mB2 : Option (Nat × Nat) → Int32
  | none => -1
  | some (_, v) => nI v
def oB (c : Option (Nat × Nat)) : Prop := match c with
  | none => True
  | some (_, v) => v < 1000000
theorem cB_gt {c : Option (Nat × Nat)} {v p : Nat} (hc : oB c) (hv : v < 1000000) : (nI v ≤ cB2 c → aBt p v c = c) ∧ (¬ nI v ≤ cB2 c → aBt p v c = some (p, v)) := by
  cases c with
  | none => exact ⟨fun q => absurd q (by show ¬ nI v ≤ -1000000; rw [Int32.not_le]; exact Int32.lt_of_lt_of_le (show (-1000000 : Int32) < 0 by decide) (nI_pos' (by omega))), fun _ => rfl⟩
  | some c =>
    obtain ⟨b, u⟩ := c
    have hu : u < 1000000 := hc
    have e : (nI v ≤ cB2 (some (b, u))) = (v ≤ u) := nIle (by omega) (by omega)
    rw [e]
    unfold aBt
    exact ⟨fun q => if_neg (by omega), fun q => if_pos (by omega)⟩
theorem mB_gt {c : Option (Nat × Nat)} {v p : Nat} (hc : oB c) (hv : v < 1000000) : (nI v ≤ mB2 c → aBt p v c = c) ∧ (¬ nI v ≤ mB2 c → aBt p v c = some (p, v)) := by
  cases c with
  | none => exact ⟨fun q => absurd q (by show ¬ nI v ≤ -1; rw [Int32.not_le]; exact Int32.lt_of_lt_of_le (show (-1 : Int32) < 0 by decide) (nI_pos' (by omega))), fun _ => rfl⟩
  | some c =>
    obtain ⟨b, u⟩ := c
    have hu : u < 1000000 := hc
    have e : (nI v ≤ mB2 (some (b, u))) = (v ≤ u) := nIle (by omega) (by omega)
    rw [e]
    unfold aBt
    exact ⟨fun q => if_neg (by omega), fun q => if_pos (by omega)⟩
section G63
variable {d : Nat} {rs : gS} {M : gM} {Q : gQ} {x y z : Int32} {f : Nat → Nat}
theorem aDp_lt {w n p : Nat} (hv : aInv f) (h9 : f 4 ≤ 999) (hw : w < 4) (hn : n ≤ 30) (hp : p ≤ 11) : aDp f w n p < 1000000 ∧ f (38 + w) ≤ aYears n (aUp f (34 + w) p) (38 + w) ∧ aYears n (aUp f (34 + w) p) (38 + w) < 1000000 := by
  have hi := aUp_inv hv hw hp
  have h7 := hi.1.1.2.2.1
  have h3 := hi.1.1.2.2.2
  have e4 : aUp f (34 + w) p 4 = f 4 := aUp_ne (by omega)
  have h1 := (aYears_ok n hi (by rw [e4]; omega)).1.1.2.2.2 (38 + w) (by omega)
  have h2 := aYears_had n h7 h3 hw
  rw [aUp_ne (show 38 + w ≠ 34 + w by omega)] at h2
  unfold aDp
  omega
theorem c_hadIfAt {w n p : Nat} (hH : cH (M 16) f) (hv : aInv f) (h9 : f 4 ≤ 999) (hw : w < f 3) (hn : n ≤ 30) (hp : p ≤ 11) (hQ : ∀ M', cG M M' → Q [.int (nI (aDp f w n p))] (gSH ++ rs) M') : gcl (d + 6) 114 [.ref 0, .int (nI w), .int (nI p), .int (nI n)] (gSH ++ rs) M Q := by
  have h7 := hv.1.1.2.2.1
  have h3 := hv.1.1.2.2.2
  have hi := aUp_inv (w := w) (p := p) hv (by omega) hp
  have e4 : aUp f (34 + w) p 4 = f 4 := aUp_ne (by omega)
  have e3 : aUp f (34 + w) p 3 = f 3 := aUp_ne (by omega)
  have hb := aDp_lt (w := w) (n := n) (p := p) hv h9 (by omega) hn hp
  rw [e114]
  simp (disch := first | omega | assumption) only [u114_0, u114_1, u114_4, u114_5, u114_8, u114_11, u114_12, u114_15, u114_16, u114_17, u114_20, u114_21, u114_24, u114_25, u114_28, u114_29, u114_32, u114_33, u114_36, u114_37, u114_40, u114_41, u114_44, u114_45, kc0, ks0_0, ks0_1, ks0_2, ks0_3, ks0_4, ks0_5, ks0_6, ks0_7, ks0_8, ks0_9, ks0_10, kc15, ks15_0, ks15_1, ks15_2, kc19, ks19_0, ks19_1, ks19_2, kc0, kc1, kc13, kc15, kc19, kc23, kc27, kc29, gb_z, z0, z1, n11, true_or, false_or, nb0, nb1, gb_01, nlt0, nge0, neq0, ngt0, nle0, m1lt, m1ge, true_implies, false_implies, not_true_eq_false, not_false_eq_true, Bool.true_eq_false, Bool.false_eq_true, eq_self, and_self, Nat.reduceEqDiff, Nat.reduceLT, gfv_s, gfv_n, gop1_s, nI_add, pk_mul, nIcl, vinT, nIle, nIlt, nIeq, true_and, and_true, List.cons_append, List.nil_append, List.length_nil, List.length_cons, Nat.zero_le, Nat.reduceLeDiff, Nat.reduceAdd, Nat.reduceMul]
  refine c_become_then hH hv.1 (fun M1 a1 a2 => ?_)
  simp (disch := first | omega | assumption) only [u114_0, u114_1, u114_4, u114_5, u114_8, u114_11, u114_12, u114_15, u114_16, u114_17, u114_20, u114_21, u114_24, u114_25, u114_28, u114_29, u114_32, u114_33, u114_36, u114_37, u114_40, u114_41, u114_44, u114_45, kc0, ks0_0, ks0_1, ks0_2, ks0_3, ks0_4, ks0_5, ks0_6, ks0_7, ks0_8, ks0_9, ks0_10, kc15, ks15_0, ks15_1, ks15_2, kc19, ks19_0, ks19_1, ks19_2, c_settle (gHl_then rs), kc0, kc1, kc13, kc15, kc19, kc23, kc27, kc29, gb_z, z0, z1, n11, true_or, false_or, nb0, nb1, gb_01, nlt0, nge0, neq0, ngt0, nle0, m1lt, m1ge, true_implies, false_implies, not_true_eq_false, not_false_eq_true, Bool.true_eq_false, Bool.false_eq_true, eq_self, and_self, Nat.reduceEqDiff, Nat.reduceLT, gfv_s, gfv_n, gop1_s, nI_add, pk_mul, nIcl, vinT, nIle, nIlt, nIeq, true_and, and_true, List.cons_append, List.nil_append, List.length_nil, List.length_cons, Nat.zero_le, Nat.reduceLeDiff, Nat.reduceAdd, Nat.reduceMul]
  refine c_passYears (f := aUp f (34 + w) p) (gHl_then rs) (by rw [gr_at]; exact cH_settle a1 h7 h3 (by omega)) hi (by omega) (by omega) (fun M2 c1 c2 => ?_)
  have u1 := (c1.2.2.2 w (by rw [(aYears_3 n hi.1.1.2.2.1 hi.1.1.2.2.2).1, e3]; exact hw)).2.1
  have f1 : cG M M2 := fun a w1 w2 w3 => by rw [c2 a w1 w2 w3, gr_ne w1, a2 a w1]
  have u2 : M2 16 (39 + w) = nI (f (38 + w)) := by rw [f1 16 (by omega) (by omega) (by omega)]; exact (hH.2.2.2 w hw).2.1
  simp (disch := first | omega | assumption) only [u114_0, u114_1, u114_4, u114_5, u114_8, u114_11, u114_12, u114_15, u114_16, u114_17, u114_20, u114_21, u114_24, u114_25, u114_28, u114_29, u114_32, u114_33, u114_36, u114_37, u114_40, u114_41, u114_44, u114_45, kc0, ks0_0, ks0_1, ks0_2, ks0_3, ks0_4, ks0_5, ks0_6, ks0_7, ks0_8, ks0_9, ks0_10, kc15, ks15_0, ks15_1, ks15_2, kc19, ks19_0, ks19_1, ks19_2, c_had (gHl_then rs), c_had (gHl_now rs), u1, u2, nIsub, kc0, kc1, kc13, kc15, kc19, kc23, kc27, kc29, gb_z, z0, z1, n11, true_or, false_or, nb0, nb1, gb_01, nlt0, nge0, neq0, ngt0, nle0, m1lt, m1ge, true_implies, false_implies, not_true_eq_false, not_false_eq_true, Bool.true_eq_false, Bool.false_eq_true, eq_self, and_self, Nat.reduceEqDiff, Nat.reduceLT, gfv_s, gfv_n, gop1_s, nI_add, pk_mul, nIcl, vinT, nIle, nIlt, nIeq, true_and, and_true, List.cons_append, List.nil_append, List.length_nil, List.length_cons, Nat.zero_le, Nat.reduceLeDiff, Nat.reduceAdd, Nat.reduceMul]
  exact hQ M2 f1
end G63
