/-! what the tape tells, as a plain function of its bytes -/
def pB {α β : Type} (x : (Nat × Nat) ⊕ α) (k : α → (Nat × Nat) ⊕ β) : (Nat × Nat) ⊕ β := match x with
  | .inl e => .inl e
  | .inr a => k a
theorem pB_l {α β : Type} {e : Nat × Nat} {k : α → (Nat × Nat) ⊕ β} : pB (.inl e) k = .inl e := rfl
theorem pB_r {α β : Type} {a : α} {k : α → (Nat × Nat) ⊕ β} : pB (.inr a) k = k a := rfl
/-- a number and the sign behind it -/
def pS (b : Nat → Nat) (n e most : Nat) (tk : Nat → Bool) (c : Nat) : (Nat × Nat) ⊕ (Nat × Nat) := if tK b n e = 2 then (if most < tV b n e ∨ tk (tV b n e) = true then .inl (e, 2) else if tIs b n (tN b n e) c = true then .inr (tV b n e, tN b n (tN b n e)) else .inl (tN b n e, 1)) else .inl (e, 1)
def pNo : Nat → Bool := fun _ => false
def tkT (f : Nat → Nat) (v : Nat) : Bool := aAny (fun t => decide (v = f (13 + t))) (f 2)
def tkH (f : Nat → Nat) (v : Nat) : Bool := aAny (fun t => decide (v = f (34 + t))) (f 3)
def pLaw (b : Nat → Nat) (n : Nat) : (Nat × Nat) ⊕ (Nat × (Nat → Nat)) := if tIs b n 0 104 = true then pB (pS b n (tN b n 0) 4 pNo 44) (fun q => pB (pS b n q.2 2 pNo 59) (fun r => .inr (r.2, aUp (aUp (fun _ => 0) 0 q.1) 1 r.1))) else .inl (0, 1)
def pTree (b : Nat → Nat) (n : Nat) (f : Nat → Nat) (s e : Nat) : (Nat × Nat) ⊕ (Nat × (Nat → Nat)) := if 6 ≤ f 2 then .inl (e, 3) else pB (pS b n (tN b n e) 11 (tkT f) 44) (fun q => pB (pS b n q.2 30 pNo 44) (fun r => pB (pS b n r.2 30 pNo 59) (fun u => .inr (u.2, aPlant f s q.1 r.1 u.1))))
def pHouse (b : Nat → Nat) (n : Nat) (f : Nat → Nat) (e : Nat) : (Nat × Nat) ⊕ (Nat × (Nat → Nat)) := if 4 ≤ f 3 then .inl (e, 3) else pB (pS b n (tN b n e) 11 (tkH f) 59) (fun q => .inr (q.2, aSet f q.1))
def pTs (b : Nat → Nat) (n : Nat) : Nat → (Nat → Nat) → Nat → (Nat × Nat) ⊕ (Nat × (Nat → Nat))
  | 0, f, e => .inr (e, f)
  | m + 1, f, e => if tS b n e = 0 then .inr (e, f) else pB (pTree b n f (tS b n e) e) (fun q => pTs b n m q.2 q.1)
def pHs (b : Nat → Nat) (n : Nat) : Nat → (Nat → Nat) → Nat → (Nat × Nat) ⊕ (Nat × (Nat → Nat))
  | 0, f, e => .inr (e, f)
  | m + 1, f, e => if tIs b n e 118 = true then pB (pHouse b n f e) (fun q => pHs b n m q.2 q.1) else .inr (e, f)
def pEnd (b : Nat → Nat) (n : Nat) (q : Nat × (Nat → Nat)) : (Nat × Nat) ⊕ (Nat × (Nat → Nat)) := if tK b n q.1 = 3 then .inr q else .inl (q.1, 1)
def pHill (b : Nat → Nat) (n : Nat) : (Nat × Nat) ⊕ (Nat × (Nat → Nat)) := pB (pLaw b n) (fun q => pB (pTs b n 7 q.2 q.1) (fun r => pB (pHs b n 5 r.2 r.1) (pEnd b n)))
theorem pTs_s (b : Nat → Nat) (n m : Nat) (f : Nat → Nat) (e : Nat) : pTs b n (m + 1) f e = if tS b n e = 0 then .inr (e, f) else pB (pTree b n f (tS b n e) e) (fun q => pTs b n m q.2 q.1) := rfl
theorem pHs_s (b : Nat → Nat) (n m : Nat) (f : Nat → Nat) (e : Nat) : pHs b n (m + 1) f e = if tIs b n e 118 = true then pB (pHouse b n f e) (fun q => pHs b n m q.2 q.1) else .inr (e, f) := rfl
section G74
variable {b : Nat → Nat} {n e most c : Nat} {tk : Nat → Bool} {f : Nat → Nat}
theorem pS_1 (h : tK b n e ≠ 2) : pS b n e most tk c = .inl (e, 1) := if_neg h
theorem pS_2 (h : tK b n e = 2) (h2 : most < tV b n e ∨ tk (tV b n e) = true) : pS b n e most tk c = .inl (e, 2) := by
  unfold pS
  rw [if_pos h, if_pos h2]
theorem pS_3 (h : tK b n e = 2) (h2 : tV b n e ≤ most) (h3 : tk (tV b n e) = false) (h4 : tIs b n (tN b n e) c = false) : pS b n e most tk c = .inl (tN b n e, 1) := by
  unfold pS
  rw [if_pos h, if_neg (by rw [h3]; simp; omega), if_neg (by rw [h4]; simp)]
theorem pS_4 (h : tK b n e = 2) (h2 : tV b n e ≤ most) (h3 : tk (tV b n e) = false) (h4 : tIs b n (tN b n e) c = true) : pS b n e most tk c = .inr (tV b n e, tN b n (tN b n e)) := by
  unfold pS
  rw [if_pos h, if_neg (by rw [h3]; simp; omega), if_pos h4]
theorem pS_i {v e' : Nat} (h : pS b n e most tk c = .inr (v, e')) : v ≤ most ∧ e' ≤ n := by
  by_cases q : tK b n e = 2
  · by_cases q1 : most < tV b n e ∨ tk (tV b n e) = true
    · rw [pS_2 q q1] at h; cases h
    · have q2 : tV b n e ≤ most := by omega
      have q3 : tk (tV b n e) = false := by
        cases z : tk (tV b n e)
        · rfl
        · exact absurd (Or.inr z) q1
      cases q4 : tIs b n (tN b n e) c
      · rw [pS_3 q q2 q3 q4] at h; cases h
      · rw [pS_4 q q2 q3 q4] at h
        cases h
        exact ⟨q2, (tN_le (Or.inl (tIs_t q4).1)).1⟩
  · rw [pS_1 q] at h; cases h
theorem tkT_b {v : Nat} (hv : v < 12) : (aTP f (f 2) / 2 ^ v % 2 = 0) = (tkT f v = false) := by
  have h := aBits_tb (fun q => aAny (fun t => decide (q = f (13 + t))) (f 2)) 12 v
  rw [Nat.testBit_eq_decide_div_mod_eq, decide_eq_true hv, Bool.true_and] at h
  unfold aTP tkT
  rw [← h]
  simp
theorem tkH_b {v : Nat} (hv : v < 12) : (aHP f (f 3) / 2 ^ v % 2 = 0) = (tkH f v = false) := by
  have h := aBits_tb (fun q => aAny (fun t => decide (q = f (34 + t))) (f 3)) 12 v
  rw [Nat.testBit_eq_decide_div_mod_eq, decide_eq_true hv, Bool.true_and] at h
  unfold aHP tkH
  rw [← h]
  simp
end G74
/-- a hill as it is read -/
def rOK (f : Nat → Nat) : Prop := aInv f ∧ f 2 ≤ 6 ∧ f 4 = 0 ∧ f 5 = 0 ∧ ∀ j, j < 4 → f (42 + j) = 0
theorem rOK_hOK {f : Nat → Nat} (h : rOK f) : hOK f := by
  obtain ⟨h1, h2, h3, h4, h5⟩ := h
  refine ⟨h1, h2, by omega, ?_⟩
  have hf3 := h1.1.1.2.2.2
  unfold aMoves
  have z : ∀ m, m ≤ 4 → aSum (fun j => f (42 + j)) m = 0 := by
    intro m
    induction m with
    | zero => intro _; rfl
    | succ m ih =>
      intro hm
      unfold aSum
      rw [ih (by omega), h5 m (by omega)]
  rw [h4, z _ hf3]
theorem rOK_law {s w : Nat} (hs : s ≤ 4) (hw : w ≤ 2) : rOK (aUp (aUp (fun _ => 0) 0 s) 1 w) := by
  have e : ∀ k, k ≠ 0 → k ≠ 1 → aUp (aUp (fun _ => 0) 0 s) 1 w k = 0 := fun k h0 h1 => by rw [aUp_ne h1, aUp_ne h0]
  have e0 : aUp (aUp (fun _ => 0) 0 s) 1 w 0 = s := by rw [aUp_ne (by omega), aUp_at]
  have e1 : aUp (aUp (fun _ => 0) 0 s) 1 w 1 = w := aUp_at
  have le : ∀ k, aUp (aUp (fun _ => 0) 0 s) 1 w k ≤ 4 := fun k => by
    unfold aUp
    (repeat' split) <;> first | omega | exact Nat.zero_le _
  refine ⟨⟨⟨⟨by rw [e0]; exact hs, by rw [e1]; exact hw, by rw [e 2 (by omega) (by omega)]; omega, by rw [e 3 (by omega) (by omega)]; omega⟩, fun t ht => ?_, fun j hj => ?_, fun k hk => by have := le k; omega⟩, fun k hk => by have := le k; omega⟩, by rw [e 2 (by omega) (by omega)]; omega, e 4 (by omega) (by omega), e 5 (by omega) (by omega), fun j hj => e _ (by omega) (by omega)⟩
  · rw [e 2 (by omega) (by omega)] at ht; omega
  · rw [e 3 (by omega) (by omega)] at hj; omega
theorem rOK_tree {f : Nat → Nat} {s p hi ag : Nat} (h : rOK f) (h5 : f 2 ≤ 5) (hs : 1 ≤ s ∧ s ≤ 5) (hp : p ≤ 11) (hh : hi ≤ 30) (ha : ag ≤ 30) : rOK (aPlant f s p hi ag) := by
  obtain ⟨h1, h2, h3, h4, h9⟩ := h
  exact ⟨aPlant_inv h1 h2 hs hp (by omega) (by omega), by rw [aPlant_2]; omega, by rw [aPlant_e h2 (by omega) (by omega)]; exact h3, by rw [aPlant_e h2 (by omega) (by omega)]; exact h4, fun j hj => by rw [aPlant_e h2 (by omega) (by omega)]; exact h9 j hj⟩
theorem rOK_house {f : Nat → Nat} {p : Nat} (h : rOK f) (h3' : f 3 ≤ 3) (hp : p ≤ 11) : rOK (aSet f p) := by
  obtain ⟨⟨⟨⟨a0, a1, a2, a3⟩, h1, h2, h3⟩, h4⟩, h6, h7, h8, h9⟩ := h
  have e : ∀ k, k ≠ 3 → k < 34 → aSet f p k = f k := fun k q1 q2 => by
    unfold aSet
    rw [aUp_ne q1, aUp_ne (by omega), aUp_ne (by omega), aUp_ne (by omega)]
  have e3 : aSet f p 3 = f 3 + 1 := aUp_at
  have le : ∀ k, k < 46 → aSet f p k ≤ 100 := fun k hk => by
    have := h4 k hk
    unfold aSet aUp
    (repeat' split) <;> omega
  refine ⟨⟨⟨⟨by rw [e 0 (by omega) (by omega)]; exact a0, by rw [e 1 (by omega) (by omega)]; exact a1, by rw [e 2 (by omega) (by omega)]; exact a2, by rw [e3]; omega⟩, fun t ht => ?_, fun j hj => ?_, fun k hk => by have := le k hk; omega⟩, fun k hk => by have := le k hk; omega⟩, by rw [e 2 (by omega) (by omega)]; exact h6, by rw [e 4 (by omega) (by omega)]; exact h7, by rw [e 5 (by omega) (by omega)]; exact h8, fun j hj => ?_⟩
  · rw [e 2 (by omega) (by omega)] at ht
    rw [e _ (by omega) (by omega), e (13 + t) (by omega) (by omega), e (20 + t) (by omega) (by omega)]
    exact h1 t ht
  · rw [e3] at hj
    unfold aSet aUp
    by_cases q : j = f 3
    · subst q
      (repeat' split) <;> omega
    · have := h2 j (by omega)
      (repeat' split) <;> omega
  · have := h9 j hj
    unfold aSet aUp
    (repeat' split) <;> omega
theorem cT_g {r r' : Nat → Int32} {f g : Nat → Nat} (hT : cT r f) (h2 : f 2 ≤ 7) (hr : ∀ k, k ≠ 2 → k < 35 → r' k = r k) (hg : ∀ k, k ≠ 3 → k < 34 → g k = f k) : cT r' g := by
  obtain ⟨t1, t3, tt⟩ := hT
  refine ⟨by rw [hr 1 (by omega) (by omega), hg 2 (by omega) (by omega), t1], fun s hs => by rw [hr _ (by omega) (by omega), t3 s hs, aFall_c (hg 0 (by omega) (by omega)) (hg 1 (by omega) (by omega))], fun t ht => ?_⟩
  rw [hg 2 (by omega) (by omega)] at ht
  rw [hr _ (by omega) (by omega), hr (14 + t) (by omega) (by omega), hr (21 + t) (by omega) (by omega), hr (28 + t) (by omega) (by omega), hg (6 + t) (by omega) (by omega), hg (13 + t) (by omega) (by omega), hg (20 + t) (by omega) (by omega), hg (27 + t) (by omega) (by omega)]
  exact tt t ht
