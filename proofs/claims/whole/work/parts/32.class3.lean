/-! the class: places as sets, the years of the trees alone -/
theorem aBits_tb (g : Nat → Bool) : ∀ n i, (aBits g n).testBit i = (decide (i < n) && g i)
  | 0, i => by simp [aBits]
  | n + 1, i => by
    have ih := aBits_tb g n i
    unfold aBits
    rw [← aBits_or g n (g n), Nat.testBit_or, ih]
    by_cases h : i = n
    · subst h
      cases hg : g i <;> simp [Nat.testBit_two_pow]
    · have e : decide (i < n + 1) = decide (i < n) := by
        by_cases q : i < n
        · rw [decide_eq_true q, decide_eq_true (show i < n + 1 by omega)]
        · rw [decide_eq_false q, decide_eq_false (show ¬ i < n + 1 by omega)]
      rw [e]
      cases hg : g n
      · simp
      · simp only [if_true, Nat.testBit_two_pow]
        rw [decide_eq_false (show ¬ n = i by omega), Bool.or_false]
theorem aBits_or2 (g : Nat → Bool) (n k : Nat) (hk : k < n) : aBits g n ||| 2 ^ k = aBits (fun s => g s || decide (s = k)) n := by
  apply Nat.eq_of_testBit_eq
  intro i
  rw [Nat.testBit_or, aBits_tb, aBits_tb, Nat.testBit_two_pow]
  by_cases h : i = k
  · subst h
    simp [hk]
  · rw [decide_eq_false h, decide_eq_false (show ¬ k = i by omega), Bool.or_false, Bool.or_false]
theorem nIbit2 {n k : Nat} (hn : n < 2147483648) (hk : k < 12) : (nI n >>> (nI k &&& 31)) &&& nI 1 = nI (n / 2 ^ k % 2) := by
  have e : nI n >>> (nI k &&& 31) = nI (n / 2 ^ k) := by
    apply Int32.toBitVec_inj.1
    have e1 : ((nI k &&& 31).toBitVec.smod 32).toNat = k := by
      revert k
      decide +kernel
    have e2 : (nI n >>> (nI k &&& 31)).toBitVec = (nI n).toBitVec.sshiftRight ((nI k &&& 31).toBitVec.smod 32).toNat := rfl
    rw [e2, e1]
    have e3 : (nI n).toBitVec = BitVec.ofNat 32 n := rfl
    rw [BitVec.sshiftRight_eq_of_msb_false (by rw [e3, BitVec.msb_eq_false_iff_two_mul_lt, BitVec.toNat_ofNat]; omega)]
    apply BitVec.eq_of_toNat_eq
    rw [BitVec.toNat_ushiftRight, e3]
    show _ = (BitVec.ofNat 32 (n / 2 ^ k)).toNat
    rw [BitVec.toNat_ofNat, BitVec.toNat_ofNat, Nat.mod_eq_of_lt (by omega), Nat.shiftRight_eq_div_pow, Nat.mod_eq_of_lt]
    exact Nat.lt_of_le_of_lt (Nat.div_le_self _ _) (by omega)
  rw [e, nIand, Nat.and_one_is_mod]
section G32
variable {d : Nat} {sh : gS} {M : gM} {Q : gQ} {f : Nat → Nat} {h : Nat}
theorem c_treeAt {p : Nat} (hh : gHl sh h) (hT : cT (M (h + 1)) f) (hf : aWf f) (hp : p < 12) (hQ : Q [.int (aFind (fun t => f (13 + t)) p (f 2) 0)] sh M) : gcl (d + 2) 36 [.ref h, .int (nI p)] sh M Q := by
  obtain ⟨k1, -⟩ := id hh
  obtain ⟨t1, t3, tt⟩ := id hT
  have h2 := hf.1.2.2.1
  have loop : ∀ n t, t + n = f 2 → Q [.int (aFind (fun t => f (13 + t)) p n t)] sh M → gR (gcl (d + 1)) (0, fun _ => 0) 36 2 [some (.ref h), some (.int (nI p)), some (.int (nI t))] [] sh M 0 0 Q := by
    intro n
    induction n with
    | zero =>
      intro t ht hq
      rw [u36_2]
      simp (disch := first | omega | assumption) only [u36_0, u36_1, u36_3, u36_4, u36_7, u36_10, u36_11, u36_12, u36_15, u36_16, u36_19, u36_20, u36_21, u36_24, u36_27, u36_29, k1, c_trees, t1, gfv_s, gfv_n, gop1_s, nI_add, pk_mul, nIcl, vinT, nIle, nIlt, nIeq, true_and, and_true, List.cons_append, List.nil_append, List.length_nil, List.length_cons, Nat.zero_le, Nat.reduceLeDiff, Nat.reduceAdd, Nat.reduceMul]
      exact ⟨fun _ => hq, fun q => absurd (by omega) q⟩
    | succ n ih =>
      intro t ht hq
      obtain ⟨ha1, ha2, ha3, ha4⟩ := hf.2.1 t (by omega)
      rw [u36_2]
      simp (disch := first | omega | assumption) only [u36_0, u36_1, u36_3, u36_4, u36_7, u36_10, u36_11, u36_12, u36_15, u36_16, u36_19, u36_20, u36_21, u36_24, u36_27, u36_29, k1, c_trees, c_spot, t1, (tt t (by omega)).2.1, gfv_s, gfv_n, gop1_s, nI_add, pk_mul, nIcl, vinT, nIle, nIlt, nIeq, true_and, and_true, List.cons_append, List.nil_append, List.length_nil, List.length_cons, Nat.zero_le, Nat.reduceLeDiff, Nat.reduceAdd, Nat.reduceMul]
      unfold aFind at hq
      refine ⟨fun q => absurd q (by omega), fun _ => ⟨fun q => ?_, fun q => ?_⟩⟩
      · rw [if_pos q] at hq
        exact hq
      · rw [if_neg q] at hq
        exact ih (t + 1) (by omega) hq
  rw [e36]
  simp only [u36_0, u36_1, u36_3, u36_4, u36_7, u36_10, u36_11, u36_12, u36_15, u36_16, u36_19, u36_20, u36_21, u36_24, u36_27, u36_29]
  exact loop (f 2) 0 (by omega) hQ
theorem c_houseAt {p : Nat} (hh : gHl sh h) (hO : cO (M (h + 1)) f) (hf : aWf f) (hp : p < 12) (hQ : Q [.int (aFind (fun t => f (34 + t)) p (f 3) 0)] sh M) : gcl (d + 2) 37 [.ref h, .int (nI p)] sh M Q := by
  obtain ⟨k1, -⟩ := id hh
  obtain ⟨t0, t1, tt⟩ := id hO
  have h2 := hf.1.2.2.2
  have loop : ∀ n t, t + n = f 3 → Q [.int (aFind (fun t => f (34 + t)) p n t)] sh M → gR (gcl (d + 1)) (0, fun _ => 0) 37 2 [some (.ref h), some (.int (nI p)), some (.int (nI t))] [] sh M 0 0 Q := by
    intro n
    induction n with
    | zero =>
      intro t ht hq
      rw [u37_2]
      simp (disch := first | omega | assumption) only [u37_0, u37_1, u37_3, u37_4, u37_7, u37_10, u37_11, u37_12, u37_15, u37_16, u37_19, u37_20, u37_21, u37_24, u37_27, u37_29, k1, c_houses, t1, gfv_s, gfv_n, gop1_s, nI_add, pk_mul, nIcl, vinT, nIle, nIlt, nIeq, true_and, and_true, List.cons_append, List.nil_append, List.length_nil, List.length_cons, Nat.zero_le, Nat.reduceLeDiff, Nat.reduceAdd, Nat.reduceMul]
      exact ⟨fun _ => hq, fun q => absurd (by omega) q⟩
    | succ n ih =>
      intro t ht hq
      have ha1 := hf.2.2.1 t (by omega)
      rw [u37_2]
      simp (disch := first | omega | assumption) only [u37_0, u37_1, u37_3, u37_4, u37_7, u37_10, u37_11, u37_12, u37_15, u37_16, u37_19, u37_20, u37_21, u37_24, u37_27, u37_29, k1, c_houses, c_home, t1, (tt t (by omega)).1, gfv_s, gfv_n, gop1_s, nI_add, pk_mul, nIcl, vinT, nIle, nIlt, nIeq, true_and, and_true, List.cons_append, List.nil_append, List.length_nil, List.length_cons, Nat.zero_le, Nat.reduceLeDiff, Nat.reduceAdd, Nat.reduceMul]
      unfold aFind at hq
      refine ⟨fun q => absurd q (by omega), fun _ => ⟨fun q => ?_, fun q => ?_⟩⟩
      · rw [if_pos q] at hq
        exact hq
      · rw [if_neg q] at hq
        exact ih (t + 1) (by omega) hq
  rw [e37]
  simp only [u37_0, u37_1, u37_3, u37_4, u37_7, u37_10, u37_11, u37_12, u37_15, u37_16, u37_19, u37_20, u37_21, u37_24, u37_27, u37_29]
  exact loop (f 3) 0 (by omega) hQ
def aTP (f : Nat → Nat) (n : Nat) : Nat := aBits (fun q => aAny (fun t => decide (q = f (13 + t))) n) 12
def aHP (f : Nat → Nat) (n : Nat) : Nat := aBits (fun q => aAny (fun t => decide (q = f (34 + t))) n) 12
theorem aTP_0 (f : Nat → Nat) : aTP f 0 = 0 := rfl
theorem aHP_0 (f : Nat → Nat) : aHP f 0 = 0 := rfl
theorem aTP_s (f : Nat → Nat) (n : Nat) (h : f (13 + n) < 12) : aTP f n ||| 2 ^ f (13 + n) = aTP f (n + 1) := by
  unfold aTP
  rw [aBits_or2 _ _ _ h]
  rfl
theorem aHP_s (f : Nat → Nat) (n : Nat) (h : f (34 + n) < 12) : aHP f n ||| 2 ^ f (34 + n) = aHP f (n + 1) := by
  unfold aHP
  rw [aBits_or2 _ _ _ h]
  rfl
theorem c_treePlaces (hh : gHl sh h) (hT : cT (M (h + 1)) f) (hf : aWf f) (hQ : Q [.int (nI (aTP f (f 2)))] sh M) : gcl (d + 2) 38 [.ref h] sh M Q := by
  obtain ⟨k1, -⟩ := id hh
  obtain ⟨t1, t3, tt⟩ := id hT
  have h2 := hf.1.2.2.1
  have loop : ∀ n t, t + n = f 2 → gR (gcl (d + 1)) (0, fun _ => 0) 38 4 [some (.ref h), some (.int (nI (aTP f t))), some (.int (nI t))] [] sh M 0 0 Q := by
    intro n
    induction n with
    | zero =>
      intro t ht
      obtain rfl : t = f 2 := by omega
      rw [u38_4]
      simp (disch := first | omega | assumption) only [u38_0, u38_1, u38_2, u38_3, u38_5, u38_6, u38_9, u38_12, u38_13, u38_14, u38_15, u38_16, u38_19, u38_20, u38_21, u38_22, u38_25, u38_28, u38_29, k1, c_trees, t1, gfv_s, gfv_n, gop1_s, nI_add, pk_mul, nIcl, vinT, nIle, nIlt, nIeq, true_and, and_true, List.cons_append, List.nil_append, List.length_nil, List.length_cons, Nat.zero_le, Nat.reduceLeDiff, Nat.reduceAdd, Nat.reduceMul]
      exact ⟨fun _ => hQ, fun q => absurd (Nat.le_refl _) q⟩
    | succ n ih =>
      intro t ht
      obtain ⟨ha1, ha2, ha3, ha4⟩ := hf.2.1 t (by omega)
      rw [u38_4]
      simp (disch := first | omega | assumption) only [u38_0, u38_1, u38_2, u38_3, u38_5, u38_6, u38_9, u38_12, u38_13, u38_14, u38_15, u38_16, u38_19, u38_20, u38_21, u38_22, u38_25, u38_28, u38_29, k1, c_trees, c_spot, t1, (tt t (by omega)).2.1, nIsh, nIor, aTP_s, gfv_s, gfv_n, gop1_s, nI_add, pk_mul, nIcl, vinT, nIle, nIlt, nIeq, true_and, and_true, List.cons_append, List.nil_append, List.length_nil, List.length_cons, Nat.zero_le, Nat.reduceLeDiff, Nat.reduceAdd, Nat.reduceMul]
      exact ⟨fun q => absurd q (by omega), fun _ => ih (t + 1) (by omega)⟩
  rw [e38]
  simp only [u38_0, u38_1, u38_2, u38_3, u38_5, u38_6, u38_9, u38_12, u38_13, u38_14, u38_15, u38_16, u38_19, u38_20, u38_21, u38_22, u38_25, u38_28, u38_29]
  exact loop (f 2) 0 (by omega)
theorem c_housePlaces (hh : gHl sh h) (hO : cO (M (h + 1)) f) (hf : aWf f) (hQ : Q [.int (nI (aHP f (f 3)))] sh M) : gcl (d + 2) 39 [.ref h] sh M Q := by
  obtain ⟨k1, -⟩ := id hh
  obtain ⟨t0, t1, tt⟩ := id hO
  have h2 := hf.1.2.2.2
  have loop : ∀ n t, t + n = f 3 → gR (gcl (d + 1)) (0, fun _ => 0) 39 4 [some (.ref h), some (.int (nI (aHP f t))), some (.int (nI t))] [] sh M 0 0 Q := by
    intro n
    induction n with
    | zero =>
      intro t ht
      obtain rfl : t = f 3 := by omega
      rw [u39_4]
      simp (disch := first | omega | assumption) only [u39_0, u39_1, u39_2, u39_3, u39_5, u39_6, u39_9, u39_12, u39_13, u39_14, u39_15, u39_16, u39_19, u39_20, u39_21, u39_22, u39_25, u39_28, u39_29, k1, c_houses, t1, gfv_s, gfv_n, gop1_s, nI_add, pk_mul, nIcl, vinT, nIle, nIlt, nIeq, true_and, and_true, List.cons_append, List.nil_append, List.length_nil, List.length_cons, Nat.zero_le, Nat.reduceLeDiff, Nat.reduceAdd, Nat.reduceMul]
      exact ⟨fun _ => hQ, fun q => absurd (Nat.le_refl _) q⟩
    | succ n ih =>
      intro t ht
      have ha1 := hf.2.2.1 t (by omega)
      rw [u39_4]
      simp (disch := first | omega | assumption) only [u39_0, u39_1, u39_2, u39_3, u39_5, u39_6, u39_9, u39_12, u39_13, u39_14, u39_15, u39_16, u39_19, u39_20, u39_21, u39_22, u39_25, u39_28, u39_29, k1, c_houses, c_home, t1, (tt t (by omega)).1, nIsh, nIor, aHP_s, gfv_s, gfv_n, gop1_s, nI_add, pk_mul, nIcl, vinT, nIle, nIlt, nIeq, true_and, and_true, List.cons_append, List.nil_append, List.length_nil, List.length_cons, Nat.zero_le, Nat.reduceLeDiff, Nat.reduceAdd, Nat.reduceMul]
      exact ⟨fun q => absurd q (by omega), fun _ => ih (t + 1) (by omega)⟩
  rw [e39]
  simp only [u39_0, u39_1, u39_2, u39_3, u39_5, u39_6, u39_9, u39_12, u39_13, u39_14, u39_15, u39_16, u39_19, u39_20, u39_21, u39_22, u39_25, u39_28, u39_29]
  exact loop (f 3) 0 (by omega)
end G32
