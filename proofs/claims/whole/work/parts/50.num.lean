/-! numbers of both sides: bounds, truths -/
def gb (b : Bool) : Int32 := if b = true then nI 1 else nI 0
theorem gb_t : gb true = nI 1 := rfl
theorem gb_f : gb false = nI 0 := rfl
theorem z0 : (nI 0 = 0) = True := eq_true (by decide)
theorem z1 : (nI 1 = 0) = False := eq_false (by decide)
theorem n11 : (nI 1 = 1) = True := eq_true (by decide)
theorem nb0 : (nI 0 = 0 ∨ nI 0 = 1) = True := eq_true (by decide)
theorem nb1 : (nI 1 = 0 ∨ nI 1 = 1) = True := eq_true (by decide)
theorem gb_z (b : Bool) : (gb b = 0) = (b = false) := by
  cases b
  · rw [gb_f, z0]; simp
  · rw [gb_t, z1]; simp
theorem gb_01 (b : Bool) : (gb b = 0 ∨ gb b = 1) = True := by
  cases b
  · exact nb0
  · exact nb1
theorem xlt {x : Int32} {n : Nat} (hn : n < 2147483648) : (x < nI n) = (x.toInt < n) := propext (by rw [Int32.lt_iff_toInt_lt, nI_toInt hn])
theorem xgt {x : Int32} {n : Nat} (hn : n < 2147483648) : (nI n < x) = ((n : Int) < x.toInt) := propext (by rw [Int32.lt_iff_toInt_lt, nI_toInt hn])
theorem xle {x : Int32} {n : Nat} (hn : n < 2147483648) : (x ≤ nI n) = (x.toInt ≤ n) := propext (by rw [Int32.le_iff_toInt_le, nI_toInt hn])
theorem xge {x : Int32} {n : Nat} (hn : n < 2147483648) : (nI n ≤ x) = ((n : Int) ≤ x.toInt) := propext (by rw [Int32.le_iff_toInt_le, nI_toInt hn])
theorem xlt0 {x : Int32} : (x < 0) = (x.toInt < 0) := propext (by rw [Int32.lt_iff_toInt_lt]; rfl)
theorem xge0 {x : Int32} : (0 ≤ x) = (0 ≤ x.toInt) := propext (by rw [Int32.le_iff_toInt_le]; rfl)
theorem nlt0 {n : Nat} (h : n < 2147483648) : (nI n < 0) = False := eq_false (nI_pos h)
theorem nge0 {n : Nat} (h : n < 2147483648) : (0 ≤ nI n) = True := eq_true (nI_pos' h)
theorem neq0 {n : Nat} (h : n < 2147483648) : (nI n = 0) = (n = 0) := by rw [nIz, nIeq h (by omega)]
theorem ngt0 {n : Nat} (h : n < 2147483648) : (0 < nI n) = (0 < n) := by rw [nIz, nIlt (by omega) h]
theorem nle0 {n : Nat} (h : n < 2147483648) : (nI n ≤ 0) = (n = 0) := by rw [nIz, nIle h (by omega)]; exact propext ⟨fun q => by omega, fun q => by omega⟩
def gIn (x : Int32) (l n : Nat) : Bool := decide ((l : Int) ≤ x.toInt ∧ x.toInt ≤ n)
def gHo (x : Int32) (s n : Nat) : Bool := decide (0 ≤ x.toInt ∧ x.toInt + n ≤ s)
theorem xnI {x : Int32} (h : 0 ≤ x.toInt) : ∃ p : Nat, x = nI p ∧ x.toInt = p ∧ p < 2147483648 := by
  obtain ⟨j, hj, rfl⟩ := nI_of (x := x) (by rw [xlt0]; omega)
  exact ⟨j, rfl, nI_toInt hj, hj⟩
theorem gIn_t {x : Int32} {l n : Nat} (h : gIn x l n = true) : ∃ p, l ≤ p ∧ p ≤ n ∧ x = nI p := by
  have := of_decide_eq_true h
  obtain ⟨p, e1, e2, -⟩ := xnI (x := x) (by omega)
  exact ⟨p, by omega, by omega, e1⟩
theorem gIn_f {x : Int32} {l n : Nat} (h : gIn x l n = false) : x.toInt < l ∨ (n : Int) < x.toInt := by
  have := of_decide_eq_false h
  omega
theorem gHo_t {x : Int32} {s n : Nat} (h : gHo x s n = true) : ∃ i, i + n ≤ s ∧ x = nI i := by
  have := of_decide_eq_true h
  obtain ⟨p, e1, e2, -⟩ := xnI (x := x) (by omega)
  exact ⟨p, by omega, e1⟩
theorem gIn_n {p l n : Nat} (hp : p < 2147483648) : gIn (nI p) l n = decide (l ≤ p ∧ p ≤ n) := by
  unfold gIn
  rw [nI_toInt hp]
  exact decide_eq_decide.2 (by omega)
theorem gHo_n {p s n : Nat} (hp : p < 2147483648) : gHo (nI p) s n = decide (p + n ≤ s) := by
  unfold gHo
  rw [nI_toInt hp]
  exact decide_eq_decide.2 (by omega)
theorem gHo_0 {x : Int32} {n : Nat} (hn : 0 < n) : gHo x 0 n = false := by
  unfold gHo
  exact decide_eq_false (by omega)
section G50
variable {d : Nat} {sh : gS} {rs : gS} {M : gM} {Q : gQ} {x : Int32}
theorem c_upTo {n : Nat} (hn : n < 2147483648) : gcl (d + 1) 107 [.int x, .int (nI n)] sh M Q = Q [.int (gb (gIn x 0 n))] sh M := by
  rw [e107]
  simp (disch := omega) only [u107_0, u107_1, u107_4, u107_5, u107_6, u107_9, u107_10, u107_13, u107_14, nb0, nb1, xlt0, xgt, true_and]
  cases h : gIn x 0 n
  · rw [gb_f]
    rcases gIn_f h with q | q
    · exact propext ⟨fun z => z.1 q, fun z => ⟨fun _ => z, fun z2 => absurd q z2⟩⟩
    · exact propext ⟨fun z => (z.2 (by omega)).1 q, fun z => ⟨fun _ => z, fun _ => ⟨fun _ => z, fun z2 => absurd q z2⟩⟩⟩
  · rw [gb_t]
    have := of_decide_eq_true h
    exact propext ⟨fun z => (z.2 (by omega)).2 (by omega), fun z => ⟨fun q => absurd q (by omega), fun _ => ⟨fun q => absurd q (by omega), fun _ => z⟩⟩⟩
theorem c_isSort : gcl (d + 1) 108 [.int x] sh M Q = Q [.int (gb (gIn x 1 5))] sh M := by
  rw [e108]
  simp (disch := omega) only [u108_0, u108_1, u108_2, u108_5, u108_6, u108_7, u108_10, u108_11, u108_14, u108_15, nb0, nb1, xlt, xgt, true_and]
  cases h : gIn x 1 5
  · rw [gb_f]
    rcases gIn_f h with q | q
    · exact propext ⟨fun z => z.1 q, fun z => ⟨fun _ => z, fun z2 => absurd q z2⟩⟩
    · exact propext ⟨fun z => (z.2 (by omega)).1 q, fun z => ⟨fun _ => z, fun _ => ⟨fun _ => z, fun z2 => absurd q z2⟩⟩⟩
  · rw [gb_t]
    have := of_decide_eq_true h
    exact propext ⟨fun z => (z.2 (by omega)).2 (by omega), fun z => ⟨fun q => absurd q (by omega), fun _ => ⟨fun q => absurd q (by omega), fun _ => z⟩⟩⟩
theorem m_inB {a b c : Int64} {t : Bool} (h : (b.toInt ≤ a.toInt ∧ a.toInt ≤ c.toInt) ↔ t = true) : gcl (d + 1) 123 [.long a, .long b, .long c] sh M Q = Q [.int (gb t)] sh M := by
  rw [m_in]
  have e : (b ≤ a ∧ a ≤ c) ↔ t = true := by rw [Int64.le_iff_toInt_le, Int64.le_iff_toInt_le]; exact h
  unfold gb
  by_cases q : t = true
  · rw [if_pos q, if_pos (e.2 q)]
  · rw [if_neg q, if_neg (fun z => q (e.1 z))]
theorem m_inN {l n : Nat} (hl : l < 2147483648) (hn : n < 2147483648) : gcl (d + 1) 123 [.long x.toInt64, .long (lN l), .long (lN n)] sh M Q = Q [.int (gb (gIn x l n))] sh M := by
  refine m_inB ?_
  rw [Int32.toInt_toInt64, pk_lT (by omega), pk_lT (by omega)]
  unfold gIn
  exact decide_eq_true_iff.symm
theorem i64s {s n : Nat} (hs : s < 1000) (hn : n < 1000) : (nI s - nI n).toInt64.toInt = (s : Int) - n := by
  rw [Int32.toInt_toInt64, pk_sub_toInt (by omega) (by omega)]
theorem m_inS {s n : Nat} (hs : s < 1000) (hn : n < 1000) : gcl (d + 1) 123 [.long x.toInt64, .long (lN 0), .long (nI s - nI n).toInt64] sh M Q = Q [.int (gb (gHo x s n))] sh M := by
  refine m_inB ?_
  rw [Int32.toInt_toInt64, pk_lT (by omega), i64s hs hn]
  unfold gHo
  rw [decide_eq_true_iff]
  omega
theorem m_isRow : gcl (d + 2) 128 [.int x] sh M Q = Q [.int (gb (gIn x 0 7))] sh M := by
  rw [e128]
  simp (disch := omega) only [u128_0, u128_1, u128_2, u128_3, u128_6, u128_9, m_inN, gb_01, gfv_s, gfv_n, gop1_s, nI_add, pk_mul, nIcl, vinT, nIle, nIlt, nIeq, true_and, and_true, List.cons_append, List.nil_append, List.length_nil, List.length_cons, Nat.zero_le, Nat.reduceLeDiff, Nat.reduceAdd, Nat.reduceMul]
theorem m_isPlace : gcl (d + 2) 146 [.int x] sh M Q = Q [.int (gb (gIn x 0 11))] sh M := by
  rw [e146]
  simp (disch := omega) only [u146_0, u146_1, u146_2, u146_3, u146_6, u146_9, m_inN, gb_01, gfv_s, gfv_n, gop1_s, nI_add, pk_mul, nIcl, vinT, nIle, nIlt, nIeq, true_and, and_true, List.cons_append, List.nil_append, List.length_nil, List.length_cons, Nat.zero_le, Nat.reduceLeDiff, Nat.reduceAdd, Nat.reduceMul]
theorem m_isFar : gcl (d + 2) 170 [.int x] sh M Q = Q [.int (gb (gIn x 0 30))] sh M := by
  rw [e170]
  simp (disch := omega) only [u170_0, u170_1, u170_2, u170_3, u170_6, u170_9, m_inN, gb_01, gfv_s, gfv_n, gop1_s, nI_add, pk_mul, nIcl, vinT, nIle, nIlt, nIeq, true_and, and_true, List.cons_append, List.nil_append, List.length_nil, List.length_cons, Nat.zero_le, Nat.reduceLeDiff, Nat.reduceAdd, Nat.reduceMul]
theorem m_isWhat : gcl (d + 2) 171 [.int x] sh M Q = Q [.int (gb (gIn x 0 1))] sh M := by
  rw [e171]
  simp (disch := omega) only [u171_0, u171_1, u171_2, u171_3, u171_4, u171_7, m_inN, gb_01, gfv_s, gfv_n, gop1_s, nI_add, pk_mul, nIcl, vinT, nIle, nIlt, nIeq, true_and, and_true, List.cons_append, List.nil_append, List.length_nil, List.length_cons, Nat.zero_le, Nat.reduceLeDiff, Nat.reduceAdd, Nat.reduceMul]
theorem m_isTree {m : Nat} (hm : M 33 2 = nI m) (h9 : m < 1000) : gcl (d + 2) 147 [.ref 29, .int x] (gSH ++ rs) M Q = Q [.int (gb (gHo x m 1))] (gSH ++ rs) M := by
  rw [e147]
  simp (disch := omega) only [u147_0, u147_1, u147_2, u147_3, u147_4, u147_7, u147_8, u147_9, u147_10, u147_11, u147_12, u147_15, kc29, ks29_0, ks29_1, ks29_2, ks29_3, ks29_4, ks29_5, ks29_6, ks29_7, ks29_8, ks29_9, ks29_10, ks29_11, ks29_12, ks29_13, ks29_14, ks29_15, ks29_16, ks29_17, ks29_18, ks29_19, ks29_20, ks29_21, ks29_22, ks29_23, ks29_24, kk33, kl33, hm, m_inS, gb_01, gfv_s, gfv_n, gop1_s, nI_add, pk_mul, nIcl, vinT, nIle, nIlt, nIeq, true_and, and_true, List.cons_append, List.nil_append, List.length_nil, List.length_cons, Nat.zero_le, Nat.reduceLeDiff, Nat.reduceAdd, Nat.reduceMul]
theorem m_isHouse {m : Nat} (hm : M 33 3 = nI m) (h9 : m < 1000) : gcl (d + 2) 148 [.ref 29, .int x] (gSH ++ rs) M Q = Q [.int (gb (gHo x m 1))] (gSH ++ rs) M := by
  rw [e148]
  simp (disch := omega) only [u148_0, u148_1, u148_2, u148_3, u148_4, u148_7, u148_8, u148_9, u148_10, u148_11, u148_12, u148_15, kc29, ks29_0, ks29_1, ks29_2, ks29_3, ks29_4, ks29_5, ks29_6, ks29_7, ks29_8, ks29_9, ks29_10, ks29_11, ks29_12, ks29_13, ks29_14, ks29_15, ks29_16, ks29_17, ks29_18, ks29_19, ks29_20, ks29_21, ks29_22, ks29_23, ks29_24, kk33, kl33, hm, m_inS, gb_01, gfv_s, gfv_n, gop1_s, nI_add, pk_mul, nIcl, vinT, nIle, nIlt, nIeq, true_and, and_true, List.cons_append, List.nil_append, List.length_nil, List.length_cons, Nat.zero_le, Nat.reduceLeDiff, Nat.reduceAdd, Nat.reduceMul]
theorem c_isTree {m : Nat} (hm : M 16 1 = nI m) (h9 : m < 1000) : gcl (d + 2) 110 [.ref 0, .int x] (gSH ++ rs) M Q = Q [.int (gb (gHo x m 1))] (gSH ++ rs) M := by
  rw [e110]
  simp (disch := omega) only [u110_0, u110_1, u110_4, u110_5, u110_6, u110_9, u110_12, u110_15, u110_16, u110_19, u110_20, kc0, ks0_0, ks0_1, ks0_2, ks0_3, ks0_4, ks0_5, ks0_6, ks0_7, ks0_8, ks0_9, ks0_10, kc15, ks15_0, ks15_1, ks15_2, c_trees (gHl_now rs), hm, nb0, nb1, xlt0, xge, gfv_s, gfv_n, gop1_s, nI_add, pk_mul, nIcl, vinT, nIle, nIlt, nIeq, true_and, and_true, List.cons_append, List.nil_append, List.length_nil, List.length_cons, Nat.zero_le, Nat.reduceLeDiff, Nat.reduceAdd, Nat.reduceMul]
  cases h : gHo x m 1
  · rw [gb_f]
    have := of_decide_eq_false h
    by_cases q : x.toInt < 0
    · exact propext ⟨fun z => z.1 q, fun z => ⟨fun _ => z, fun z2 => absurd q z2⟩⟩
    · exact propext ⟨fun z => (z.2 q).1 (by omega), fun z => ⟨fun _ => z, fun _ => ⟨fun _ => z, fun z2 => absurd (by omega) z2⟩⟩⟩
  · rw [gb_t]
    have := of_decide_eq_true h
    exact propext ⟨fun z => (z.2 (by omega)).2 (by omega), fun z => ⟨fun q => absurd q (by omega), fun _ => ⟨fun q => absurd q (by omega), fun _ => z⟩⟩⟩
theorem c_isHouse {m : Nat} (hm : M 16 2 = nI m) (h9 : m < 1000) : gcl (d + 2) 111 [.ref 0, .int x] (gSH ++ rs) M Q = Q [.int (gb (gHo x m 1))] (gSH ++ rs) M := by
  rw [e111]
  simp (disch := omega) only [u111_0, u111_1, u111_4, u111_5, u111_6, u111_9, u111_12, u111_15, u111_16, u111_19, u111_20, kc0, ks0_0, ks0_1, ks0_2, ks0_3, ks0_4, ks0_5, ks0_6, ks0_7, ks0_8, ks0_9, ks0_10, kc15, ks15_0, ks15_1, ks15_2, c_houses (gHl_now rs), hm, nb0, nb1, xlt0, xge, gfv_s, gfv_n, gop1_s, nI_add, pk_mul, nIcl, vinT, nIle, nIlt, nIeq, true_and, and_true, List.cons_append, List.nil_append, List.length_nil, List.length_cons, Nat.zero_le, Nat.reduceLeDiff, Nat.reduceAdd, Nat.reduceMul]
  cases h : gHo x m 1
  · rw [gb_f]
    have := of_decide_eq_false h
    by_cases q : x.toInt < 0
    · exact propext ⟨fun z => z.1 q, fun z => ⟨fun _ => z, fun z2 => absurd q z2⟩⟩
    · exact propext ⟨fun z => (z.2 q).1 (by omega), fun z => ⟨fun _ => z, fun _ => ⟨fun _ => z, fun z2 => absurd (by omega) z2⟩⟩⟩
  · rw [gb_t]
    have := of_decide_eq_true h
    exact propext ⟨fun z => (z.2 (by omega)).2 (by omega), fun z => ⟨fun q => absurd q (by omega), fun _ => ⟨fun q => absurd q (by omega), fun _ => z⟩⟩⟩
theorem c_isLightAhead {y z : Int32} : gcl (d + 2) 109 [.int x, .int y, .int z] sh M Q = Q [.int (gb (gIn x 0 11 && gIn y 0 4 && gIn z 0 30))] sh M := by
  rw [e109]
  cases h1 : gIn x 0 11 <;> cases h2 : gIn y 0 4 <;> cases h3 : gIn z 0 30 <;> simp (disch := omega) only [u109_0, u109_1, u109_3, u109_6, u109_9, u109_10, u109_11, u109_14, u109_17, u109_18, u109_20, u109_23, u109_26, u109_27, u109_30, u109_31, c_upTo, h1, h2, h3, gb_t, gb_f, n11, true_or, false_or, z0, z1, Bool.and_true, Bool.and_false, Bool.true_and, Bool.false_and, true_implies, false_implies, not_true_eq_false, not_false_eq_true, Bool.true_eq_false, Bool.false_eq_true, eq_self, and_self, Nat.reduceEqDiff, Nat.reduceLT, gfv_s, gfv_n, gop1_s, nI_add, pk_mul, nIcl, vinT, nIle, nIlt, nIeq, true_and, and_true, List.cons_append, List.nil_append, List.length_nil, List.length_cons, Nat.zero_le, Nat.reduceLeDiff, Nat.reduceAdd, Nat.reduceMul]
theorem c_found : gcl (d + 1) 112 [.ref 0, .int x] (gSH ++ rs) M Q = Q [.int ((-1000010) - x)] (gSH ++ rs) (gr M 0 (upd (M 0) 10 x)) := by
  rw [e112]
  simp (disch := omega) only [u112_0, u112_1, u112_2, u112_5, u112_8, u112_9, u112_10, kc0, ks0_0, ks0_1, ks0_2, ks0_3, ks0_4, ks0_5, ks0_6, ks0_7, ks0_8, ks0_9, ks0_10, gfv_s, gfv_n, gop1_s, nI_add, pk_mul, nIcl, vinT, nIle, nIlt, nIeq, true_and, and_true, List.cons_append, List.nil_append, List.length_nil, List.length_cons, Nat.zero_le, Nat.reduceLeDiff, Nat.reduceAdd, Nat.reduceMul]
theorem c_fine : gcl (d + 1) 113 [.ref 0, .int x] (gSH ++ rs) M Q = Q [.int x] (gSH ++ rs) (gr M 0 (upd (M 0) 10 (nI 0))) := by
  rw [e113]
  simp (disch := omega) only [u113_0, u113_1, u113_2, u113_5, u113_6, kc0, ks0_0, ks0_1, ks0_2, ks0_3, ks0_4, ks0_5, ks0_6, ks0_7, ks0_8, ks0_9, ks0_10, gfv_s, gfv_n, gop1_s, nI_add, pk_mul, nIcl, vinT, nIle, nIlt, nIeq, true_and, and_true, List.cons_append, List.nil_append, List.length_nil, List.length_cons, Nat.zero_le, Nat.reduceLeDiff, Nat.reduceAdd, Nat.reduceMul]
theorem m_find : gcl (d + 1) 126 [.ref 29, .int x] (gSH ++ rs) M Q = Q [.int ((-1000010) - x)] (gSH ++ rs) (gr M 29 (upd (M 29) 3 x)) := by
  rw [e126]
  simp (disch := omega) only [u126_0, u126_1, u126_2, u126_5, u126_7, u126_8, u126_9, kc29, ks29_0, ks29_1, ks29_2, ks29_3, ks29_4, ks29_5, ks29_6, ks29_7, ks29_8, ks29_9, ks29_10, ks29_11, ks29_12, ks29_13, ks29_14, ks29_15, ks29_16, ks29_17, ks29_18, ks29_19, ks29_20, ks29_21, ks29_22, ks29_23, ks29_24, gfv_s, gfv_n, gop1_s, nI_add, pk_mul, nIcl, vinT, nIle, nIlt, nIeq, true_and, and_true, List.cons_append, List.nil_append, List.length_nil, List.length_cons, Nat.zero_le, Nat.reduceLeDiff, Nat.reduceAdd, Nat.reduceMul]
theorem m_well : gcl (d + 1) 127 [.ref 29, .int x] (gSH ++ rs) M Q = Q [.int x] (gSH ++ rs) (gr M 29 (upd (M 29) 3 (nI 0))) := by
  rw [e127]
  simp (disch := omega) only [u127_0, u127_1, u127_2, u127_5, u127_6, kc29, ks29_0, ks29_1, ks29_2, ks29_3, ks29_4, ks29_5, ks29_6, ks29_7, ks29_8, ks29_9, ks29_10, ks29_11, ks29_12, ks29_13, ks29_14, ks29_15, ks29_16, ks29_17, ks29_18, ks29_19, ks29_20, ks29_21, ks29_22, ks29_23, ks29_24, gfv_s, gfv_n, gop1_s, nI_add, pk_mul, nIcl, vinT, nIle, nIlt, nIeq, true_and, and_true, List.cons_append, List.nil_append, List.length_nil, List.length_cons, Nat.zero_le, Nat.reduceLeDiff, Nat.reduceAdd, Nat.reduceMul]
end G50
theorem m1lt : ((-1 : Int32) < 0) = True := eq_true (by decide)
theorem m1ge : (0 ≤ (-1 : Int32)) = False := eq_false (by decide)
theorem nIm1 {n : Nat} (h : n < 2147483648) : ¬ nI n = -1 := fun q => by
  have := congrArg (fun x : Int32 => x < 0) q
  rw [nlt0 h, m1lt] at this
  exact Eq.mpr this trivial
