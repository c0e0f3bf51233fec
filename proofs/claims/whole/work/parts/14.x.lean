/-! one row for each kind of instruction: what the small machine does there, as an equation -/
section GX
variable {C : gCa} {X : Nat × (Nat → Int32)} {mi pc n a b : Nat} {z : Int} {lv lv' : gL} {st : List Value} {sh : gS} {M : gM} {kc ks : Nat} {Q : gQ}
theorem gopt {mi pc : Nat} {T : List (Nat × gE)} {e : gE} (h : gTs.getD mi [] = T) (h2 : glk T pc = some e) : gop mi pc = some e := by unfold gop; rw [h]; exact h2
theorem x_iconst (hC : gCm C) {v : Int} {c : Int32} {t : Nat} (ho : gop mi pc = some (.iconst v, n, a, b, z)) (hc : Int32.ofInt v = c) (ht : pc + n = t) : gR C X mi pc lv st sh M kc ks Q = gR C X mi t lv (.int c :: st) sh M kc ks Q := by subst hc; subst ht; exact gfx hC ho
theorem x_bipush (hC : gCm C) {v : Int} {c : Int32} {t : Nat} (ho : gop mi pc = some (.bipush v, n, a, b, z)) (hc : (Int8.ofInt v).toInt32 = c) (ht : pc + n = t) : gR C X mi pc lv st sh M kc ks Q = gR C X mi t lv (.int c :: st) sh M kc ks Q := by subst hc; subst ht; exact gfx hC ho
theorem x_sipush (hC : gCm C) {v : Int} {c : Int32} {t : Nat} (ho : gop mi pc = some (.sipush v, n, a, b, z)) (hc : (Int16.ofInt v).toInt32 = c) (ht : pc + n = t) : gR C X mi pc lv st sh M kc ks Q = gR C X mi t lv (.int c :: st) sh M kc ks Q := by subst hc; subst ht; exact gfx hC ho
theorem x_ldc (hC : gCm C) {k : Nat} {c : Int32} {t : Nat} (ho : gop mi pc = some (.ldc k, n, a, b, z)) (hc : Int32.ofInt z = c) (ht : pc + n = t) : gR C X mi pc lv st sh M kc ks Q = gR C X mi t lv (.int c :: st) sh M kc ks Q := by subst hc; subst ht; exact gfx hC ho
theorem x_ldc_w (hC : gCm C) {k : Nat} {c : Int32} {t : Nat} (ho : gop mi pc = some (.ldc_w k, n, a, b, z)) (hc : Int32.ofInt z = c) (ht : pc + n = t) : gR C X mi pc lv st sh M kc ks Q = gR C X mi t lv (.int c :: st) sh M kc ks Q := by subst hc; subst ht; exact gfx hC ho
theorem x_lconst (hC : gCm C) {v : Fin 2} {c : Int64} {t : Nat} (ho : gop mi pc = some (.lconst v, n, a, b, z)) (hc : Int64.ofNat (v : Nat) = c) (ht : pc + n = t) : gR C X mi pc lv st sh M kc ks Q = gR C X mi t lv (.long c :: st) sh M kc ks Q := by subst hc; subst ht; exact gfx hC ho
theorem x_ldc2_w (hC : gCm C) {k : Nat} {c : Int64} {t : Nat} (ho : gop mi pc = some (.ldc2_w k, n, a, b, z)) (hc : Int64.ofInt z = c) (ht : pc + n = t) : gR C X mi pc lv st sh M kc ks Q = gR C X mi t lv (.long c :: st) sh M kc ks Q := by subst hc; subst ht; exact gfx hC ho
theorem x_iload (hC : gCm C) {k t : Nat} {x : Int32} (ho : gop mi pc = some (.iload k, n, a, b, z)) (hk : lv[k]? = some (some (.int x))) (ht : pc + n = t) : gR C X mi pc lv st sh M kc ks Q = gR C X mi t lv (.int x :: st) sh M kc ks Q := by
  subst ht; rw [gfx hC ho]; show gldi _ _ _ = _; unfold gldi; rw [hk]
theorem x_iload_n (hC : gCm C) {k : Fin 4} {t : Nat} {x : Int32} (ho : gop mi pc = some (.iload_n k, n, a, b, z)) (hk : lv[k.val]? = some (some (.int x))) (ht : pc + n = t) : gR C X mi pc lv st sh M kc ks Q = gR C X mi t lv (.int x :: st) sh M kc ks Q := by
  subst ht; rw [gfx hC ho]; show gldi _ _ _ = _; unfold gldi; rw [hk]
theorem x_lload (hC : gCm C) {k t : Nat} {x : Int64} (ho : gop mi pc = some (.lload k, n, a, b, z)) (hk : lv[k]? = some (some (.long x))) (ht : pc + n = t) : gR C X mi pc lv st sh M kc ks Q = gR C X mi t lv (.long x :: st) sh M kc ks Q := by
  subst ht; rw [gfx hC ho]; show gldl _ _ _ = _; unfold gldl; rw [hk]
theorem x_lload_n (hC : gCm C) {k : Fin 4} {t : Nat} {x : Int64} (ho : gop mi pc = some (.lload_n k, n, a, b, z)) (hk : lv[k.val]? = some (some (.long x))) (ht : pc + n = t) : gR C X mi pc lv st sh M kc ks Q = gR C X mi t lv (.long x :: st) sh M kc ks Q := by
  subst ht; rw [gfx hC ho]; show gldl _ _ _ = _; unfold gldl; rw [hk]
theorem x_aload_n (hC : gCm C) {k : Fin 4} {t o : Nat} (ho : gop mi pc = some (.aload_n k, n, a, b, z)) (hk : lv[k.val]? = some (some (.ref o))) (ht : pc + n = t) : gR C X mi pc lv st sh M kc ks Q = gR C X mi t lv (.ref o :: st) sh M kc ks Q := by
  subst ht; rw [gfx hC ho]; simp only [gstep, glda, hk]
theorem x_aload_nf (hC : gCm C) {k : Fin 4} {t : Nat} {o : UInt32} (ho : gop mi pc = some (.aload_n k, n, a, b, z)) (hk : lv[k.val]? = some (some (.float o))) (ht : pc + n = t) : gR C X mi pc lv st sh M kc ks Q = gR C X mi t lv (.float o :: st) sh M kc ks Q := by
  subst ht; rw [gfx hC ho]; simp only [gstep, glda, hk]
theorem x_istore (hC : gCm C) {k t : Nat} {x : Int32} (ho : gop mi pc = some (.istore k, n, a, b, z)) (hl : lv.set k (some (.int x)) = lv') (ht : pc + n = t) : gR C X mi pc lv (.int x :: st) sh M kc ks Q = gR C X mi t lv' st sh M kc ks Q := by
  subst ht; subst hl; exact gfx hC ho
theorem x_istore_n (hC : gCm C) {k : Fin 4} {t : Nat} {x : Int32} (ho : gop mi pc = some (.istore_n k, n, a, b, z)) (hl : lv.set k.val (some (.int x)) = lv') (ht : pc + n = t) : gR C X mi pc lv (.int x :: st) sh M kc ks Q = gR C X mi t lv' st sh M kc ks Q := by
  subst ht; subst hl; exact gfx hC ho
theorem x_astore_n (hC : gCm C) {k : Fin 4} {t x : Nat} (ho : gop mi pc = some (.astore_n k, n, a, b, z)) (hl : lv.set k.val (some (.ref x)) = lv') (ht : pc + n = t) : gR C X mi pc lv (.ref x :: st) sh M kc ks Q = gR C X mi t lv' st sh M kc ks Q := by
  subst ht; subst hl; exact gfx hC ho
theorem x_astore_nf (hC : gCm C) {k : Fin 4} {t : Nat} {x : UInt32} (ho : gop mi pc = some (.astore_n k, n, a, b, z)) (hl : lv.set k.val (some (.float x)) = lv') (ht : pc + n = t) : gR C X mi pc lv (.float x :: st) sh M kc ks Q = gR C X mi t lv' st sh M kc ks Q := by
  subst ht; subst hl; exact gfx hC ho
theorem x_iinc (hC : gCm C) {k t : Nat} {v : Int} {x c : Int32} (ho : gop mi pc = some (.iinc k v, n, a, b, z)) (hk : lv[k]? = some (some (.int x))) (hc : Int32.ofInt v = c) (hl : lv.set k (some (.int (x + c))) = lv') (ht : pc + n = t) : gR C X mi pc lv st sh M kc ks Q = gR C X mi t lv' st sh M kc ks Q := by
  subst ht; subst hl; subst hc; rw [gfx hC ho]; show gldi _ _ _ = _; unfold gldi; rw [hk]
theorem x_iadd (hC : gCm C) {t : Nat} {x y : Int32} (ho : gop mi pc = some (.iadd, n, a, b, z)) (ht : pc + n = t) : gR C X mi pc lv (.int y :: .int x :: st) sh M kc ks Q = gR C X mi t lv (.int (x + y) :: st) sh M kc ks Q := by subst ht; exact gfx hC ho
theorem x_isub (hC : gCm C) {t : Nat} {x y : Int32} (ho : gop mi pc = some (.isub, n, a, b, z)) (ht : pc + n = t) : gR C X mi pc lv (.int y :: .int x :: st) sh M kc ks Q = gR C X mi t lv (.int (x - y) :: st) sh M kc ks Q := by subst ht; exact gfx hC ho
theorem x_imul (hC : gCm C) {t : Nat} {x y : Int32} (ho : gop mi pc = some (.imul, n, a, b, z)) (ht : pc + n = t) : gR C X mi pc lv (.int y :: .int x :: st) sh M kc ks Q = gR C X mi t lv (.int (x * y) :: st) sh M kc ks Q := by subst ht; exact gfx hC ho
theorem x_iand (hC : gCm C) {t : Nat} {x y : Int32} (ho : gop mi pc = some (.iand, n, a, b, z)) (ht : pc + n = t) : gR C X mi pc lv (.int y :: .int x :: st) sh M kc ks Q = gR C X mi t lv (.int (x &&& y) :: st) sh M kc ks Q := by subst ht; exact gfx hC ho
theorem x_ior (hC : gCm C) {t : Nat} {x y : Int32} (ho : gop mi pc = some (.ior, n, a, b, z)) (ht : pc + n = t) : gR C X mi pc lv (.int y :: .int x :: st) sh M kc ks Q = gR C X mi t lv (.int (x ||| y) :: st) sh M kc ks Q := by subst ht; exact gfx hC ho
theorem x_ishl (hC : gCm C) {t : Nat} {x y : Int32} (ho : gop mi pc = some (.ishl, n, a, b, z)) (ht : pc + n = t) : gR C X mi pc lv (.int y :: .int x :: st) sh M kc ks Q = gR C X mi t lv (.int (x <<< (y &&& 31)) :: st) sh M kc ks Q := by subst ht; exact gfx hC ho
theorem x_ishr (hC : gCm C) {t : Nat} {x y : Int32} (ho : gop mi pc = some (.ishr, n, a, b, z)) (ht : pc + n = t) : gR C X mi pc lv (.int y :: .int x :: st) sh M kc ks Q = gR C X mi t lv (.int (x >>> (y &&& 31)) :: st) sh M kc ks Q := by subst ht; exact gfx hC ho
theorem x_iushr (hC : gCm C) {t : Nat} {x y : Int32} (ho : gop mi pc = some (.iushr, n, a, b, z)) (ht : pc + n = t) : gR C X mi pc lv (.int y :: .int x :: st) sh M kc ks Q = gR C X mi t lv (.int ((x.toUInt32 >>> (y.toUInt32 &&& Int32.toUInt32 31)).toInt32) :: st) sh M kc ks Q := by subst ht; exact gfx hC ho
theorem x_idiv (hC : gCm C) {t : Nat} {x y : Int32} (ho : gop mi pc = some (.idiv, n, a, b, z)) (ht : pc + n = t) : gR C X mi pc lv (.int y :: .int x :: st) sh M kc ks Q = (¬ y = 0 ∧ gR C X mi t lv (.int (x / y) :: st) sh M kc ks Q) := by subst ht; exact gfx hC ho
theorem x_irem (hC : gCm C) {t : Nat} {x y : Int32} (ho : gop mi pc = some (.irem, n, a, b, z)) (ht : pc + n = t) : gR C X mi pc lv (.int y :: .int x :: st) sh M kc ks Q = (¬ y = 0 ∧ gR C X mi t lv (.int (x - x / y * y) :: st) sh M kc ks Q) := by subst ht; exact gfx hC ho
theorem x_ineg (hC : gCm C) {t : Nat} {x : Int32} (ho : gop mi pc = some (.ineg, n, a, b, z)) (ht : pc + n = t) : gR C X mi pc lv (.int x :: st) sh M kc ks Q = gR C X mi t lv (.int (-x) :: st) sh M kc ks Q := by subst ht; exact gfx hC ho
theorem x_i2l (hC : gCm C) {t : Nat} {x : Int32} (ho : gop mi pc = some (.i2l, n, a, b, z)) (ht : pc + n = t) : gR C X mi pc lv (.int x :: st) sh M kc ks Q = gR C X mi t lv (.long x.toInt64 :: st) sh M kc ks Q := by subst ht; exact gfx hC ho
theorem x_i2b (hC : gCm C) {t : Nat} {x : Int32} (ho : gop mi pc = some (.i2b, n, a, b, z)) (ht : pc + n = t) : gR C X mi pc lv (.int x :: st) sh M kc ks Q = gR C X mi t lv (.int x.toInt8.toInt32 :: st) sh M kc ks Q := by subst ht; exact gfx hC ho
theorem x_i2s (hC : gCm C) {t : Nat} {x : Int32} (ho : gop mi pc = some (.i2s, n, a, b, z)) (ht : pc + n = t) : gR C X mi pc lv (.int x :: st) sh M kc ks Q = gR C X mi t lv (.int x.toInt16.toInt32 :: st) sh M kc ks Q := by subst ht; exact gfx hC ho
theorem x_lsub (hC : gCm C) {t : Nat} {x y : Int64} (ho : gop mi pc = some (.lsub, n, a, b, z)) (ht : pc + n = t) : gR C X mi pc lv (.long y :: .long x :: st) sh M kc ks Q = gR C X mi t lv (.long (x - y) :: st) sh M kc ks Q := by subst ht; exact gfx hC ho
theorem x_lcmp (hC : gCm C) {t : Nat} {x y : Int64} (ho : gop mi pc = some (.lcmp, n, a, b, z)) (ht : pc + n = t) : gR C X mi pc lv (.long y :: .long x :: st) sh M kc ks Q = gR C X mi t lv (.int (lg_cmp x y) :: st) sh M kc ks Q := by subst ht; exact gfx hC ho
theorem x_dupi (hC : gCm C) {t : Nat} {v : Int32} (ho : gop mi pc = some (.dup, n, a, b, z)) (ht : pc + n = t) : gR C X mi pc lv (.int v :: st) sh M kc ks Q = gR C X mi t lv (.int v :: .int v :: st) sh M kc ks Q := by
  subst ht; rw [gfx hC ho]; exact propext ⟨fun h => h.2, fun h => ⟨rfl, h⟩⟩
theorem x_dupr (hC : gCm C) {t : Nat} {v : Nat} (ho : gop mi pc = some (.dup, n, a, b, z)) (ht : pc + n = t) : gR C X mi pc lv (.ref v :: st) sh M kc ks Q = gR C X mi t lv (.ref v :: .ref v :: st) sh M kc ks Q := by
  subst ht; rw [gfx hC ho]; exact propext ⟨fun h => h.2, fun h => ⟨rfl, h⟩⟩
theorem x_pop (hC : gCm C) {t : Nat} {x : Int32} (ho : gop mi pc = some (.pop, n, a, b, z)) (ht : pc + n = t) : gR C X mi pc lv (.int x :: st) sh M kc ks Q = gR C X mi t lv st sh M kc ks Q := by
  subst ht; rw [gfx hC ho]; exact propext ⟨fun h => h.2, fun h => ⟨rfl, h⟩⟩
theorem x_dup2 (hC : gCm C) {t o : Nat} {x : Int32} (ho : gop mi pc = some (.dup2, n, a, b, z)) (ht : pc + n = t) : gR C X mi pc lv (.int x :: .ref o :: st) sh M kc ks Q = gR C X mi t lv (.int x :: .ref o :: .int x :: .ref o :: st) sh M kc ks Q := by
  subst ht; rw [gfx hC ho]; exact propext ⟨fun h => h.2, fun h => ⟨⟨rfl, rfl⟩, h⟩⟩
theorem x_if_eq (hC : gCm C) {t : Nat} {off : Int} {x y : Int32} (ho : gop mi pc = some (.ifCond .eq off, n, a, b, z)) (ht : pc + n = t) : gR C X mi pc lv (.int x :: st) sh M kc ks Q = ((x = 0 → gR C X mi a lv st sh M kc ks Q) ∧ (¬ x = 0 → gR C X mi t lv st sh M kc ks Q)) := by subst ht; exact gfx hC ho
theorem x_icmp_eq (hC : gCm C) {t : Nat} {off : Int} {x y : Int32} (ho : gop mi pc = some (.if_icmp .eq off, n, a, b, z)) (ht : pc + n = t) : gR C X mi pc lv (.int y :: .int x :: st) sh M kc ks Q = ((x = y → gR C X mi a lv st sh M kc ks Q) ∧ (¬ x = y → gR C X mi t lv st sh M kc ks Q)) := by subst ht; exact gfx hC ho
theorem x_if_ne (hC : gCm C) {t : Nat} {off : Int} {x y : Int32} (ho : gop mi pc = some (.ifCond .ne off, n, a, b, z)) (ht : pc + n = t) : gR C X mi pc lv (.int x :: st) sh M kc ks Q = ((x = 0 → gR C X mi t lv st sh M kc ks Q) ∧ (¬ x = 0 → gR C X mi a lv st sh M kc ks Q)) := by
  subst ht; rw [gfx hC ho]; exact propext ⟨fun h => ⟨fun q => h.2 (fun w => w q), fun q => h.1 q⟩, fun h => ⟨fun q => h.2 q, fun q => h.1 (Classical.not_not.mp q)⟩⟩
theorem x_icmp_ne (hC : gCm C) {t : Nat} {off : Int} {x y : Int32} (ho : gop mi pc = some (.if_icmp .ne off, n, a, b, z)) (ht : pc + n = t) : gR C X mi pc lv (.int y :: .int x :: st) sh M kc ks Q = ((x = y → gR C X mi t lv st sh M kc ks Q) ∧ (¬ x = y → gR C X mi a lv st sh M kc ks Q)) := by
  subst ht; rw [gfx hC ho]; exact propext ⟨fun h => ⟨fun q => h.2 (fun w => w q), fun q => h.1 q⟩, fun h => ⟨fun q => h.2 q, fun q => h.1 (Classical.not_not.mp q)⟩⟩
theorem x_if_lt (hC : gCm C) {t : Nat} {off : Int} {x y : Int32} (ho : gop mi pc = some (.ifCond .lt off, n, a, b, z)) (ht : pc + n = t) : gR C X mi pc lv (.int x :: st) sh M kc ks Q = ((x < 0 → gR C X mi a lv st sh M kc ks Q) ∧ (¬ x < 0 → gR C X mi t lv st sh M kc ks Q)) := by subst ht; exact gfx hC ho
theorem x_icmp_lt (hC : gCm C) {t : Nat} {off : Int} {x y : Int32} (ho : gop mi pc = some (.if_icmp .lt off, n, a, b, z)) (ht : pc + n = t) : gR C X mi pc lv (.int y :: .int x :: st) sh M kc ks Q = ((x < y → gR C X mi a lv st sh M kc ks Q) ∧ (¬ x < y → gR C X mi t lv st sh M kc ks Q)) := by subst ht; exact gfx hC ho
theorem x_if_ge (hC : gCm C) {t : Nat} {off : Int} {x y : Int32} (ho : gop mi pc = some (.ifCond .ge off, n, a, b, z)) (ht : pc + n = t) : gR C X mi pc lv (.int x :: st) sh M kc ks Q = ((0 ≤ x → gR C X mi a lv st sh M kc ks Q) ∧ (¬ 0 ≤ x → gR C X mi t lv st sh M kc ks Q)) := by subst ht; exact gfx hC ho
theorem x_icmp_ge (hC : gCm C) {t : Nat} {off : Int} {x y : Int32} (ho : gop mi pc = some (.if_icmp .ge off, n, a, b, z)) (ht : pc + n = t) : gR C X mi pc lv (.int y :: .int x :: st) sh M kc ks Q = ((y ≤ x → gR C X mi a lv st sh M kc ks Q) ∧ (¬ y ≤ x → gR C X mi t lv st sh M kc ks Q)) := by subst ht; exact gfx hC ho
theorem x_if_gt (hC : gCm C) {t : Nat} {off : Int} {x y : Int32} (ho : gop mi pc = some (.ifCond .gt off, n, a, b, z)) (ht : pc + n = t) : gR C X mi pc lv (.int x :: st) sh M kc ks Q = ((0 < x → gR C X mi a lv st sh M kc ks Q) ∧ (¬ 0 < x → gR C X mi t lv st sh M kc ks Q)) := by subst ht; exact gfx hC ho
theorem x_icmp_gt (hC : gCm C) {t : Nat} {off : Int} {x y : Int32} (ho : gop mi pc = some (.if_icmp .gt off, n, a, b, z)) (ht : pc + n = t) : gR C X mi pc lv (.int y :: .int x :: st) sh M kc ks Q = ((y < x → gR C X mi a lv st sh M kc ks Q) ∧ (¬ y < x → gR C X mi t lv st sh M kc ks Q)) := by subst ht; exact gfx hC ho
theorem x_if_le (hC : gCm C) {t : Nat} {off : Int} {x y : Int32} (ho : gop mi pc = some (.ifCond .le off, n, a, b, z)) (ht : pc + n = t) : gR C X mi pc lv (.int x :: st) sh M kc ks Q = ((x ≤ 0 → gR C X mi a lv st sh M kc ks Q) ∧ (¬ x ≤ 0 → gR C X mi t lv st sh M kc ks Q)) := by subst ht; exact gfx hC ho
theorem x_icmp_le (hC : gCm C) {t : Nat} {off : Int} {x y : Int32} (ho : gop mi pc = some (.if_icmp .le off, n, a, b, z)) (ht : pc + n = t) : gR C X mi pc lv (.int y :: .int x :: st) sh M kc ks Q = ((x ≤ y → gR C X mi a lv st sh M kc ks Q) ∧ (¬ x ≤ y → gR C X mi t lv st sh M kc ks Q)) := by subst ht; exact gfx hC ho
theorem x_goto (hC : gCm C) {off : Int} (ho : gop mi pc = some (.goto off, n, a, b, z)) : gR C X mi pc lv st sh M kc ks Q = gR C X mi a lv st sh M kc ks Q := gfx hC ho
theorem x_tsw (hC : gCm C) {dflt lo hi off : Int} {offs : Array Int} {x : Int32} {t : Nat} (ho : gop mi pc = some (.tableswitch dflt lo hi offs, n, a, b, z)) (h1 : ¬ (x.toInt < lo ∨ hi < x.toInt)) (h2 : offs[(x.toInt - lo).toNat]? = some off) (ht : (pc : Int) + off = (t : Int)) : gR C X mi pc lv (.int x :: st) sh M kc ks Q = gR C X mi t lv st sh M kc ks Q := by
  rw [gfx hC ho]
  refine propext ⟨fun h => ?_, fun h => ⟨fun q => absurd q h1, fun _ => ?_⟩⟩
  · have h3 := h.2 h1
    rw [h2] at h3
    have h4 := h3.2
    rw [ht] at h4
    exact h4
  · rw [h2]
    refine ⟨by rw [ht]; exact Int.natCast_nonneg t, ?_⟩
    rw [ht]
    exact h
theorem x_tswd (hC : gCm C) {dflt lo hi : Int} {offs : Array Int} {x : Int32} {t : Nat} (ho : gop mi pc = some (.tableswitch dflt lo hi offs, n, a, b, z)) (h1 : x.toInt < lo ∨ hi < x.toInt) (ht : (pc : Int) + dflt = (t : Int)) : gR C X mi pc lv (.int x :: st) sh M kc ks Q = gR C X mi t lv st sh M kc ks Q := by
  rw [gfx hC ho]
  refine propext ⟨fun h => ?_, fun h => ⟨fun _ => ⟨by rw [ht]; exact Int.natCast_nonneg t, ?_⟩, fun q => absurd h1 q⟩⟩
  · have h4 := (h.1 h1).2
    rw [ht] at h4
    exact h4
  · rw [ht]
    exact h
theorem x_lsw (hC : gCm C) {dflt off : Int} {ps : Array (Int × Int)} {x : Int32} {t : Nat} (ho : gop mi pc = some (.lookupswitch dflt ps, n, a, b, z)) (h2 : Op.lookupswitch.offset ps.toList dflt x.toInt = off) (ht : (pc : Int) + off = (t : Int)) : gR C X mi pc lv (.int x :: st) sh M kc ks Q = gR C X mi t lv st sh M kc ks Q := by
  rw [gfx hC ho]
  simp only [gstep, gi1, h2]
  refine propext ⟨fun h => ?_, fun h => ⟨by rw [ht]; exact Int.natCast_nonneg t, ?_⟩⟩
  · have h4 := h.2
    rw [ht] at h4
    exact h4
  · rw [ht]
    exact h
theorem x_getf (hC : gCm C) {k t o : Nat} (ho : gop mi pc = some (.getfield k, n, a, b, z)) (ht : pc + n = t) : gR C X mi pc lv (.ref o :: st) sh M kc ks Q = (gci sh o = some a ∧ gfv (gsl sh o b) (M o b) fun v => gR C X mi t lv (v :: st) sh M kc ks Q) := by subst ht; exact gfx hC ho
theorem x_puti (hC : gCm C) {k t o : Nat} {x : Int32} (ho : gop mi pc = some (.putfield k, n, a, b, z)) (hf : gty a b = .int) (ht : pc + n = t) : gR C X mi pc lv (.int x :: .ref o :: st) sh M kc ks Q = ((gci sh o = some a ∧ gsl sh o b = some none) ∧ gR C X mi t lv st sh (gr M o (upd (M o) b x)) kc ks Q) := by
  subst ht; rw [gfx hC ho]
  exact propext ⟨fun h => ⟨h.1.2, h.2⟩, fun h => ⟨⟨Or.inl hf, h.1⟩, h.2⟩⟩
theorem x_putb (hC : gCm C) {k t o : Nat} {x : Int32} (ho : gop mi pc = some (.putfield k, n, a, b, z)) (hf : gty a b = .boolean) (hx : x = 0 ∨ x = 1) (ht : pc + n = t) : gR C X mi pc lv (.int x :: .ref o :: st) sh M kc ks Q = ((gci sh o = some a ∧ gsl sh o b = some none) ∧ gR C X mi t lv st sh (gr M o (upd (M o) b x)) kc ks Q) := by
  subst ht; rw [gfx hC ho]
  exact propext ⟨fun h => ⟨h.1.2, h.2⟩, fun h => ⟨⟨Or.inr ⟨hf, hx⟩, h.1⟩, h.2⟩⟩
theorem x_putr (hC : gCm C) {k t o x : Nat} (ho : gop mi pc = some (.putfield k, n, a, b, z)) (hf : grT a b = true) (ht : pc + n = t) : gR C X mi pc lv (.ref x :: .ref o :: st) sh M kc ks Q = gop1 (gpr sh o a b x) fun sh' => gR C X mi t lv st sh' M kc ks Q := by
  subst ht; rw [gfx hC ho]
  exact propext ⟨fun h => h.2, fun h => ⟨hf, h⟩⟩
theorem x_gets (hC : gCm C) {k t : Nat} {f : UInt32} (ho : gop mi pc = some (.getstatic k, n, a, b, z)) (hf : UInt32.ofNat a = f) (ht : pc + n = t) : gR C X mi pc lv st sh M kc ks Q = gR C X mi t lv (.float f :: st) sh M kc ks Q := by subst ht; subst hf; exact gfx hC ho
theorem x_iald (hC : gCm C) {t o : Nat} {i : Int32} (ho : gop mi pc = some (.iaload, n, a, b, z)) (ht : pc + n = t) : gR C X mi pc lv (.int i :: .ref o :: st) sh M kc ks Q = ((gkd sh o = 0 ∧ vp_in i (gln sh o)) ∧ gR C X mi t lv (.int (M o i.toNatClampNeg) :: st) sh M kc ks Q) := by subst ht; exact gfx hC ho
theorem x_iaro (hC : gCm C) {t : Nat} {k : UInt32} {i : Int32} (ho : gop mi pc = some (.iaload, n, a, b, z)) (ht : pc + n = t) : gR C X mi pc lv (.int i :: .float k :: st) sh M kc ks Q = (vp_in i (gro mi X k).1 ∧ gR C X mi t lv (.int ((gro mi X k).2 i.toNatClampNeg) :: st) sh M kc ks Q) := by subst ht; exact gfx hC ho
theorem x_zald (hC : gCm C) {t o : Nat} {i : Int32} (ho : gop mi pc = some (.baload, n, a, b, z)) (ht : pc + n = t) : gR C X mi pc lv (.int i :: .ref o :: st) sh M kc ks Q = ((gkd sh o = 1 ∧ vp_in i (gln sh o)) ∧ gR C X mi t lv (.int (M o i.toNatClampNeg) :: st) sh M kc ks Q) := by subst ht; exact gfx hC ho
theorem x_aald (hC : gCm C) {t o : Nat} {i : Int32} (ho : gop mi pc = some (.aaload, n, a, b, z)) (ht : pc + n = t) : gR C X mi pc lv (.int i :: .ref o :: st) sh M kc ks Q = ((gkd sh o = 2 ∧ vp_in i (gln sh o)) ∧ gop1 (grf sh o i.toNatClampNeg) fun v => gR C X mi t lv (.ref v :: st) sh M kc ks Q) := by subst ht; exact gfx hC ho
theorem x_iast (hC : gCm C) {t o : Nat} {i x : Int32} (ho : gop mi pc = some (.iastore, n, a, b, z)) (ht : pc + n = t) : gR C X mi pc lv (.int x :: .int i :: .ref o :: st) sh M kc ks Q = ((gkd sh o = 0 ∧ vp_in i (gln sh o)) ∧ gR C X mi t lv st sh (gr M o (upd (M o) i.toNatClampNeg x)) kc ks Q) := by subst ht; exact gfx hC ho
theorem x_zast (hC : gCm C) {t o : Nat} {i x : Int32} (ho : gop mi pc = some (.bastore, n, a, b, z)) (hx : x = 0 ∨ x = 1) (ht : pc + n = t) : gR C X mi pc lv (.int x :: .int i :: .ref o :: st) sh M kc ks Q = ((gkd sh o = 1 ∧ vp_in i (gln sh o)) ∧ gR C X mi t lv st sh (gr M o (upd (M o) i.toNatClampNeg x)) kc ks Q) := by
  subst ht; rw [gfx hC ho]
  exact propext ⟨fun h => ⟨⟨h.1.1, h.1.2.1⟩, h.2⟩, fun h => ⟨⟨h.1.1, h.1.2, hx⟩, h.2⟩⟩
theorem x_alen (hC : gCm C) {t o : Nat} (ho : gop mi pc = some (.arraylength, n, a, b, z)) (ht : pc + n = t) : gR C X mi pc lv (.ref o :: st) sh M kc ks Q = (gkd sh o = 0 ∧ gR C X mi t lv (.int (nI (gln sh o)) :: st) sh M kc ks Q) := by subst ht; exact gfx hC ho
theorem x_alro (hC : gCm C) {t : Nat} {k : UInt32} (ho : gop mi pc = some (.arraylength, n, a, b, z)) (ht : pc + n = t) : gR C X mi pc lv (.float k :: st) sh M kc ks Q = ((¬ (gro mi X k).1 = 0 ∨ (mi = gLAW ∧ k = 0)) ∧ gR C X mi t lv (.int (nI (gro mi X k).1) :: st) sh M kc ks Q) := by subst ht; exact gfx hC ho
theorem x_new (hC : gCm C) {k t : Nat} (ho : gop mi pc = some (.new k, n, a, b, z)) (hN : b = gN a) (ht : pc + n = t) : gR C X mi pc lv st sh M kc ks Q = (gro1 mi kc ks 1 b ∧ gR C X mi t lv (.ref sh.length :: st) (sh ++ [.inr (a, gdf a)]) (gr M sh.length (fun _ => 0)) (kc + 1) (ks + b) Q) := by
  subst ht; rw [gfx hC ho]
  exact propext ⟨fun h => ⟨h.1.2, h.2⟩, fun h => ⟨⟨hN, h.1⟩, h.2⟩⟩
theorem x_newa (hC : gCm C) {t k : Nat} {ty : ArrayType} (ho : gop mi pc = some (.newarray ty, n, a, b, z)) (hk : k ≤ 100000) (ht : pc + n = t) : gR C X mi pc lv (.int (nI k) :: st) sh M kc ks Q = (gro1 mi kc ks 1 k ∧ gR C X mi t lv (.ref sh.length :: st) (sh ++ [.inl (a, k, [])]) (gr M sh.length (fun _ => 0)) (kc + 1) (ks + k) Q) := by
  subst ht; rw [gfx hC ho]
  have e1 : (nI k).toNatClampNeg = k := nI_clamp (by omega)
  simp only [gstep, gi1, e1]
  exact propext ⟨fun h => ⟨h.1.2.2, h.2⟩, fun h => ⟨⟨nI_pos (by omega), hk, h.1⟩, h.2⟩⟩
theorem x_mna (hC : gCm C) {t k d : Nat} {i j : Nat} (ho : gop mi pc = some (.multianewarray k d, n, a, b, z)) (hi : i ≤ 1000) (hj : j ≤ 1000) (ht : pc + n = t) : gR C X mi pc lv (.int (nI j) :: .int (nI i) :: st) sh M kc ks Q = (gro1 mi kc ks (1 + i) (i + i * j) ∧ gR C X mi t lv (.ref sh.length :: st) (sh ++ .inl (2, i, (List.range i).map (fun q => sh.length + 1 + q)) :: List.replicate i (.inl (0, j, []))) (fun q => if sh.length ≤ q then fun _ => 0 else M q) (kc + 1 + i) (ks + i + i * j) Q) := by
  subst ht; rw [gfx hC ho]
  have e1 : (nI i).toNatClampNeg = i := nI_clamp (by omega)
  have e2 : (nI j).toNatClampNeg = j := nI_clamp (by omega)
  simp only [gstep, gi2, e1, e2]
  exact propext ⟨fun h => ⟨h.1.2.2, h.2⟩, fun h => ⟨⟨⟨nI_pos (by omega), hi⟩, ⟨nI_pos (by omega), hj⟩, h.1⟩, h.2⟩⟩
/-- calls; where neither makes anything -/
theorem x_virt (hC : gCm C) {k t o w : Nat} {st0 As : List Value} (ho : gop mi pc = some (.invokevirtual k, n, a, b, z)) (hst : st0.drop b = .ref o :: st) (hAs : .ref o :: (st0.take b).reverse = As) (hw : gow a = w) (hb : gbu a = (0, 0)) (ht : pc + n = t) : gR C X mi pc lv st0 sh M 0 0 Q = ((gci sh o = some w ∧ st.length ≤ 4) ∧ C a As sh M fun v sh' M' => gR C X mi t lv (v ++ st) sh' M' 0 0 Q) := by
  subst ht; subst hAs; subst hw
  rw [gfx hC ho]
  show gr1 _ _ = _
  unfold gr1
  rw [hst]
  dsimp only
  rw [hb]
  exact propext ⟨fun h => ⟨⟨h.1.1, h.1.2.1⟩, h.2⟩, fun h => ⟨⟨h.1.1, h.1.2, Nat.zero_le _, Nat.zero_le _⟩, h.2⟩⟩
theorem x_virtk (hC : gCm C) {k t o w c s : Nat} {st0 As : List Value} (ho : gop mi pc = some (.invokevirtual k, n, a, b, z)) (hst : st0.drop b = .ref o :: st) (hAs : .ref o :: (st0.take b).reverse = As) (hw : gow a = w) (hb : gbu a = (c, s)) (ht : pc + n = t) : gR C X mi pc lv st0 sh M kc ks Q = ((gci sh o = some w ∧ st.length ≤ 4 ∧ gro1 mi kc ks c s) ∧ C a As sh M fun v sh' M' => gR C X mi t lv (v ++ st) sh' M' (kc + c) (ks + s) Q) := by
  subst ht; subst hAs; subst hw
  rw [gfx hC ho]
  show gr1 _ _ = _
  unfold gr1
  rw [hst]
  dsimp only
  rw [hb]
theorem x_stat (hC : gCm C) {k t : Nat} {st0 As : List Value} (ho : gop mi pc = some (.invokestatic k, n, a, b, z)) (hz : ¬ z = 5) (hst : st0.drop b = st) (hAs : (st0.take b).reverse = As) (hl : b ≤ st0.length) (hb : gbu a = (0, 0)) (ht : pc + n = t) : gR C X mi pc lv st0 sh M 0 0 Q = (st.length ≤ 4 ∧ C a As sh M fun v sh' M' => gR C X mi t lv (v ++ st) sh' M' 0 0 Q) := by
  subst ht; subst hAs; subst hst
  rw [gfx hC ho]
  show (_ ∧ _) = _
  rw [hb]
  exact propext ⟨fun h => ⟨(h.2 hz).1.2.1, (h.2 hz).2⟩, fun h => ⟨fun q => absurd q hz, fun _ => ⟨⟨hl, h.1, Nat.zero_le _, Nat.zero_le _⟩, h.2⟩⟩⟩
theorem x_statk (hC : gCm C) {k t c s : Nat} {st0 As : List Value} (ho : gop mi pc = some (.invokestatic k, n, a, b, z)) (hz : ¬ z = 5) (hst : st0.drop b = st) (hAs : (st0.take b).reverse = As) (hl : b ≤ st0.length) (hb : gbu a = (c, s)) (ht : pc + n = t) : gR C X mi pc lv st0 sh M kc ks Q = ((st.length ≤ 4 ∧ gro1 mi kc ks c s) ∧ C a As sh M fun v sh' M' => gR C X mi t lv (v ++ st) sh' M' (kc + c) (ks + s) Q) := by
  subst ht; subst hAs; subst hst
  rw [gfx hC ho]
  show (_ ∧ _) = _
  rw [hb]
  exact propext ⟨fun h => ⟨(h.2 hz).1.2, (h.2 hz).2⟩, fun h => ⟨fun q => absurd q hz, fun _ => ⟨⟨hl, h.1⟩, h.2⟩⟩⟩
theorem x_ctor (hC : gCm C) {k t o c s : Nat} {st0 As : List Value} (ho : gop mi pc = some (.invokespecial k, n, a, b, z)) (hz : ¬ z = 4) (hst : st0.drop b = .ref o :: st) (hAs : .ref o :: (st0.take b).reverse = As) (hb : gbu a = (c, s)) (ht : pc + n = t) : gR C X mi pc lv st0 sh M kc ks Q = ((st.length ≤ 4 ∧ gro1 mi kc ks c s) ∧ C a As sh M fun v sh' M' => gR C X mi t lv (v ++ st) sh' M' (kc + c) (ks + s) Q) := by
  subst ht; subst hAs
  rw [gfx hC ho]
  show gr1 _ _ = _
  unfold gr1
  rw [hst]
  dsimp only
  rw [hb]
  exact propext ⟨fun h => h.2 hz, fun h => ⟨fun q => absurd q hz, fun _ => h⟩⟩
theorem x_obj (hC : gCm C) {k t o : Nat} (ho : gop mi pc = some (.invokespecial k, n, a, 0, 4)) (ht : pc + n = t) : gR C X mi pc lv (.ref o :: st) sh M kc ks Q = (st.length ≤ 4 ∧ gR C X mi t lv st sh M kc ks Q) := by
  subst ht
  rw [gfx hC ho]
  exact propext ⟨fun h => h.1 rfl, fun h => ⟨fun _ => h, fun q => absurd rfl q⟩⟩
theorem x_copy (hC : gCm C) {k t o1 o0 : Nat} {w dp q : Int32} (ho : gop mi pc = some (.invokestatic k, n, a, b, 5)) (ht : pc + n = t) : gR C X mi pc lv (.int w :: .int dp :: .ref o1 :: .int q :: .ref o0 :: st) sh M kc ks Q = (((gkd sh o0 = 0 ∧ gkd sh o1 = 0) ∧ (¬ q < 0 ∧ ¬ dp < 0 ∧ ¬ w < 0) ∧ q.toNatClampNeg + w.toNatClampNeg ≤ gln sh o0 ∧ dp.toNatClampNeg + w.toNatClampNeg ≤ gln sh o1 ∧ st.length ≤ 4) ∧ gR C X mi t lv st sh (gr M o1 (va_cpy (M o0) (M o1) q.toNatClampNeg dp.toNatClampNeg w.toNatClampNeg)) kc ks Q) := by
  subst ht
  rw [gfx hC ho]
  exact propext ⟨fun h => h.1 rfl, fun h => ⟨fun _ => h, fun q => absurd rfl q⟩⟩
theorem x_ret (hC : gCm C) {x : Int32} (ho : gop mi pc = some (.ireturn, n, a, b, z)) (hr : grt mi = some .int) (hl : ¬ mi = gLAW) (hb : gbu mi = (0, 0)) : gR C X mi pc lv [.int x] sh M 0 0 Q = Q [.int x] sh M := by
  rw [gfx hC ho]
  exact propext ⟨fun h => h.2, fun h => ⟨⟨rfl, Or.inl hr, by unfold gfin; rw [if_neg hl, hb]; exact ⟨rfl, Nat.le_refl _⟩⟩, h⟩⟩
theorem x_retb (hC : gCm C) {x : Int32} (ho : gop mi pc = some (.ireturn, n, a, b, z)) (hr : grt mi = some .boolean) (hl : ¬ mi = gLAW) (hb : gbu mi = (0, 0)) : gR C X mi pc lv [.int x] sh M 0 0 Q = ((x = 0 ∨ x = 1) ∧ Q [.int x] sh M) := by
  rw [gfx hC ho]
  refine propext ⟨fun h => ⟨?_, h.2⟩, fun h => ⟨⟨rfl, Or.inr ⟨hr, h.1⟩, by unfold gfin; rw [if_neg hl, hb]; exact ⟨rfl, Nat.le_refl _⟩⟩, h.2⟩⟩
  rcases h.1.2.1 with q | q
  · rw [hr] at q; cases q
  · exact q.2
theorem x_retk (hC : gCm C) {x : Int32} (ho : gop mi pc = some (.ireturn, n, a, b, z)) (hr : grt mi = some .int ∨ (grt mi = some .boolean ∧ (x = 0 ∨ x = 1))) : gR C X mi pc lv [.int x] sh M kc ks Q = (gfin mi kc ks ∧ Q [.int x] sh M) := by
  rw [gfx hC ho]
  exact propext ⟨fun h => ⟨h.1.2.2, h.2⟩, fun h => ⟨⟨rfl, hr, h.1⟩, h.2⟩⟩
theorem x_rv (hC : gCm C) (ho : gop mi pc = some (.return_, n, a, b, z)) (hl : ¬ mi = gLAW) (hb : gbu mi = (0, 0)) : gR C X mi pc lv [] sh M 0 0 Q = Q [] sh M := by
  rw [gfx hC ho]
  exact propext ⟨fun h => h.2, fun h => ⟨⟨rfl, by unfold gfin; rw [if_neg hl, hb]; exact ⟨rfl, Nat.le_refl _⟩⟩, h⟩⟩
theorem x_rvk (hC : gCm C) (ho : gop mi pc = some (.return_, n, a, b, z)) : gR C X mi pc lv [] sh M kc ks Q = (gfin mi kc ks ∧ Q [] sh M) := by
  rw [gfx hC ho]
  exact propext ⟨fun h => ⟨h.1.2, h.2⟩, fun h => ⟨⟨rfl, h.1⟩, h.2⟩⟩
end GX
