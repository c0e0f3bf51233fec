/-! the reference: a house moves; a year -/
def aUp (f : Nat → Nat) (k v : Nat) : Nat → Nat := fun j => if j = k then v else f j
def aWho (f : Nat → Nat) : Nat → Nat
  | 0 => 0
  | n + 1 => if aLight f (f (34 + n)) < aLight f (f (34 + aWho f n)) then n else aWho f n
def aFree (f : Nat → Nat) (p : Nat) : Bool := !(aAny (fun h => decide (f (34 + h) = p)) (f 3))
def aBest (f : Nat → Nat) (b0 : Nat) : Nat → Nat
  | 0 => b0
  | n + 1 => if aFree f n = true ∧ aLight f (aBest f b0 n) < aLight f n then n else aBest f b0 n
def aLit (f : Nat → Nat) (n : Nat) (k : Nat) : Nat := if 38 ≤ k ∧ k < 38 + n then f k + aLight f (f (34 + (k - 38))) else f k
def aW (f : Nat → Nat) : Nat := aWho f (f 3)
def aB (f : Nat → Nat) : Nat := aBest f (f (34 + aW f)) 12
def aMv (f : Nat → Nat) : Nat → Nat := if f 3 = 0 ∨ aB f = f (34 + aW f) then aLit f (f 3) else aUp (aUp (aUp (aLit f (f 3)) (34 + aW f) (aB f)) (42 + aW f) (f (42 + aW f) + 1)) 5 (f 5 + 1)
def aMover (f : Nat → Nat) : Int32 := if f 3 = 0 ∨ aB f = f (34 + aW f) then -1000000 else nI (aW f)
def aYear (f : Nat → Nat) : Nat → Nat := aUp (aGrow (aMv f)) 4 (f 4 + 1)
theorem aAny_c {g g' : Nat → Bool} : ∀ {n : Nat}, (∀ t, t < n → g t = g' t) → aAny g n = aAny g' n
  | 0, _ => rfl
  | n + 1, h => by rw [aAny_s, aAny_s, aAny_c (fun t ht => h t (by omega)), h n (by omega)]
theorem aBits_c {g g' : Nat → Bool} : ∀ {n : Nat}, (∀ t, t < n → g t = g' t) → aBits g n = aBits g' n
  | 0, _ => rfl
  | n + 1, h => by unfold aBits; rw [aBits_c (fun t ht => h t (by omega)), h n (by omega)]
theorem aShade_c {f g : Nat → Nat} (h2 : f 2 ≤ 7) (h : ∀ k, k < 27 → g k = f k) (p : Nat) : aShade g p = aShade f p := by
  unfold aShade
  refine aBits_c (fun s hs => ?_)
  unfold aDark
  rw [h 2 (by omega)]
  refine aAny_c (fun t ht => ?_)
  unfold aSh aFall
  rw [h (13 + t) (by omega), h (20 + t) (by omega), h 0 (by omega), h 1 (by omega)]
theorem aLight_c {f g : Nat → Nat} (h2 : f 2 ≤ 7) (h : ∀ k, k < 27 → g k = f k) (p : Nat) : aLight g p = aLight f p := by
  unfold aLight
  rw [aShade_c h2 h p]
theorem aFind_lt (g : Nat → Nat) (p : Nat) : ∀ n t, t + n < 1000 → (aFind g p n t < 0 ↔ ∀ j, t ≤ j → j < t + n → ¬ g j = p)
  | 0, t, _ => ⟨fun _ j h1 h2 => absurd h1 (by omega), fun _ => by unfold aFind; decide⟩
  | n + 1, t, ht => by
    unfold aFind
    by_cases h : g t = p
    · rw [if_pos h]
      exact ⟨fun q => absurd q (nI_pos (by omega)), fun q => absurd h (q t (Nat.le_refl _) (by omega))⟩
    · rw [if_neg h, aFind_lt g p n (t + 1) (by omega)]
      refine ⟨fun q j h1 h2 => ?_, fun q j h1 h2 => q j (by omega) (by omega)⟩
      by_cases hj : j = t
      · rw [hj]; exact h
      · exact q j (by omega) (by omega)
theorem aAny_i (g : Nat → Bool) : ∀ n, aAny g n = true ↔ ∃ j, j < n ∧ g j = true
  | 0 => ⟨fun h => by simp [aAny] at h, fun ⟨j, h, _⟩ => absurd h (Nat.not_lt_zero j)⟩
  | n + 1 => by
    rw [aAny_s, Bool.or_eq_true, aAny_i g n]
    constructor
    · rintro (⟨j, h1, h2⟩ | h)
      · exact ⟨j, by omega, h2⟩
      · exact ⟨n, by omega, h⟩
    · rintro ⟨j, h1, h2⟩
      by_cases hj : j = n
      · exact Or.inr (hj ▸ h2)
      · exact Or.inl ⟨j, by omega, h2⟩
theorem aFree_i {f : Nat → Nat} (h3 : f 3 ≤ 4) (p : Nat) : (aFind (fun t => f (34 + t)) p (f 3) 0 < 0) = (aFree f p = true) := by
  apply propext
  rw [aFind_lt _ _ _ _ (by omega)]
  unfold aFree
  rw [Bool.not_eq_true', ← Bool.not_eq_true, aAny_i]
  constructor
  · rintro h ⟨j, h1, h2⟩
    exact h j (by omega) (by omega) (by simpa using h2)
  · intro h j _ h2 h3
    exact h ⟨j, by omega, by simpa using h3⟩
theorem aBest_s (f : Nat → Nat) (b0 n : Nat) : aBest f b0 (n + 1) = if aFree f n = true ∧ aLight f (aBest f b0 n) < aLight f n then n else aBest f b0 n := rfl
theorem aWho_s (f : Nat → Nat) (n : Nat) : aWho f (n + 1) = if aLight f (f (34 + n)) < aLight f (f (34 + aWho f n)) then n else aWho f n := rfl
theorem i32ge (x : Int32) : (0 ≤ x) = ¬ (x < 0) := propext Int32.not_lt.symm
theorem aFree_c {f g : Nat → Nat} (h3 : f 3 ≤ 4) (h : ∀ k, k < 38 → g k = f k) (p : Nat) : aFree g p = aFree f p := by
  unfold aFree
  rw [h 3 (by omega), aAny_c (fun t ht => by rw [h (34 + t) (by omega)])]
theorem aWho_lt (f : Nat → Nat) : ∀ n, aWho f n < n ∨ aWho f n = 0
  | 0 => Or.inr rfl
  | n + 1 => by
    unfold aWho
    rcases aWho_lt f n with h | h <;> split <;> omega
theorem aBest_le {f : Nat → Nat} {b0 : Nat} (h : b0 ≤ 11) : ∀ n, n ≤ 12 → aBest f b0 n ≤ 11
  | 0, _ => h
  | n + 1, hn => by
    unfold aBest
    have := aBest_le (f := f) h n (by omega)
    split <;> omega
section G25
variable {d : Nat} {rs : gS} {M : gM} {Q : gQ} {f : Nat → Nat}
theorem aLit_wf (hf : aWf f) (hb : ∀ k, k < 46 → f k < 900000) (n : Nat) (hn : n ≤ f 3) : aWf (aLit f n) := by
  obtain ⟨⟨a0, a1, a2, a3⟩, h1, h2, h3⟩ := hf
  have e : ∀ k, k < 38 → aLit f n k = f k := fun k hk => by unfold aLit; rw [if_neg (by omega)]
  refine ⟨⟨by rw [e 0 (by omega)]; exact a0, by rw [e 1 (by omega)]; exact a1, by rw [e 2 (by omega)]; exact a2, by rw [e 3 (by omega)]; exact a3⟩, fun t ht => ?_, fun h hh => ?_, fun k hk => ?_⟩
  · rw [e 2 (by omega)] at ht
    rw [e (6 + t) (by omega), e (13 + t) (by omega), e (20 + t) (by omega)]
    exact h1 t ht
  · rw [e 3 (by omega)] at hh
    rw [e (34 + h) (by omega)]
    exact h2 h hh
  · unfold aLit
    have := hb k hk
    have := aLight_le f (f (34 + (k - 38)))
    split <;> omega
set_option maxHeartbeats 2000000 in
theorem m_moveOne (hS : ∀ k, k < 46 → M 33 k = nI (f k)) (hf : aWf f) (hb : ∀ k, k < 46 → f k < 900000) (hQ : ∀ M', (∀ k, k < 46 → M' 33 k = nI (aMv f k)) → M' 29 16 = aMover f → (∀ k, k ≠ 16 → M' 29 k = M 29 k) → (∀ a, a ≠ 33 → a ≠ 29 → M' a = M a) → Q [] (gSH ++ rs) M') : gcl (d + 4) 154 [.ref 29] (gSH ++ rs) M Q := by
  have h2 := hf.1.2.2.1
  have h3 := hf.1.2.2.2
  have eL : ∀ n k, k < 38 → aLit f n k = f k := fun n k hk => by unfold aLit; rw [if_neg (by omega)]
  have eLt : ∀ n p, aLight (aLit f n) p = aLight f p := fun n p => aLight_c h2 (fun k hk => eL n k (by omega)) p
  have hw := aWho_lt f (f 3)
  -- the places
  have third : ∀ n p M2 l2, p + n = 12 → (∀ k, k < 46 → M2 33 k = nI (aLit f (f 3) k)) → ¬ f 3 = 0 → M2 29 16 = -1000000 → (∀ k, k ≠ 16 → M2 29 k = M 29 k) → (∀ a, a ≠ 33 → a ≠ 29 → M2 a = M a) → l2 = some (.int (nI (aBest f (f (34 + aW f)) p))) → gR (gcl (d + 3)) (0, fun _ => 0) 154 108 [some (.ref 29), some (.int (nI (aW f))), l2, some (.int (nI p))] [] (gSH ++ rs) M2 0 0 Q := by
    intro n
    have hwl : aW f < f 3 ∨ f 3 = 0 := by unfold aW; omega
    induction n with
    | zero =>
      intro p M2 l2 hp h33 h30 hm h29 hM hl2
      subst hl2
      obtain rfl : p = 12 := by omega
      have hlive := hf.2.2.1 (aW f) (by omega)
      have hbl := aBest_le (f := f) (b0 := f (34 + aW f)) hlive 12 (Nat.le_refl _)
      have e34 : aLit f (f 3) (34 + aW f) = f (34 + aW f) := eL _ _ (by omega)
      have e42 : aLit f (f 3) (42 + aW f) = f (42 + aW f) := by unfold aLit; rw [if_neg (by omega)]
      have e5 : aLit f (f 3) 5 = f 5 := eL _ _ (by omega)
      have ne1 : ¬ 42 + aW f = 34 + aW f := by omega
      have ne2 : ¬ 5 = 34 + aW f := by omega
      have ne3 : ¬ 5 = 42 + aW f := by omega
      rw [u154_108]
      simp (disch := omega) only [u154_0, u154_1, u154_2, u154_3, u154_5, u154_6, u154_9, u154_10, u154_11, u154_14, u154_15, u154_18, u154_20, u154_21, u154_22, u154_23, u154_24, u154_25, u154_26, u154_29, u154_31, u154_32, u154_33, u154_34, u154_37, u154_38, u154_39, u154_40, u154_41, u154_44, u154_46, u154_47, u154_48, u154_49, u154_52, u154_53, u154_54, u154_57, u154_59, u154_60, u154_61, u154_62, u154_65, u154_68, u154_69, u154_72, u154_73, u154_74, u154_77, u154_80, u154_81, u154_83, u154_86, u154_87, u154_90, u154_91, u154_92, u154_95, u154_96, u154_97, u154_100, u154_102, u154_103, u154_104, u154_105, u154_106, u154_107, u154_109, u154_111, u154_114, u154_115, u154_116, u154_119, u154_122, u154_123, u154_124, u154_127, u154_128, u154_129, u154_132, u154_135, u154_136, u154_139, u154_140, u154_141, u154_144, u154_147, u154_148, u154_149, u154_152, u154_154, u154_155, u154_156, u154_157, u154_160, u154_161, u154_164, u154_166, u154_167, u154_168, u154_169, u154_170, u154_171, u154_174, u154_176, u154_177, u154_178, u154_179, u154_180, u154_181, u154_182, u154_183, u154_184, u154_187, u154_188, u154_189, u154_190, u154_191, u154_192, u154_193, u154_194, u154_195, u154_198, kc29, ks29_0, ks29_1, ks29_2, ks29_3, ks29_4, ks29_5, ks29_6, ks29_7, ks29_8, ks29_9, ks29_10, ks29_11, ks29_12, ks29_13, ks29_14, ks29_15, ks29_16, ks29_17, ks29_18, ks29_19, ks29_20, ks29_21, ks29_22, ks29_23, ks29_24, kk33, kl33, h33, e34, e42, e5, gr_at, upd, if_neg ne1, if_neg ne2, if_neg ne3, gfv_s, gfv_n, gop1_s, nI_add, pk_mul, nIcl, vinT, nIle, nIlt, nIeq, true_and, and_true, List.cons_append, List.nil_append, List.length_nil, List.length_cons, Nat.zero_le, Nat.reduceLeDiff, Nat.reduceAdd, Nat.reduceMul]
      refine ⟨fun _ => ⟨fun q => ?_, fun q => ?_⟩, fun q => absurd trivial q⟩
      · replace q : aB f = f (34 + aW f) := q
        have eM : aMv f = aLit f (f 3) := by unfold aMv; rw [if_pos (Or.inr q)]
        refine hQ M2 (fun k hk => by rw [eM]; exact h33 k hk) (by rw [hm]; unfold aMover; rw [if_pos (Or.inr q)]) h29 hM
      · have hn : ¬ (f 3 = 0 ∨ aB f = f (34 + aW f)) := fun z => z.elim (fun z => h30 z) q
        refine hQ _ (fun k hk => ?_) ?_ (fun k hk => ?_) (fun a ha1 ha2 => ?_)
        · rw [gr_ne (by decide), gr_at]
          unfold aMv
          rw [if_neg hn]
          unfold upd aUp
          by_cases q1 : k = 5
          · rw [if_pos q1, if_pos q1]
          · rw [if_neg q1, if_neg q1]
            by_cases q2 : k = 42 + aW f
            · rw [if_pos q2, if_pos q2]
            · rw [if_neg q2, if_neg q2]
              by_cases q3 : k = 34 + aW f
              · rw [if_pos q3, if_pos q3]; rfl
              · rw [if_neg q3, if_neg q3]
                exact h33 k hk
        · rw [gr_at]
          unfold aMover upd
          rw [if_neg hn, if_pos rfl]
        · rw [gr_at]
          unfold upd
          rw [if_neg hk, gr_ne (by decide), gr_ne (by decide), gr_ne (by decide)]
          exact h29 k hk
        · rw [gr_ne ha2, gr_ne ha1, gr_ne ha1, gr_ne ha1]
          exact hM a ha1 ha2
    | succ n ih =>
      intro p M2 l2 hp h33 h30 hm h29 hM hl2
      subst hl2
      have hlive := hf.2.2.1 (aW f) (by omega)
      have hbl := aBest_le (f := f) (b0 := f (34 + aW f)) hlive p (by omega)
      have hwf := aLit_wf hf hb (f 3) (Nat.le_refl _)
      have e3 : aLit f (f 3) 3 = f 3 := eL _ _ (by omega)
      have hl1 := aLight_le f p
      have hl2 := aLight_le f (aBest f (f (34 + aW f)) p)
      have nxt : ∀ b, aBest f (f (34 + aW f)) (p + 1) = b → gR (gcl (d + 3)) (0, fun _ => 0) 154 140 [some (.ref 29), some (.int (nI (aW f))), some (.int (nI (aBest f (f (34 + aW f)) p))), some (.int (nI p))] [.int (nI b)] (gSH ++ rs) M2 0 0 Q := fun b hb => by
        simp (disch := omega) only [u154_0, u154_1, u154_2, u154_3, u154_5, u154_6, u154_9, u154_10, u154_11, u154_14, u154_15, u154_18, u154_20, u154_21, u154_22, u154_23, u154_24, u154_25, u154_26, u154_29, u154_31, u154_32, u154_33, u154_34, u154_37, u154_38, u154_39, u154_40, u154_41, u154_44, u154_46, u154_47, u154_48, u154_49, u154_52, u154_53, u154_54, u154_57, u154_59, u154_60, u154_61, u154_62, u154_65, u154_68, u154_69, u154_72, u154_73, u154_74, u154_77, u154_80, u154_81, u154_83, u154_86, u154_87, u154_90, u154_91, u154_92, u154_95, u154_96, u154_97, u154_100, u154_102, u154_103, u154_104, u154_105, u154_106, u154_107, u154_109, u154_111, u154_114, u154_115, u154_116, u154_119, u154_122, u154_123, u154_124, u154_127, u154_128, u154_129, u154_132, u154_135, u154_136, u154_139, u154_140, u154_141, u154_144, u154_147, u154_148, u154_149, u154_152, u154_154, u154_155, u154_156, u154_157, u154_160, u154_161, u154_164, u154_166, u154_167, u154_168, u154_169, u154_170, u154_171, u154_174, u154_176, u154_177, u154_178, u154_179, u154_180, u154_181, u154_182, u154_183, u154_184, u154_187, u154_188, u154_189, u154_190, u154_191, u154_192, u154_193, u154_194, u154_195, u154_198, gfv_s, gfv_n, gop1_s, nI_add, pk_mul, nIcl, vinT, nIle, nIlt, nIeq, true_and, and_true, List.cons_append, List.nil_append, List.length_nil, List.length_cons, Nat.zero_le, Nat.reduceLeDiff, Nat.reduceAdd, Nat.reduceMul]
        exact ih (p + 1) M2 _ (by omega) h33 h30 hm h29 hM (by rw [hb])
      rw [u154_108]
      simp (disch := omega) only [u154_0, u154_1, u154_2, u154_3, u154_5, u154_6, u154_9, u154_10, u154_11, u154_14, u154_15, u154_18, u154_20, u154_21, u154_22, u154_23, u154_24, u154_25, u154_26, u154_29, u154_31, u154_32, u154_33, u154_34, u154_37, u154_38, u154_39, u154_40, u154_41, u154_44, u154_46, u154_47, u154_48, u154_49, u154_52, u154_53, u154_54, u154_57, u154_59, u154_60, u154_61, u154_62, u154_65, u154_68, u154_69, u154_72, u154_73, u154_74, u154_77, u154_80, u154_81, u154_83, u154_86, u154_87, u154_90, u154_91, u154_92, u154_95, u154_96, u154_97, u154_100, u154_102, u154_103, u154_104, u154_105, u154_106, u154_107, u154_109, u154_111, u154_114, u154_115, u154_116, u154_119, u154_122, u154_123, u154_124, u154_127, u154_128, u154_129, u154_132, u154_135, u154_136, u154_139, u154_141, u154_144, u154_147, u154_148, u154_149, u154_152, u154_154, u154_155, u154_156, u154_157, u154_160, u154_161, u154_164, u154_166, u154_167, u154_168, u154_169, u154_170, u154_171, u154_174, u154_176, u154_177, u154_178, u154_179, u154_180, u154_181, u154_182, u154_183, u154_184, u154_187, u154_188, u154_189, u154_190, u154_191, u154_192, u154_193, u154_194, u154_195, u154_198, kc29, ks29_0, ks29_1, ks29_2, ks29_3, ks29_4, ks29_5, ks29_6, ks29_7, ks29_8, ks29_9, ks29_10, ks29_11, ks29_12, ks29_13, ks29_14, ks29_15, ks29_16, ks29_17, ks29_18, ks29_19, ks29_20, ks29_21, ks29_22, ks29_23, ks29_24, kk33, kl33, gfv_s, gfv_n, gop1_s, nI_add, pk_mul, nIcl, vinT, nIle, nIlt, nIeq, true_and, and_true, List.cons_append, List.nil_append, List.length_nil, List.length_cons, Nat.zero_le, Nat.reduceLeDiff, Nat.reduceAdd, Nat.reduceMul]
      refine ⟨fun q => absurd q (by omega), fun _ => ?_⟩
      refine m_houseAt h33 hwf (by omega) ?_
      simp (disch := omega) only [u154_0, u154_1, u154_2, u154_3, u154_5, u154_6, u154_9, u154_10, u154_11, u154_14, u154_15, u154_18, u154_20, u154_21, u154_22, u154_23, u154_24, u154_25, u154_26, u154_29, u154_31, u154_32, u154_33, u154_34, u154_37, u154_38, u154_39, u154_40, u154_41, u154_44, u154_46, u154_47, u154_48, u154_49, u154_52, u154_53, u154_54, u154_57, u154_59, u154_60, u154_61, u154_62, u154_65, u154_68, u154_69, u154_72, u154_73, u154_74, u154_77, u154_80, u154_81, u154_83, u154_86, u154_87, u154_90, u154_91, u154_92, u154_95, u154_96, u154_97, u154_100, u154_102, u154_103, u154_104, u154_105, u154_106, u154_107, u154_109, u154_111, u154_114, u154_115, u154_116, u154_119, u154_122, u154_123, u154_124, u154_127, u154_128, u154_129, u154_132, u154_135, u154_136, u154_139, u154_141, u154_144, u154_147, u154_148, u154_149, u154_152, u154_154, u154_155, u154_156, u154_157, u154_160, u154_161, u154_164, u154_166, u154_167, u154_168, u154_169, u154_170, u154_171, u154_174, u154_176, u154_177, u154_178, u154_179, u154_180, u154_181, u154_182, u154_183, u154_184, u154_187, u154_188, u154_189, u154_190, u154_191, u154_192, u154_193, u154_194, u154_195, u154_198, kc29, ks29_0, ks29_1, ks29_2, ks29_3, ks29_4, ks29_5, ks29_6, ks29_7, ks29_8, ks29_9, ks29_10, ks29_11, ks29_12, ks29_13, ks29_14, ks29_15, ks29_16, ks29_17, ks29_18, ks29_19, ks29_20, ks29_21, ks29_22, ks29_23, ks29_24, kk33, kl33, i32ge, aFree_i (f := aLit f (f 3)) (by rw [e3]; exact h3), aFree_c (f := f) (g := aLit f (f 3)) h3 (fun k hk => eL _ k hk), gfv_s, gfv_n, gop1_s, nI_add, pk_mul, nIcl, vinT, nIle, nIlt, nIeq, true_and, and_true, List.cons_append, List.nil_append, List.length_nil, List.length_cons, Nat.zero_le, Nat.reduceLeDiff, Nat.reduceAdd, Nat.reduceMul]
      refine ⟨fun q => ?_, fun q => ?_⟩
      · exact nxt _ (by rw [aBest_s, if_neg (fun z => q z.1)])
      · have hfr : aFree f p = true := Classical.not_not.mp q
        refine m_lightOf h33 hwf (by omega) ?_
        simp (disch := omega) only [u154_0, u154_1, u154_2, u154_3, u154_5, u154_6, u154_9, u154_10, u154_11, u154_14, u154_15, u154_18, u154_20, u154_21, u154_22, u154_23, u154_24, u154_25, u154_26, u154_29, u154_31, u154_32, u154_33, u154_34, u154_37, u154_38, u154_39, u154_40, u154_41, u154_44, u154_46, u154_47, u154_48, u154_49, u154_52, u154_53, u154_54, u154_57, u154_59, u154_60, u154_61, u154_62, u154_65, u154_68, u154_69, u154_72, u154_73, u154_74, u154_77, u154_80, u154_81, u154_83, u154_86, u154_87, u154_90, u154_91, u154_92, u154_95, u154_96, u154_97, u154_100, u154_102, u154_103, u154_104, u154_105, u154_106, u154_107, u154_109, u154_111, u154_114, u154_115, u154_116, u154_119, u154_122, u154_123, u154_124, u154_127, u154_128, u154_129, u154_132, u154_135, u154_136, u154_139, u154_141, u154_144, u154_147, u154_148, u154_149, u154_152, u154_154, u154_155, u154_156, u154_157, u154_160, u154_161, u154_164, u154_166, u154_167, u154_168, u154_169, u154_170, u154_171, u154_174, u154_176, u154_177, u154_178, u154_179, u154_180, u154_181, u154_182, u154_183, u154_184, u154_187, u154_188, u154_189, u154_190, u154_191, u154_192, u154_193, u154_194, u154_195, u154_198, kc29, ks29_0, ks29_1, ks29_2, ks29_3, ks29_4, ks29_5, ks29_6, ks29_7, ks29_8, ks29_9, ks29_10, ks29_11, ks29_12, ks29_13, ks29_14, ks29_15, ks29_16, ks29_17, ks29_18, ks29_19, ks29_20, ks29_21, ks29_22, ks29_23, ks29_24, kk33, kl33, gfv_s, gfv_n, gop1_s, nI_add, pk_mul, nIcl, vinT, nIle, nIlt, nIeq, true_and, and_true, List.cons_append, List.nil_append, List.length_nil, List.length_cons, Nat.zero_le, Nat.reduceLeDiff, Nat.reduceAdd, Nat.reduceMul]
        refine m_lightOf h33 hwf (by omega) ?_
        rw [eLt, eLt]
        simp (disch := omega) only [u154_0, u154_1, u154_2, u154_3, u154_5, u154_6, u154_9, u154_10, u154_11, u154_14, u154_15, u154_18, u154_20, u154_21, u154_22, u154_23, u154_24, u154_25, u154_26, u154_29, u154_31, u154_32, u154_33, u154_34, u154_37, u154_38, u154_39, u154_40, u154_41, u154_44, u154_46, u154_47, u154_48, u154_49, u154_52, u154_53, u154_54, u154_57, u154_59, u154_60, u154_61, u154_62, u154_65, u154_68, u154_69, u154_72, u154_73, u154_74, u154_77, u154_80, u154_81, u154_83, u154_86, u154_87, u154_90, u154_91, u154_92, u154_95, u154_96, u154_97, u154_100, u154_102, u154_103, u154_104, u154_105, u154_106, u154_107, u154_109, u154_111, u154_114, u154_115, u154_116, u154_119, u154_122, u154_123, u154_124, u154_127, u154_128, u154_129, u154_132, u154_135, u154_136, u154_139, u154_141, u154_144, u154_147, u154_148, u154_149, u154_152, u154_154, u154_155, u154_156, u154_157, u154_160, u154_161, u154_164, u154_166, u154_167, u154_168, u154_169, u154_170, u154_171, u154_174, u154_176, u154_177, u154_178, u154_179, u154_180, u154_181, u154_182, u154_183, u154_184, u154_187, u154_188, u154_189, u154_190, u154_191, u154_192, u154_193, u154_194, u154_195, u154_198, kc29, ks29_0, ks29_1, ks29_2, ks29_3, ks29_4, ks29_5, ks29_6, ks29_7, ks29_8, ks29_9, ks29_10, ks29_11, ks29_12, ks29_13, ks29_14, ks29_15, ks29_16, ks29_17, ks29_18, ks29_19, ks29_20, ks29_21, ks29_22, ks29_23, ks29_24, kk33, kl33, gfv_s, gfv_n, gop1_s, nI_add, pk_mul, nIcl, vinT, nIle, nIlt, nIeq, true_and, and_true, List.cons_append, List.nil_append, List.length_nil, List.length_cons, Nat.zero_le, Nat.reduceLeDiff, Nat.reduceAdd, Nat.reduceMul]
        refine ⟨fun q2 => nxt _ ?_, fun q2 => nxt _ ?_⟩
        · rw [aBest_s, if_neg (fun z => by omega)]
        · rw [aBest_s, if_pos ⟨hfr, by omega⟩]
  have first : ∀ n h M1 l3, h + n = f 3 → (∀ k, k < 46 → M1 33 k = nI (aLit f h k)) → (∀ a, a ≠ 33 → M1 a = M a) → gR (gcl (d + 3)) (0, fun _ => 0) 154 4 [some (.ref 29), some (.int (nI (aWho f h))), some (.int (nI h)), l3] [] (gSH ++ rs) M1 0 0 Q := by
    intro n
    induction n with
    | zero =>
      intro h M1 l3 hh h33 hM
      obtain rfl : h = f 3 := by omega
      have e3 : aLit f (f 3) 3 = f 3 := eL _ _ (by omega)
      have e34 : aLit f (f 3) (34 + aWho f (f 3)) = f (34 + aWho f (f 3)) := eL _ _ (by omega)
      rw [u154_4]
      simp (disch := omega) only [u154_0, u154_1, u154_2, u154_3, u154_5, u154_6, u154_9, u154_10, u154_11, u154_14, u154_15, u154_18, u154_20, u154_21, u154_22, u154_23, u154_24, u154_25, u154_26, u154_29, u154_31, u154_32, u154_33, u154_34, u154_37, u154_38, u154_39, u154_40, u154_41, u154_44, u154_46, u154_47, u154_48, u154_49, u154_52, u154_53, u154_54, u154_57, u154_59, u154_60, u154_61, u154_62, u154_65, u154_68, u154_69, u154_72, u154_73, u154_74, u154_77, u154_80, u154_81, u154_83, u154_86, u154_87, u154_90, u154_91, u154_92, u154_95, u154_96, u154_97, u154_100, u154_102, u154_103, u154_104, u154_105, u154_106, u154_107, u154_109, u154_111, u154_114, u154_115, u154_116, u154_119, u154_122, u154_123, u154_124, u154_127, u154_128, u154_129, u154_132, u154_135, u154_136, u154_139, u154_140, u154_141, u154_144, u154_147, u154_148, u154_149, u154_152, u154_154, u154_155, u154_156, u154_157, u154_160, u154_161, u154_164, u154_166, u154_167, u154_168, u154_169, u154_170, u154_171, u154_174, u154_176, u154_177, u154_178, u154_179, u154_180, u154_181, u154_182, u154_183, u154_184, u154_187, u154_188, u154_189, u154_190, u154_191, u154_192, u154_193, u154_194, u154_195, u154_198, kc29, ks29_0, ks29_1, ks29_2, ks29_3, ks29_4, ks29_5, ks29_6, ks29_7, ks29_8, ks29_9, ks29_10, ks29_11, ks29_12, ks29_13, ks29_14, ks29_15, ks29_16, ks29_17, ks29_18, ks29_19, ks29_20, ks29_21, ks29_22, ks29_23, ks29_24, kk33, kl33, h33, e3, e34, gr_ne, nIz, gfv_s, gfv_n, gop1_s, nI_add, pk_mul, nIcl, vinT, nIle, nIlt, nIeq, true_and, and_true, List.cons_append, List.nil_append, List.length_nil, List.length_cons, Nat.zero_le, Nat.reduceLeDiff, Nat.reduceAdd, Nat.reduceMul]
      refine ⟨fun _ => ?_, fun q => (q (Nat.le_refl _)).elim⟩
      refine ⟨fun q => ?_, fun q => ?_⟩
      · refine hQ _ (fun k hk => ?_) ?_ (fun k hk => ?_) (fun a ha1 ha2 => ?_)
        · rw [gr_ne (by decide), h33 k hk]
          unfold aMv
          rw [if_pos (Or.inl q)]
        · rw [gr_at]
          unfold aMover upd
          rw [if_pos (Or.inl q), if_pos rfl]
        · rw [gr_at]
          unfold upd
          rw [if_neg hk, hM 29 (by decide)]
        · rw [gr_ne ha2, hM a ha1]
      · refine third 12 0 _ _ (by omega) (fun k hk => by rw [gr_ne (by decide)]; exact h33 k hk) q (by rw [gr_at]; unfold upd; rw [if_pos rfl]) (fun k hk => by rw [gr_at]; unfold upd; rw [if_neg hk, hM 29 (by decide)]) (fun a ha1 ha2 => by rw [gr_ne ha2, hM a ha1]) rfl
    | succ n ih =>
      intro h M1 l3 hh h33 hM
      have hwf := aLit_wf hf hb h (by omega)
      have hwl := aWho_lt f h
      have e3 : aLit f h 3 = f 3 := eL _ _ (by omega)
      have e34 : aLit f h (34 + h) = f (34 + h) := eL _ _ (by omega)
      have e38 : aLit f h (38 + h) = f (38 + h) := by unfold aLit; rw [if_neg (by omega)]
      have hv1 := hf.2.2.1 h (by omega)
      have hv2 := hf.2.2.1 (aWho f h) (by omega)
      have hl1 := aLight_le f (f (34 + h))
      have hl2 := aLight_le f (f (34 + aWho f h))
      have h33' : ∀ k, k < 46 → (gr M1 33 (upd (M1 33) (38 + h) (nI (f (38 + h) + aLight f (f (34 + h)))))) 33 k = nI (aLit f (h + 1) k) := fun k hk => by
        rw [gr_at]
        unfold upd
        by_cases hk2 : k = 38 + h
        · rw [if_pos hk2, hk2]
          unfold aLit
          rw [if_pos (by omega), Nat.add_sub_cancel_left]
        · rw [if_neg hk2, h33 k hk]
          congr 1
          unfold aLit
          repeat' split
          all_goals first | rfl | omega
      have hwf' := aLit_wf hf hb (h + 1) (by omega)
      have e34' : aLit f (h + 1) (34 + h) = f (34 + h) := eL _ _ (by omega)
      have e34w : aLit f (h + 1) (34 + aWho f h) = f (34 + aWho f h) := eL _ _ (by omega)
      have nxt : ∀ b, aWho f (h + 1) = b → gR (gcl (d + 3)) (0, fun _ => 0) 154 73 [some (.ref 29), some (.int (nI (aWho f h))), some (.int (nI h)), l3] [.int (nI b)] (gSH ++ rs) (gr M1 33 (upd (M1 33) (38 + h) (nI (f (38 + h) + aLight f (f (34 + h)))))) 0 0 Q := fun b hb => by
        simp (disch := omega) only [u154_0, u154_1, u154_2, u154_3, u154_5, u154_6, u154_9, u154_10, u154_11, u154_14, u154_15, u154_18, u154_20, u154_21, u154_22, u154_23, u154_24, u154_25, u154_26, u154_29, u154_31, u154_32, u154_33, u154_34, u154_37, u154_38, u154_39, u154_40, u154_41, u154_44, u154_46, u154_47, u154_48, u154_49, u154_52, u154_53, u154_54, u154_57, u154_59, u154_60, u154_61, u154_62, u154_65, u154_68, u154_69, u154_72, u154_73, u154_74, u154_77, u154_80, u154_81, u154_83, u154_86, u154_87, u154_90, u154_91, u154_92, u154_95, u154_96, u154_97, u154_100, u154_102, u154_103, u154_104, u154_105, u154_106, u154_107, u154_109, u154_111, u154_114, u154_115, u154_116, u154_119, u154_122, u154_123, u154_124, u154_127, u154_128, u154_129, u154_132, u154_135, u154_136, u154_139, u154_140, u154_141, u154_144, u154_147, u154_148, u154_149, u154_152, u154_154, u154_155, u154_156, u154_157, u154_160, u154_161, u154_164, u154_166, u154_167, u154_168, u154_169, u154_170, u154_171, u154_174, u154_176, u154_177, u154_178, u154_179, u154_180, u154_181, u154_182, u154_183, u154_184, u154_187, u154_188, u154_189, u154_190, u154_191, u154_192, u154_193, u154_194, u154_195, u154_198, gfv_s, gfv_n, gop1_s, nI_add, pk_mul, nIcl, vinT, nIle, nIlt, nIeq, true_and, and_true, List.cons_append, List.nil_append, List.length_nil, List.length_cons, Nat.zero_le, Nat.reduceLeDiff, Nat.reduceAdd, Nat.reduceMul]
        rw [← hb]
        exact ih (h + 1) _ _ (by omega) h33' (fun a ha => by rw [gr_ne ha]; exact hM a ha)
      rw [u154_4]
      simp (disch := omega) only [u154_0, u154_1, u154_2, u154_3, u154_5, u154_6, u154_9, u154_10, u154_11, u154_14, u154_15, u154_18, u154_20, u154_21, u154_22, u154_23, u154_24, u154_25, u154_26, u154_29, u154_31, u154_32, u154_33, u154_34, u154_37, u154_38, u154_39, u154_40, u154_41, u154_44, u154_46, u154_47, u154_48, u154_49, u154_52, u154_53, u154_54, u154_57, u154_59, u154_60, u154_61, u154_62, u154_65, u154_68, u154_69, u154_72, u154_74, u154_77, u154_80, u154_81, u154_83, u154_86, u154_87, u154_90, u154_91, u154_92, u154_95, u154_96, u154_97, u154_100, u154_102, u154_103, u154_104, u154_105, u154_106, u154_107, u154_109, u154_111, u154_114, u154_115, u154_116, u154_119, u154_122, u154_123, u154_124, u154_127, u154_128, u154_129, u154_132, u154_135, u154_136, u154_139, u154_140, u154_141, u154_144, u154_147, u154_148, u154_149, u154_152, u154_154, u154_155, u154_156, u154_157, u154_160, u154_161, u154_164, u154_166, u154_167, u154_168, u154_169, u154_170, u154_171, u154_174, u154_176, u154_177, u154_178, u154_179, u154_180, u154_181, u154_182, u154_183, u154_184, u154_187, u154_188, u154_189, u154_190, u154_191, u154_192, u154_193, u154_194, u154_195, u154_198, kc29, ks29_0, ks29_1, ks29_2, ks29_3, ks29_4, ks29_5, ks29_6, ks29_7, ks29_8, ks29_9, ks29_10, ks29_11, ks29_12, ks29_13, ks29_14, ks29_15, ks29_16, ks29_17, ks29_18, ks29_19, ks29_20, ks29_21, ks29_22, ks29_23, ks29_24, kk33, kl33, h33, e3, e34, e38, gfv_s, gfv_n, gop1_s, nI_add, pk_mul, nIcl, vinT, nIle, nIlt, nIeq, true_and, and_true, List.cons_append, List.nil_append, List.length_nil, List.length_cons, Nat.zero_le, Nat.reduceLeDiff, Nat.reduceAdd, Nat.reduceMul]
      refine ⟨fun q => absurd q (by omega), fun _ => ?_⟩
      refine m_lightOf h33 hwf (by omega) ?_
      rw [eLt]
      simp (disch := omega) only [u154_0, u154_1, u154_2, u154_3, u154_5, u154_6, u154_9, u154_10, u154_11, u154_14, u154_15, u154_18, u154_20, u154_21, u154_22, u154_23, u154_24, u154_25, u154_26, u154_29, u154_31, u154_32, u154_33, u154_34, u154_37, u154_38, u154_39, u154_40, u154_41, u154_44, u154_46, u154_47, u154_48, u154_49, u154_52, u154_53, u154_54, u154_57, u154_59, u154_60, u154_61, u154_62, u154_65, u154_68, u154_69, u154_72, u154_74, u154_77, u154_80, u154_81, u154_83, u154_86, u154_87, u154_90, u154_91, u154_92, u154_95, u154_96, u154_97, u154_100, u154_102, u154_103, u154_104, u154_105, u154_106, u154_107, u154_109, u154_111, u154_114, u154_115, u154_116, u154_119, u154_122, u154_123, u154_124, u154_127, u154_128, u154_129, u154_132, u154_135, u154_136, u154_139, u154_140, u154_141, u154_144, u154_147, u154_148, u154_149, u154_152, u154_154, u154_155, u154_156, u154_157, u154_160, u154_161, u154_164, u154_166, u154_167, u154_168, u154_169, u154_170, u154_171, u154_174, u154_176, u154_177, u154_178, u154_179, u154_180, u154_181, u154_182, u154_183, u154_184, u154_187, u154_188, u154_189, u154_190, u154_191, u154_192, u154_193, u154_194, u154_195, u154_198, kc29, ks29_0, ks29_1, ks29_2, ks29_3, ks29_4, ks29_5, ks29_6, ks29_7, ks29_8, ks29_9, ks29_10, ks29_11, ks29_12, ks29_13, ks29_14, ks29_15, ks29_16, ks29_17, ks29_18, ks29_19, ks29_20, ks29_21, ks29_22, ks29_23, ks29_24, kk33, kl33, h33', e34', gfv_s, gfv_n, gop1_s, nI_add, pk_mul, nIcl, vinT, nIle, nIlt, nIeq, true_and, and_true, List.cons_append, List.nil_append, List.length_nil, List.length_cons, Nat.zero_le, Nat.reduceLeDiff, Nat.reduceAdd, Nat.reduceMul]
      refine m_lightOf h33' hwf' (by omega) ?_
      rw [eLt]
      simp (disch := omega) only [u154_0, u154_1, u154_2, u154_3, u154_5, u154_6, u154_9, u154_10, u154_11, u154_14, u154_15, u154_18, u154_20, u154_21, u154_22, u154_23, u154_24, u154_25, u154_26, u154_29, u154_31, u154_32, u154_33, u154_34, u154_37, u154_38, u154_39, u154_40, u154_41, u154_44, u154_46, u154_47, u154_48, u154_49, u154_52, u154_53, u154_54, u154_57, u154_59, u154_60, u154_61, u154_62, u154_65, u154_68, u154_69, u154_72, u154_74, u154_77, u154_80, u154_81, u154_83, u154_86, u154_87, u154_90, u154_91, u154_92, u154_95, u154_96, u154_97, u154_100, u154_102, u154_103, u154_104, u154_105, u154_106, u154_107, u154_109, u154_111, u154_114, u154_115, u154_116, u154_119, u154_122, u154_123, u154_124, u154_127, u154_128, u154_129, u154_132, u154_135, u154_136, u154_139, u154_140, u154_141, u154_144, u154_147, u154_148, u154_149, u154_152, u154_154, u154_155, u154_156, u154_157, u154_160, u154_161, u154_164, u154_166, u154_167, u154_168, u154_169, u154_170, u154_171, u154_174, u154_176, u154_177, u154_178, u154_179, u154_180, u154_181, u154_182, u154_183, u154_184, u154_187, u154_188, u154_189, u154_190, u154_191, u154_192, u154_193, u154_194, u154_195, u154_198, kc29, ks29_0, ks29_1, ks29_2, ks29_3, ks29_4, ks29_5, ks29_6, ks29_7, ks29_8, ks29_9, ks29_10, ks29_11, ks29_12, ks29_13, ks29_14, ks29_15, ks29_16, ks29_17, ks29_18, ks29_19, ks29_20, ks29_21, ks29_22, ks29_23, ks29_24, kk33, kl33, h33', e34w, gfv_s, gfv_n, gop1_s, nI_add, pk_mul, nIcl, vinT, nIle, nIlt, nIeq, true_and, and_true, List.cons_append, List.nil_append, List.length_nil, List.length_cons, Nat.zero_le, Nat.reduceLeDiff, Nat.reduceAdd, Nat.reduceMul]
      refine m_lightOf h33' hwf' (by omega) ?_
      rw [eLt]
      simp (disch := omega) only [u154_0, u154_1, u154_2, u154_3, u154_5, u154_6, u154_9, u154_10, u154_11, u154_14, u154_15, u154_18, u154_20, u154_21, u154_22, u154_23, u154_24, u154_25, u154_26, u154_29, u154_31, u154_32, u154_33, u154_34, u154_37, u154_38, u154_39, u154_40, u154_41, u154_44, u154_46, u154_47, u154_48, u154_49, u154_52, u154_53, u154_54, u154_57, u154_59, u154_60, u154_61, u154_62, u154_65, u154_68, u154_69, u154_72, u154_74, u154_77, u154_80, u154_81, u154_83, u154_86, u154_87, u154_90, u154_91, u154_92, u154_95, u154_96, u154_97, u154_100, u154_102, u154_103, u154_104, u154_105, u154_106, u154_107, u154_109, u154_111, u154_114, u154_115, u154_116, u154_119, u154_122, u154_123, u154_124, u154_127, u154_128, u154_129, u154_132, u154_135, u154_136, u154_139, u154_140, u154_141, u154_144, u154_147, u154_148, u154_149, u154_152, u154_154, u154_155, u154_156, u154_157, u154_160, u154_161, u154_164, u154_166, u154_167, u154_168, u154_169, u154_170, u154_171, u154_174, u154_176, u154_177, u154_178, u154_179, u154_180, u154_181, u154_182, u154_183, u154_184, u154_187, u154_188, u154_189, u154_190, u154_191, u154_192, u154_193, u154_194, u154_195, u154_198, kc29, ks29_0, ks29_1, ks29_2, ks29_3, ks29_4, ks29_5, ks29_6, ks29_7, ks29_8, ks29_9, ks29_10, ks29_11, ks29_12, ks29_13, ks29_14, ks29_15, ks29_16, ks29_17, ks29_18, ks29_19, ks29_20, ks29_21, ks29_22, ks29_23, ks29_24, kk33, kl33, gfv_s, gfv_n, gop1_s, nI_add, pk_mul, nIcl, vinT, nIle, nIlt, nIeq, true_and, and_true, List.cons_append, List.nil_append, List.length_nil, List.length_cons, Nat.zero_le, Nat.reduceLeDiff, Nat.reduceAdd, Nat.reduceMul]
      refine ⟨fun q => nxt _ ?_, fun q => nxt _ ?_⟩
      · rw [aWho_s, if_neg (by omega)]
      · rw [aWho_s, if_pos (by omega)]
  rw [e154]
  simp only [u154_0, u154_1, u154_2, u154_3, u154_5, u154_6, u154_9, u154_10, u154_11, u154_14, u154_15, u154_18, u154_20, u154_21, u154_22, u154_23, u154_24, u154_25, u154_26, u154_29, u154_31, u154_32, u154_33, u154_34, u154_37, u154_38, u154_39, u154_40, u154_41, u154_44, u154_46, u154_47, u154_48, u154_49, u154_52, u154_53, u154_54, u154_57, u154_59, u154_60, u154_61, u154_62, u154_65, u154_68, u154_69, u154_72, u154_73, u154_74, u154_77, u154_80, u154_81, u154_83, u154_86, u154_87, u154_90, u154_91, u154_92, u154_95, u154_96, u154_97, u154_100, u154_102, u154_103, u154_104, u154_105, u154_106, u154_107, u154_109, u154_111, u154_114, u154_115, u154_116, u154_119, u154_122, u154_123, u154_124, u154_127, u154_128, u154_129, u154_132, u154_135, u154_136, u154_139, u154_140, u154_141, u154_144, u154_147, u154_148, u154_149, u154_152, u154_154, u154_155, u154_156, u154_157, u154_160, u154_161, u154_164, u154_166, u154_167, u154_168, u154_169, u154_170, u154_171, u154_174, u154_176, u154_177, u154_178, u154_179, u154_180, u154_181, u154_182, u154_183, u154_184, u154_187, u154_188, u154_189, u154_190, u154_191, u154_192, u154_193, u154_194, u154_195, u154_198]
  exact first (f 3) 0 M none (by omega) (fun k hk => by rw [hS k hk]; congr 1; unfold aLit; rw [if_neg (by omega)]) (fun _ _ => rfl)
end G25
