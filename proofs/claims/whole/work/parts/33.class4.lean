/-! the class: a year -/
theorem nIno {a : Nat} (ha : a < 1000000) : (nI a = -1000000) = False := by
  apply eq_false
  intro q
  have := congrArg Int32.toInt q
  rw [nI_toInt (by omega)] at this
  have e : (-1000000 : Int32).toInt = -1000000 := by decide
  rw [e] at this
  omega
theorem aHP_b {f : Nat → Nat} {p : Nat} (hp : p < 12) : (aHP f (f 3) / 2 ^ p % 2 = 0) = (aFree f p = true) := by
  have h := aBits_tb (fun q => aAny (fun t => decide (q = f (34 + t))) (f 3)) 12 p
  rw [Nat.testBit_eq_decide_div_mod_eq, decide_eq_true hp, Bool.true_and] at h
  have e : aAny (fun t => decide (p = f (34 + t))) (f 3) = aAny (fun t => decide (f (34 + t) = p)) (f 3) := aAny_c (fun t _ => by simp [eq_comm])
  unfold aHP aFree
  rw [← e, ← h]
  simp
theorem aFree_ne {f : Nat → Nat} {p w : Nat} (hw : w < f 3) (h : aFree f p = true) : p ≠ f (34 + w) := by
  intro q
  unfold aFree at h
  rw [(aAny_i _ _).2 ⟨w, hw, by simp [q]⟩] at h
  cases h
theorem cT_f {r : Nat → Int32} {f g : Nat → Nat} (hT : cT r f) (h2 : f 2 ≤ 7) (he : ∀ k, k < 34 → k ≠ 4 → k ≠ 5 → g k = f k) : cT r g := by
  obtain ⟨t1, t3, tt⟩ := hT
  have e2 := he 2 (by omega) (by omega) (by omega)
  refine ⟨by rw [t1, e2], fun s hs => by rw [t3 s hs, aFall_c (he 0 (by omega) (by omega) (by omega)) (he 1 (by omega) (by omega) (by omega))], fun t ht => ?_⟩
  rw [e2] at ht
  rw [he _ (by omega) (by omega) (by omega), he (13 + t) (by omega) (by omega) (by omega), he (20 + t) (by omega) (by omega) (by omega), he (27 + t) (by omega) (by omega) (by omega)]
  exact tt t ht
section G33
variable {d : Nat} {sh : gS} {M : gM} {Q : gQ} {f : Nat → Nat} {h : Nat}
theorem c_shareLight (hh : gHl sh h) (hO : cO (M (h + 1)) f) (hL : ∀ p, p < 12 → M (h + 2) p = nI (aLight f p)) (hf : aWf f) (hb : ∀ k, k < 46 → f k < 900000) (hQ : ∀ M', cO (M' (h + 1)) (aLit f (f 3)) → (∀ k, k < 39 ∨ 43 ≤ k → M' (h + 1) k = M (h + 1) k) → (∀ a, a ≠ h + 1 → M' a = M a) → Q [.int (if f 3 = 0 then -1000000 else nI (aW f))] sh M') : gcl (d + 2) 44 [.ref h] sh M Q := by
  obtain ⟨k1, k2, k3, k4, ⟨k5, k6⟩, ⟨k7, k8⟩, -⟩ := id hh
  have h3 := hf.1.2.2.2
  have loop : ∀ n t M1 l4, t + n = f 3 → cO (M1 (h + 1)) (aLit f t) → (∀ k, k < 39 ∨ 43 ≤ k → M1 (h + 1) k = M (h + 1) k) → (∀ a, a ≠ h + 1 → M1 a = M a) → gR (gcl (d + 1)) (0, fun _ => 0) 44 7 [some (.ref h), some (.int (if t = 0 then -1000000 else nI (aWho f t))), some (.int (nI (if t = 0 then 5 else aLight f (f (34 + aWho f t))))), some (.int (nI t)), l4] [] sh M1 0 0 Q := by
    intro n
    induction n with
    | zero =>
      intro t M1 l4 ht hO1 hK hM
      obtain rfl : t = f 3 := by omega
      have e3 : aLit f (f 3) 3 = f 3 := aLit_lo _ _ _ (by omega)
      rw [u44_7]
      simp (disch := first | omega | assumption) only [u44_0, u44_2, u44_3, u44_4, u44_5, u44_6, u44_8, u44_9, u44_12, u44_15, u44_16, u44_19, u44_20, u44_21, u44_24, u44_25, u44_27, u44_28, u44_31, u44_33, u44_34, u44_35, u44_36, u44_37, u44_39, u44_40, u44_41, u44_43, u44_44, u44_47, u44_48, u44_49, u44_51, u44_52, u44_55, u44_58, u44_59, k1, c_houses, hO1.2.1, e3, gfv_s, gfv_n, gop1_s, nI_add, pk_mul, nIcl, vinT, nIle, nIlt, nIeq, true_and, and_true, List.cons_append, List.nil_append, List.length_nil, List.length_cons, Nat.zero_le, Nat.reduceLeDiff, Nat.reduceAdd, Nat.reduceMul]
      exact ⟨fun _ => hQ M1 hO1 hK hM, fun q => absurd (Nat.le_refl _) q⟩
    | succ n ih =>
      intro t M1 l4 ht hO1 hK hM
      have e3 : aLit f t 3 = f 3 := aLit_lo _ _ _ (by omega)
      obtain ⟨o1, o2, o3⟩ := id hO1
      obtain ⟨b1, b2, b3⟩ := o3 t (by omega)
      have e34 : aLit f t (34 + t) = f (34 + t) := aLit_lo _ _ _ (by omega)
      have e38 : aLit f t (38 + t) = f (38 + t) := by unfold aLit; rw [if_neg (by omega)]
      rw [e34] at b1
      rw [e38] at b2
      have hp := hf.2.2.1 t (by omega)
      have hl := aLight_le f (f (34 + t))
      have hl2 := aLight_le f (f (34 + aWho f t))
      have hbt := hb (38 + t) (by omega)
      have L1 : M1 (h + 2) (f (34 + t)) = nI (aLight f (f (34 + t))) := by rw [hM _ (by omega)]; exact hL _ (by omega)
      have fin : ∀ l4, gR (gcl (d + 1)) (0, fun _ => 0) 44 52 [some (.ref h), some (.int (nI (aWho f (t + 1)))), some (.int (nI (aLight f (f (34 + aWho f (t + 1)))))), some (.int (nI t)), l4] [] sh (gr M1 (h + 1) (upd (M1 (h + 1)) (39 + t) (nI (f (38 + t) + aLight f (f (34 + t)))))) 0 0 Q := by
        intro l4
        simp (disch := omega) only [u44_0, u44_2, u44_3, u44_4, u44_5, u44_6, u44_8, u44_9, u44_12, u44_15, u44_16, u44_19, u44_20, u44_21, u44_24, u44_25, u44_27, u44_28, u44_31, u44_33, u44_34, u44_35, u44_36, u44_37, u44_39, u44_40, u44_41, u44_43, u44_44, u44_47, u44_48, u44_49, u44_51, u44_52, u44_55, u44_58, u44_59, gfv_s, gfv_n, gop1_s, nI_add, pk_mul, nIcl, vinT, nIle, nIlt, nIeq, true_and, and_true, List.cons_append, List.nil_append, List.length_nil, List.length_cons, Nat.zero_le, Nat.reduceLeDiff, Nat.reduceAdd, Nat.reduceMul]
        have := ih (t + 1) (gr M1 (h + 1) (upd (M1 (h + 1)) (39 + t) (nI (f (38 + t) + aLight f (f (34 + t)))))) l4 (by omega) ?_ (fun k hk => ?_) (fun a ha => ?_)
        · rw [if_neg (by omega), if_neg (by omega)] at this
          exact this
        · rw [gr_at]
          refine ⟨?_, ?_, fun j hj => ?_⟩
          · rw [upd_ne (by omega), o1, aLit_lo _ _ _ (by omega), aLit_lo _ _ _ (by omega)]
          · rw [upd_ne (by omega), o2, aLit_lo _ _ _ (by omega), aLit_lo _ _ _ (by omega)]
          · rw [aLit_lo _ _ _ (by omega)] at hj
            obtain ⟨c1, c2, c3⟩ := o3 j (by omega)
            refine ⟨?_, ?_, ?_⟩
            · rw [upd_ne (by omega), c1, aLit_lo _ _ _ (by omega), aLit_lo _ _ _ (by omega)]
            · by_cases q : j = t
              · subst q
                rw [upd_at]
                congr 1
                unfold aLit
                rw [if_pos (by omega), Nat.add_sub_cancel_left]
              · rw [upd_ne (by omega), c2]
                congr 1
                unfold aLit
                (repeat' split) <;> first | rfl | omega
            · rw [upd_ne (by omega), c3]
              congr 1
              unfold aLit
              rw [if_neg (by omega), if_neg (by omega)]
        · rw [gr_at, upd_ne (by omega)]
          exact hK k hk
        · rw [gr_ne ha]
          exact hM a ha
      rw [u44_7]
      simp (disch := first | omega | assumption) only [u44_0, u44_2, u44_3, u44_4, u44_5, u44_6, u44_8, u44_9, u44_12, u44_15, u44_16, u44_19, u44_20, u44_21, u44_24, u44_25, u44_27, u44_28, u44_31, u44_33, u44_34, u44_35, u44_36, u44_37, u44_39, u44_40, u44_41, u44_43, u44_44, u44_47, u44_48, u44_49, u44_51, u44_55, u44_58, u44_59, k1, k2, k3, k5, k6, k7, k8, c_houses, c_home, o2, e3, b1, b2, L1, gfv_s, gfv_n, gop1_s, nI_add, pk_mul, nIcl, vinT, nIle, nIlt, nIeq, true_and, and_true, List.cons_append, List.nil_append, List.length_nil, List.length_cons, Nat.zero_le, Nat.reduceLeDiff, Nat.reduceAdd, Nat.reduceMul]
      refine ⟨fun q => absurd q (by omega), fun _ => ?_⟩
      by_cases t0 : t = 0
      · subst t0
        simp (disch := omega) only [if_true, nIle, nIlt]
        refine ⟨fun q => absurd q (by omega), fun _ => ?_⟩
        have := fin (some (.int (nI (aLight f (f (34 + 0))))))
        rw [aWho_s, show aWho f 0 = 0 from rfl, if_neg (by omega)] at this
        exact this
      · simp (disch := omega) only [if_neg t0, nIle, nIlt]
        refine ⟨fun q => ?_, fun q => ?_⟩
        · have := fin (some (.int (nI (aLight f (f (34 + t))))))
          rw [aWho_s, if_neg (by omega)] at this
          exact this
        · have := fin (some (.int (nI (aLight f (f (34 + t))))))
          rw [aWho_s, if_pos (by omega)] at this
          exact this
  rw [e44]
  simp only [u44_0, u44_2, u44_3, u44_4, u44_5, u44_6, u44_8, u44_9, u44_12, u44_15, u44_16, u44_19, u44_20, u44_21, u44_24, u44_25, u44_27, u44_28, u44_31, u44_33, u44_34, u44_35, u44_36, u44_37, u44_39, u44_40, u44_41, u44_43, u44_44, u44_47, u44_48, u44_49, u44_51, u44_52, u44_55, u44_58, u44_59]
  refine loop (f 3) 0 M none (by omega) ?_ (fun _ _ => rfl) (fun _ _ => rfl)
  rw [show aLit f 0 = f by funext k; unfold aLit; rw [if_neg (by omega)]]
  exact hO
theorem c_settle {w p : Nat} (hh : gHl sh h) (hw : w < 4) : gcl (d + 1) 35 [.ref h, .int (nI w), .int (nI p)] sh M Q = Q [] sh (gr M (h + 1) (upd (M (h + 1)) (35 + w) (nI p))) := by
  obtain ⟨k1, k2, -, -, ⟨k5, k6⟩, -⟩ := hh
  rw [e35]
  simp (disch := omega) only [u35_0, u35_1, u35_4, u35_6, u35_7, u35_8, u35_9, u35_10, k1, k2, k5, k6, gfv_s, gfv_n, gop1_s, nI_add, pk_mul, nIcl, vinT, nIle, nIlt, nIeq, true_and, and_true, List.cons_append, List.nil_append, List.length_nil, List.length_cons, Nat.zero_le, Nat.reduceLeDiff, Nat.reduceAdd, Nat.reduceMul]
theorem c_moveOut_no (hh : gHl sh h) (hQ : Q [.int (-1000000)] sh M) : gcl (d + 3) 45 [.ref h, .int (-1000000)] sh M Q := by
  rw [e45]
  simp (disch := first | omega | assumption) only [u45_0, u45_1, u45_3, u45_6, u45_8, u45_9, u45_11, u45_12, u45_13, u45_16, u45_17, u45_18, u45_21, u45_22, u45_23, u45_24, u45_27, u45_29, u45_30, u45_34, u45_36, u45_39, u45_40, u45_43, u45_45, u45_46, u45_47, u45_50, u45_52, u45_54, u45_55, u45_56, u45_57, u45_60, u45_62, u45_63, u45_64, u45_67, u45_69, u45_70, u45_71, u45_74, u45_77, u45_78, u45_80, u45_83, u45_85, u45_86, u45_87, u45_88, u45_89, u45_92, u45_93, u45_96, u45_98, u45_99, u45_100, u45_101, u45_102, u45_103, u45_104, u45_105, u45_106, gfv_s, gfv_n, gop1_s, nI_add, pk_mul, nIcl, vinT, nIle, nIlt, nIeq, true_and, and_true, List.cons_append, List.nil_append, List.length_nil, List.length_cons, Nat.zero_le, Nat.reduceLeDiff, Nat.reduceAdd, Nat.reduceMul]
  exact ⟨fun _ => hQ, fun q => (q (by simp)).elim⟩
theorem c_moveOut {w : Nat} {g : Nat → Nat} (hh : gHl sh h) (hO : cO (M (h + 1)) g) (hg : aWf g) (he : ∀ k, k < 38 → g k = f k) (hL : ∀ p, p < 12 → M (h + 2) p = nI (aLight f p)) (hw : w < f 3) (hb : ∀ k, k < 46 → g k < 950000)
    (hQ : Q [.int (if aBest f (f (34 + w)) 12 = f (34 + w) then -1000000 else nI w)] sh (if aBest f (f (34 + w)) 12 = f (34 + w) then M else gr M (h + 1) (upd (upd (M (h + 1)) (35 + w) (nI (aBest f (f (34 + w)) 12))) (43 + w) (nI (g (42 + w) + 1))))) : gcl (d + 3) 45 [.ref h, .int (nI w)] sh M Q := by
  obtain ⟨k1, k2, k3, k4, ⟨k5, k6⟩, ⟨k7, k8⟩, -⟩ := id hh
  obtain ⟨o1, o2, o3⟩ := id hO
  have h3 := hg.1.2.2.2
  have e3 := he 3 (by omega)
  obtain ⟨b1, b2, b3⟩ := o3 w (by omega)
  have h34 := hg.2.2.1 w (by omega)
  rw [he (34 + w) (by omega)] at b1 h34
  have hbw := hb (42 + w) (by omega)
  have hHP : aHP g (g 3) < 2 ^ 12 := aBits_lt _ 12
  have loop : ∀ n t, t + n = 12 → gR (gcl (d + 2)) (0, fun _ => 0) 45 32 [some (.ref h), some (.int (nI w)), some (.int (if aBest f (f (34 + w)) t = f (34 + w) then -1000000 else nI (aBest f (f (34 + w)) t))), some (.int (nI (aLight f (aBest f (f (34 + w)) t)))), some (.int (nI (aHP g (g 3)))), some (.int (nI t))] [] sh M 0 0 Q := by
    intro n
    induction n with
    | zero =>
      intro t ht
      obtain rfl : t = 12 := by omega
      have hle := aBest_le (f := f) h34 12 (by omega)
      rw [u45_32]
      simp (disch := first | omega | assumption) only [u45_0, u45_1, u45_3, u45_6, u45_8, u45_9, u45_11, u45_12, u45_13, u45_16, u45_17, u45_18, u45_21, u45_22, u45_23, u45_24, u45_27, u45_29, u45_30, u45_34, u45_36, u45_39, u45_40, u45_43, u45_45, u45_46, u45_47, u45_50, u45_52, u45_54, u45_55, u45_56, u45_57, u45_60, u45_62, u45_63, u45_64, u45_67, u45_69, u45_70, u45_71, u45_74, u45_77, u45_78, u45_80, u45_83, u45_85, u45_86, u45_87, u45_88, u45_89, u45_92, u45_93, u45_96, u45_98, u45_99, u45_100, u45_101, u45_102, u45_103, u45_104, u45_105, u45_106, gfv_s, gfv_n, gop1_s, nI_add, pk_mul, nIcl, vinT, nIle, nIlt, nIeq, true_and, and_true, List.cons_append, List.nil_append, List.length_nil, List.length_cons, Nat.zero_le, Nat.reduceLeDiff, Nat.reduceAdd, Nat.reduceMul]
      refine ⟨fun _ => ?_, fun q => (q (by simp)).elim⟩
      by_cases q : aBest f (f (34 + w)) 12 = f (34 + w)
      · rw [if_pos q, if_pos q] at hQ
        rw [if_pos q]
        exact ⟨fun _ => hQ, fun q => absurd rfl q⟩
      · rw [if_neg q, if_neg q] at hQ
        rw [if_neg q]
        simp (disch := first | omega | assumption) only [nIno, c_settle, k1, k2, k5, k6, gr_at, gr_gr, upd_ne, b3, u45_0, u45_1, u45_3, u45_6, u45_8, u45_9, u45_11, u45_12, u45_13, u45_16, u45_17, u45_18, u45_21, u45_22, u45_23, u45_24, u45_27, u45_29, u45_30, u45_34, u45_36, u45_39, u45_40, u45_43, u45_45, u45_46, u45_47, u45_50, u45_52, u45_54, u45_55, u45_56, u45_57, u45_60, u45_62, u45_63, u45_64, u45_67, u45_69, u45_70, u45_71, u45_74, u45_77, u45_78, u45_80, u45_83, u45_85, u45_86, u45_87, u45_88, u45_89, u45_92, u45_93, u45_96, u45_98, u45_99, u45_100, u45_101, u45_102, u45_103, u45_104, u45_105, u45_106, gfv_s, gfv_n, gop1_s, nI_add, pk_mul, nIcl, vinT, nIle, nIlt, nIeq, true_and, and_true, List.cons_append, List.nil_append, List.length_nil, List.length_cons, Nat.zero_le, Nat.reduceLeDiff, Nat.reduceAdd, Nat.reduceMul]
        refine ⟨fun q => q.elim, fun _ => ?_⟩
        exact hQ
    | succ n ih =>
      intro t ht
      have hle := aBest_le (f := f) h34 t (by omega)
      have hl := aLight_le f t
      have hl2 := aLight_le f (aBest f (f (34 + w)) t)
      have e := nIbit2 (n := aHP g (g 3)) (k := t) (by omega) (by omega)
      have e2 := aHP_b (f := g) (p := t) (by omega)
      rw [aFree_c (f := f) (g := g) (by omega) he] at e2
      have hm : aHP g (g 3) / 2 ^ t % 2 < 2 := Nat.mod_lt _ (by omega)
      have nx := ih (t + 1) (by omega)
      rw [u45_32]
      simp (disch := first | omega | assumption) only [u45_0, u45_1, u45_3, u45_6, u45_8, u45_9, u45_11, u45_12, u45_13, u45_16, u45_17, u45_18, u45_21, u45_22, u45_23, u45_24, u45_27, u45_29, u45_30, u45_34, u45_36, u45_39, u45_40, u45_43, u45_45, u45_46, u45_47, u45_50, u45_52, u45_54, u45_55, u45_56, u45_57, u45_60, u45_62, u45_63, u45_64, u45_67, u45_69, u45_70, u45_71, u45_74, u45_77, u45_78, u45_80, u45_83, u45_85, u45_86, u45_87, u45_88, u45_89, u45_92, u45_93, u45_96, u45_98, u45_99, u45_100, u45_101, u45_102, u45_103, u45_104, u45_105, u45_106, k1, k2, k3, k7, k8, hL, e, nIz, gfv_s, gfv_n, gop1_s, nI_add, pk_mul, nIcl, vinT, nIle, nIlt, nIeq, true_and, and_true, List.cons_append, List.nil_append, List.length_nil, List.length_cons, Nat.zero_le, Nat.reduceLeDiff, Nat.reduceAdd, Nat.reduceMul]
      refine ⟨fun q => absurd q (by omega), fun _ => ⟨fun q => ?_, fun q => ⟨fun q2 => ?_, fun q2 => ?_⟩⟩⟩
      · rw [show aBest f (f (34 + w)) (t + 1) = aBest f (f (34 + w)) t by rw [aBest_s, if_neg (by omega)]] at nx
        exact nx
      · rw [e2] at q2
        rw [show aBest f (f (34 + w)) (t + 1) = t by rw [aBest_s, if_pos ⟨q2, by omega⟩], if_neg (aFree_ne hw q2)] at nx
        exact nx
      · rw [e2] at q2
        rw [show aBest f (f (34 + w)) (t + 1) = aBest f (f (34 + w)) t by rw [aBest_s, if_neg (fun x => q2 x.1)]] at nx
        exact nx
  rw [e45]
  simp (disch := first | omega | assumption) only [u45_0, u45_1, u45_3, u45_6, u45_8, u45_9, u45_11, u45_12, u45_13, u45_16, u45_17, u45_18, u45_21, u45_22, u45_23, u45_24, u45_27, u45_29, u45_30, u45_34, u45_36, u45_39, u45_40, u45_43, u45_45, u45_46, u45_47, u45_50, u45_52, u45_54, u45_55, u45_56, u45_57, u45_60, u45_62, u45_63, u45_64, u45_67, u45_69, u45_70, u45_71, u45_74, u45_77, u45_78, u45_80, u45_83, u45_85, u45_86, u45_87, u45_88, u45_89, u45_92, u45_93, u45_96, u45_98, u45_99, u45_100, u45_101, u45_102, u45_103, u45_104, u45_105, u45_106, nIno, k1, k3, k7, k8, c_home, b1, hL, gfv_s, gfv_n, gop1_s, nI_add, pk_mul, nIcl, vinT, nIle, nIlt, nIeq, true_and, and_true, List.cons_append, List.nil_append, List.length_nil, List.length_cons, Nat.zero_le, Nat.reduceLeDiff, Nat.reduceAdd, Nat.reduceMul]
  refine ⟨fun q => q.elim, fun _ => ?_⟩
  refine c_housePlaces hh hO hg ?_
  simp (disch := first | omega | assumption) only [u45_0, u45_1, u45_3, u45_6, u45_8, u45_9, u45_11, u45_12, u45_13, u45_16, u45_17, u45_18, u45_21, u45_22, u45_23, u45_24, u45_27, u45_29, u45_30, u45_34, u45_36, u45_39, u45_40, u45_43, u45_45, u45_46, u45_47, u45_50, u45_52, u45_54, u45_55, u45_56, u45_57, u45_60, u45_62, u45_63, u45_64, u45_67, u45_69, u45_70, u45_71, u45_74, u45_77, u45_78, u45_80, u45_83, u45_85, u45_86, u45_87, u45_88, u45_89, u45_92, u45_93, u45_96, u45_98, u45_99, u45_100, u45_101, u45_102, u45_103, u45_104, u45_105, u45_106, gfv_s, gfv_n, gop1_s, nI_add, pk_mul, nIcl, vinT, nIle, nIlt, nIeq, true_and, and_true, List.cons_append, List.nil_append, List.length_nil, List.length_cons, Nat.zero_le, Nat.reduceLeDiff, Nat.reduceAdd, Nat.reduceMul]
  have := loop 12 0 (by omega)
  rw [show aBest f (f (34 + w)) 0 = f (34 + w) from rfl, if_pos rfl] at this
  exact this
end G33
