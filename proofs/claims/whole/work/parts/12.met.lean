/-! a call of the small machine is a contract -/
def gcl : Nat → gCa
  | 0, _, _, _, _, _ => False
  | d + 1, mi, as, sh, M, Q => (mi < 205 ∧ gchk mi as = true) ∧ gR (gcl d) (0, fun _ => 0) mi 0 (gent mi as) [] sh M 0 0 Q
theorem gcl_m : ∀ d, gCm (gcl d)
  | 0 => fun _ _ _ _ _ _ _ h => h.elim
  | d + 1 => fun _ _ _ _ _ _ hQ h => ⟨h.1, gR_m (gcl_m d) hQ h.2⟩
set_option maxHeartbeats 4000000 in
theorem gmet (l : Launch) : ∀ (d a : Nat) (As : List Value) (sh : gS) (M : gM) (Q : gQ), gcl d a As sh M Q → gMet l d a As sh M Q
  | 0, _, _, _, _, _, h => h.elim
  | d + 1, mi, As, sh, M, Q, h => by
    obtain ⟨⟨hmi, hchk⟩, h⟩ := h
    simp only [gchk, Bool.and_eq_true, Bool.or_eq_true, beq_iff_eq, decide_eq_true_eq] at hchk
    obtain ⟨⟨hna, hlen⟩, hcat⟩ := hchk
    intro β sp cs dC dI
    have hlaw : ¬ mi = gLAW := Nat.ne_of_lt hmi
    obtain ⟨hcl, hpl, hm20, hmh⟩ := gyn_ok mi hmi
    refine va_MetF (cc := gby mi) (maxL := gml mi) (ret := grt mi) hpl rfl ?_
    intro p e s m args below meth c s₁ B hml hv
    obtain ⟨rfl, hH, hE, hP, hD⟩ := hv
    have hlk := B.notSynchronized
    have hw := atoms_spec (ws := gws mi) B.pre
    have hCx : gCx p (headSpec (gws mi) (grm (d + 1) mi)).room s m (As.map (grv β sp)).toArray meth c β sp cs dC dI mi d (0, fun _ => 0) := by
      refine ⟨B.exec, B.bytes, hml, by rw [← hcl]; exact findClass_of_methodNamed B.named, fun w h => hw w (List.mem_cons_of_mem _ h), hE, by omega, ⟨Nat.le_refl _, Nat.le_refl _⟩, ⟨Nat.le_refl _, Nat.le_refl _⟩, fun k hk => ?_, fun hn => ?_⟩
      · replace hk := hk.resolve_right (fun q => hlaw q.1)
        unfold gro at hk ⊢
        by_cases h0 : k = 0
        · rw [if_pos h0, if_neg hlaw] at hk
          exact absurd rfl hk
        · rw [if_neg h0] at hk ⊢
          by_cases h1 : k = 1
          · rw [if_pos h1]
            subst h1
            exact (hE.2.2.2.2 1 (Or.inl rfl)).2
          · rw [if_neg h1] at hk ⊢
            by_cases h2 : k = 2
            · rw [if_pos h2]
              subst h2
              exact (hE.2.2.2.2 2 (Or.inr (Or.inl rfl))).2
            · rw [if_neg h2] at hk ⊢
              by_cases h3 : k = 3
              · rw [if_pos h3]
                subst h3
                exact (hE.2.2.2.2 3 (Or.inr (Or.inr rfl))).2
              · rw [if_neg h3] at hk
                exact absurd rfl hk
      · have := (name_of_methodNamed B.named B.method).1
        rw [this]
        exact hn
    have hgf : ∀ kc ks, gfin mi kc ks → kc = (gbu mi).1 ∧ ks ≤ (gbu mi).2 := fun kc ks h9 => by
      unfold gfin at h9
      rw [if_neg hlaw] at h9
      exact h9
    have hRi : gRi p l e (headSpec (gws mi) (grm (d + 1) mi)).room s m (As.map (grv β sp)).toArray below meth c (MQ below (gQc β sp cs dC dI mi sh Q) (As.map (grv β sp)).toArray s (gbu mi).1 (gbu mi).2 (gA β)) β sp cs dC dI mi Q := by
      refine ⟨fun x sh' M' kc ks H locs ls pc hgb hf hq hP' hD' hS' hsz' hdg => ?_, fun sh' M' kc ks H locs ls pc hgr hf hq hP' hD' hS' hsz' hdg => ?_⟩
      · obtain ⟨hkc, hks⟩ := hgf kc ks hf
        refine W.widen (k := (gbu mi).1) (n := (gbu mi).2) (by omega) hks ?_
        have hr := B.returns
        have hq2 : ∀ t : State, t.heap = H → s.WarmedH t.vm → gQc β sp cs dC dI mi sh Q (As.map (grv β sp)).toArray s (.returned (some (.int x))) t := fun t ht hW => ⟨⟨[.int x], sh', M', rfl, Nat.le_refl 1, hq, by omega, by rw [ht]; exact hP', hD'⟩, hS'.F ht⟩
        rcases hgb with h1 | ⟨h1, h01⟩
        · rw [h1] at hr
          exact W.iret B.exec B.bytes hr hq2 hS'.2.2 hdg
        · rw [h1] at hr
          exact W.zret B.exec B.bytes hr (by rcases h01 with rfl | rfl <;> rfl) hq2 hS'.2.2 hdg
      · obtain ⟨hkc, hks⟩ := hgf kc ks hf
        refine W.widen (k := (gbu mi).1) (n := (gbu mi).2) (by omega) hks ?_
        have hr := B.returns
        rw [hgr] at hr
        exact W.vret B.exec B.bytes hr (fun t ht hW => ⟨⟨[], sh', M', rfl, Nat.zero_le 1, hq, by omega, by rw [ht]; exact hP', hD'⟩, hS'.F ht⟩) hS'.2.2 hdg
    have hst := h (gWp p l e (headSpec (gws mi) (grm (d + 1) mi)).room s m (As.map (grv β sp)).toArray below meth c (MQ below (gQc β sp cs dC dI mi sh Q) (As.map (grv β sp)).toArray s (gbu mi).1 (gbu mi).2 (gA β)) β sp cs dC dI mi) (gsnd hCx (gmet l d) hRi)
    rw [lg_entry_eq]
    have hlv := lv_entry (As.map (grv β sp)) (n := gml mi) (by rw [glo_len]; exact hlen)
    refine hst s.heap [] _ ⟨hlv.1, hlv.2.1, fun k v hk => ?_⟩ ?_ ?_ hP hD va_S.rf (by omega)
    · have := hlv.2.2 _ (glo_args (β := β) (sp := sp) As 0 k v (gent_get hk))
      simpa using this
    · rcases hcat with h1 | h1
      · exact Or.inl h1
      · exact Or.inr fun k v hk => glo_cat As h1 k v (gent_get hk)
    · unfold gent
      simp
      omega
