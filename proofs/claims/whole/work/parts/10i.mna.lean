/-! new int[n][k] -/
section GI
variable {p : Program} {l : Launch} {e : Env} {R : Room} {s : State} {m : MethodId} {args : Array Value} {below : List Frame} {meth : Method} {c : Code} {Qf : State → Prop}
variable {β : Nat} {sp : UInt32 → Nat} {cs dC : Nat → ClassId} {dI : Nat → Nat → Nat} {mi d : Nat} {X : Nat × (Nat → Int32)}
variable {pc n a b : Nat} {z : Int} {lv : gL} {sh : gS} {M : gM} {kc ks : Nat}
theorem gw_mna (N K : Nat) : (gw β sp cs sh M ++ [(β + sh.length, .inl (cs 2, N, .inr (.inr (.inr (.inr (fun i => if i < N then some (β + sh.length + 1 + i) else none))))))]) ++ (List.range N).map (fun i => (β + sh.length + 1 + i, (.inl (cs 0, K, .inl (fun _ => 0)) : va_E))) = gw β sp cs (sh ++ .inl (2, N, (List.range N).map (fun i => sh.length + 1 + i)) :: List.replicate N (.inl (0, K, []))) (fun q => if sh.length ≤ q then fun _ => 0 else M q) := by
  apply List.ext_getElem?
  intro i
  by_cases h1 : i < sh.length
  · have h0 : sh[i]? = some sh[i] := List.getElem?_eq_getElem h1
    rw [List.append_assoc, List.getElem?_append_left (by rw [gw_len]; exact h1), gw_get h0, gw_get (c := sh[i]) (by rw [List.getElem?_append_left h1]; exact h0), if_neg (by omega)]
  · by_cases h2 : i = sh.length
    · subst h2
      rw [List.getElem?_append_left (by simp [gw_len]), List.getElem?_append_right (by rw [gw_len]; exact Nat.le_refl _), gw_len, Nat.sub_self, gw_get (c := .inl (2, N, (List.range N).map (fun i => sh.length + 1 + i))) (by rw [List.getElem?_append_right (Nat.le_refl _), Nat.sub_self]; rfl)]
      show some _ = some (_, Sum.inl (cs 2, N, Sum.inr (Sum.inr (Sum.inr (Sum.inr _)))))
      congr 9
      funext j
      by_cases hj : j < N
      · rw [if_pos hj, List.getElem?_map, List.getElem?_range hj]
        show some (β + sh.length + 1 + j) = some (β + (sh.length + 1 + j))
        congr 1
        omega
      · rw [if_neg hj, List.getElem?_eq_none (by simpa using hj)]
        rfl
    · obtain ⟨t, rfl⟩ : ∃ t, i = sh.length + 1 + t := ⟨i - (sh.length + 1), by omega⟩
      rw [List.getElem?_append_right (by simp [gw_len])]
      have e1 : sh.length + 1 + t - (gw β sp cs sh M ++ [(β + sh.length, (.inl (cs 2, N, .inr (.inr (.inr (.inr (fun i => if i < N then some (β + sh.length + 1 + i) else none))))) : va_E))]).length = t := by simp [gw_len]
      rw [e1]
      by_cases ht : t < N
      · rw [List.getElem?_map, List.getElem?_range ht, gw_get (c := .inl (0, K, [])) (by rw [List.getElem?_append_right (by omega), show sh.length + 1 + t - sh.length = t + 1 by omega, List.getElem?_cons_succ, List.getElem?_replicate, if_pos ht]), if_pos (by omega)]
        have e2 : β + sh.length + 1 + t = β + (sh.length + 1 + t) := by omega
        show some (β + sh.length + 1 + t, _) = some (β + (sh.length + 1 + t), _)
        rw [e2]
        rfl
      · rw [List.getElem?_eq_none (by simpa using ht), List.getElem?_eq_none (by rw [gw_len]; simp; omega)]
set_option maxHeartbeats 4000000 in
theorem gh_mna {k dd : Nat} {x y : Int32} {r : List Value} (hCx : gCx p R s m args meth c β sp cs dC dI mi d X) (hop : gop mi pc = some (.multianewarray k dd, n, a, b, z)) (h : ((¬ x < 0 ∧ x.toNatClampNeg ≤ 1000) ∧ (¬ y < 0 ∧ y.toNatClampNeg ≤ 1000) ∧ gro1 mi kc ks (1 + x.toNatClampNeg) (x.toNatClampNeg + x.toNatClampNeg * y.toNatClampNeg)) ∧ gWp p l e R s m args below meth c Qf β sp cs dC dI mi (pc + n) lv (.ref sh.length :: r) (sh ++ .inl (2, x.toNatClampNeg, (List.range x.toNatClampNeg).map (fun i => sh.length + 1 + i)) :: List.replicate x.toNatClampNeg (.inl (0, y.toNatClampNeg, []))) (fun q => if sh.length ≤ q then fun _ => 0 else M q) (kc + 1 + x.toNatClampNeg) (ks + x.toNatClampNeg + x.toNatClampNeg * y.toNatClampNeg)) : gWp p l e R s m args below meth c Qf β sp cs dC dI mi pc lv (.int y :: .int x :: r) sh M kc ks := by
  obtain ⟨hx, hb, hml, hown, hts, hE, hβ, ⟨hfr, hlo⟩, ⟨hce, hsl⟩, hro, hini⟩ := hCx
  intro H locs ls hL hnl hll hP hD hS hsz
  have hok := gopok hop
  simp only [gokb, gokx, Bool.and_eq_true, beq_iff_eq, decide_eq_true_eq] at hok
  obtain ⟨hdg, ⟨⟨rfl, how⟩, rfl⟩, rfl⟩ := hok
  rw [how] at hown
  obtain ⟨⟨⟨hx0, hx1⟩, ⟨hy0, hy1⟩, hc1, hc2⟩, h⟩ := h
  refine gWsz (fun hle => ?_)
  have hlw := gsz_lo hP (Nat.le_trans hβ hS.1)
  have hH : H.size = β + sh.length := by omega
  have hP0 : va_P (dC, dI) vwCl (gw β sp cs sh M ++ va_pl [] (fun _ => .inr (0, []))) H := by show va_P _ _ (_ ++ []) H; rw [List.append_nil]; exact hP
  have hD0 : va_D (gA β) (gw β sp cs sh M ++ va_pl [] (fun _ => .inr (0, []))) := by show va_D _ (_ ++ []); rw [List.append_nil]; exact hD
  refine va_mna (ty := .int) (cy := cs 0) (z := (y.toNatClampNeg, .inl (fun _ => 0))) (L := []) (f := fun _ => .inr (0, [])) (own := RX4) hx hb hown (hts _ (gtb_in gac_ok.2.2)) hE.2.2.2.1 (hts _ (gtb_in gac_ok.1)) (hE.1.2 0 _ rfl).2 hE.1 hP0 hD0 hS (fun q hq => Nat.le_trans hβ hq) hx0 hy0 rfl rfl (by omega) (by show _ * 4 ≤ _; omega) (by omega) rfl rfl (by omega) (by omega) (fun c9 => ?_) hdg (fun q9 r9 cA H1 hq9 hr9 _ _ hK1 hP1 hD1 hS1 => ?_)
  · rw [vp_cell_i, ← arrV_new]; rfl
  · have hcA : cA = cs 2 := by
      have h9 := (hK1.2 3 _ rfl).2
      exact Option.some.inj (Eq.trans (Eq.symm h9) (hE.1.2 2 _ rfl).2)
    subst hcA
    have hr0 : r9 = fun i => β + sh.length + 1 + i := by funext i; rw [hr9 i, hH]
    rw [hH] at hq9
    subst hq9
    subst hr0
    have e9 : va_pl ([] ++ (List.range x.toNatClampNeg).map (fun i => β + sh.length + 1 + i)) (vr_up (fun _ => .inr (0, [])) ((List.range x.toNatClampNeg).map (fun i => β + sh.length + 1 + i)) (.inl (cs 0, y.toNatClampNeg, .inl (fun _ => 0)))) = (List.range x.toNatClampNeg).map (fun i => (β + sh.length + 1 + i, (.inl (cs 0, y.toNatClampNeg, .inl (fun _ => 0)) : va_E))) := by
      unfold va_pl
      rw [List.nil_append, List.map_map]
      apply List.map_congr_left
      intro i hi
      show (_, vr_up _ _ _ _) = _
      rw [vr_up_in (List.mem_map.mpr ⟨i, hi, rfl⟩)]
    have hw9 := gw_mna (β := β) (sp := sp) (cs := cs) (sh := sh) (M := M) x.toNatClampNeg y.toNatClampNeg
    rw [e9] at hP1 hD1
    exact h H1 locs ls hL hnl hll (by rw [← hw9]; exact hP1) (by rw [← hw9]; exact hD1) hS1 (by simp; omega)
end GI
