/-! makings and calls -/
section GH
variable {p : Program} {l : Launch} {e : Env} {R : Room} {s : State} {m : MethodId} {args : Array Value} {below : List Frame} {meth : Method} {c : Code} {Qf : State → Prop}
variable {β : Nat} {sp : UInt32 → Nat} {cs dC : Nat → ClassId} {dI : Nat → Nat → Nat} {mi d : Nat} {X : Nat × (Nat → Int32)} {C : gCa}
variable {pc n a b : Nat} {z : Int} {lv : gL} {st : List Value} {sh : gS} {M : gM} {kc ks : Nat}
def gCx (p : Program) (R : Room) (s : State) (m : MethodId) (args : Array Value) (meth : Method) (c : Code) (β : Nat) (sp : UInt32 → Nat) (cs dC : Nat → ClassId) (dI : Nat → Nat → Nat) (mi d : Nat) (X : Nat × (Nat → Int32)) : Prop :=
  p.tables.exec = Jvm.exec ∧ c.code = gby mi ∧ c.maxLocals = gml mi ∧ s.vm.findClass (gCn (gow mi)) = some m.cls ∧ (∀ w ∈ gtb, w.before args s = true) ∧ gEnv β sp cs dC dI s ∧ β ≤ s.heap.size ∧ (d + 1 ≤ R.frames ∧ 60 * (d + 1) ≤ R.locals) ∧ ((gbu mi).1 ≤ R.cells ∧ (gbu mi).2 ≤ R.slots) ∧ (∀ k, (¬ (gro mi X k).1 = 0 ∨ (mi = gLAW ∧ k = 0)) → va_T .int (sp k) (gro mi X k).1 (fun j => .int ((gro mi X k).2 j)) (gA β) s s.heap) ∧ ((gy mi).name = "<init>" → meth.name = "<init>")
theorem gh_push (hE : gEnv β sp cs dC dI s) {H H1 : Heap} {locs : List Loc} (hP : va_P (dC, dI) vwCl (gw β sp cs sh M) H) (hD : va_D (gA β) (gw β sp cs sh M)) (hS : va_S (gA β) s.heap H locs) (hβ : β ≤ s.heap.size) (hH : H.size = β + sh.length) (cc : gC) (f : Nat → Int32) (z1 : H1.size = β + sh.length + 1) (o1 : ∀ q, q < β + sh.length → H1[q]? = H[q]?) (hn : va_at (dC, dI) vwCl (β + sh.length, gce β sp cs cc f) H1) : va_P (dC, dI) vwCl (gw β sp cs (sh ++ [cc]) (gr M sh.length f)) H1 ∧ va_D (gA β) (gw β sp cs (sh ++ [cc]) (gr M sh.length f)) ∧ va_S (gA β) s.heap H1 locs := by
  have hk : ∀ (k : Nat) (x : Nat × va_E), (gw β sp cs sh M)[k]? = some x → H1[x.1]? = H[x.1]? := fun k x hx => o1 x.1 (by rw [← hH]; exact (hP k x hx).lt)
  rw [← gw_push]
  refine ⟨(hP.kept hk).app (fun k x hx => ?_), hD.push hP hH.symm (Nat.le_add_right _ _), ⟨Nat.le_trans hS.1 (by omega), fun q h1 h2 => (o1 q (by have := hS.1; omega)).trans (hS.2.1 q h1 h2), hS.2.2⟩⟩
  have hz : k < 1 := (List.getElem?_eq_some_iff.mp hx).1
  rw [show k = 0 by omega] at hx
  cases hx
  exact hn
set_option maxHeartbeats 4000000 in
theorem gh_new {k : Nat} (hCx : gCx p R s m args meth c β sp cs dC dI mi d X) (hop : gop mi pc = some (.new k, n, a, b, z)) (h : (b = gN a ∧ gro1 mi kc ks 1 b) ∧ gWp p l e R s m args below meth c Qf β sp cs dC dI mi (pc + n) lv (.ref sh.length :: st) (sh ++ [.inr (a, gdf a)]) (gr M sh.length (fun _ => 0)) (kc + 1) (ks + b)) : gWp p l e R s m args below meth c Qf β sp cs dC dI mi pc lv st sh M kc ks := by
  obtain ⟨hx, hb, hml, hown, hts, hE, hβ, ⟨hfr, hlo⟩, ⟨hce, hsl⟩, hro, hini⟩ := hCx
  intro H locs ls hL hnl hll hP hD hS hsz
  have hok := gopok hop
  simp only [gokb, gokx, Bool.and_eq_true, beq_iff_eq, decide_eq_true_eq] at hok
  obtain ⟨hdg, rfl, hm⟩ := hok
  obtain ⟨ha, hcl, hins, hin⟩ := gNw_ok _ hm
  dsimp only at ha hcl hins hin
  obtain ⟨⟨rfl, hc1, hc2⟩, h⟩ := h
  refine gWsz (fun hle => ?_)
  have hlw := gsz_lo hP (Nat.le_trans hβ hS.1)
  have hH : H.size = β + sh.length := by omega
  have hKn := hE.1.1 a _ (gvw a ha)
  refine W.newcK hx hb hown (hts _ (gtb_in hcl)) (hts _ (gtb_in hins)) (hts _ (gtb_in hin)) rfl hdg (by omega) (by omega) hKn.2.1 hH fun H1 kC hkC e1 z1 o1 => ?_
  obtain ⟨hP1, hD1, hS1⟩ := gh_push hE hP hD hS hβ hH (.inr (a, gdf a)) (fun _ => 0) z1 o1 ⟨_, gvw a ha, (u_born (gty a) hts (gus a ha) hKn hkC e1 (gtyok a ha)).to (fun j hj => by
    rw [gdfv a ha j hj]
    have hj9 : j < gN a := hj
    unfold vp_V
    rw [List.getD_eq_getElem?_getD, List.getElem?_mapIdx]
    unfold gdf
    rw [List.getElem?_map, List.getElem?_range hj9]
    by_cases hq : grT a j = true
    · simp [hq, gsv, grv]
    · simp [hq, gsv])⟩
  exact h H1 locs ls hL hnl hll hP1 hD1 hS1 (by simp; omega)
set_option maxHeartbeats 4000000 in
theorem gh_newa {t : ArrayType} {x : Int32} {r : List Value} (hCx : gCx p R s m args meth c β sp cs dC dI mi d X) (hop : gop mi pc = some (.newarray t, n, a, b, z)) (h : (¬ x < 0 ∧ x.toNatClampNeg ≤ 100000 ∧ gro1 mi kc ks 1 x.toNatClampNeg) ∧ gWp p l e R s m args below meth c Qf β sp cs dC dI mi (pc + n) lv (.ref sh.length :: r) (sh ++ [.inl (a, x.toNatClampNeg, [])]) (gr M sh.length (fun _ => 0)) (kc + 1) (ks + x.toNatClampNeg)) : gWp p l e R s m args below meth c Qf β sp cs dC dI mi pc lv (.int x :: r) sh M kc ks := by
  obtain ⟨hx, hb, hml, hown, hts, hE, hβ, ⟨hfr, hlo⟩, ⟨hce, hsl⟩, hro, hini⟩ := hCx
  intro H locs ls hL hnl hll hP hD hS hsz
  have hok := gopok hop
  simp only [gokb, gokx, Bool.and_eq_true, Bool.or_eq_true, beq_iff_eq, decide_eq_true_eq] at hok
  obtain ⟨hdg, rfl, ht⟩ := hok
  obtain ⟨⟨hx0, hx1, hc1, hc2⟩, h⟩ := h
  refine gWsz (fun hle => ?_)
  have hlw := gsz_lo hP (Nat.le_trans hβ hS.1)
  have hH : H.size = β + sh.length := by omega
  rcases ht with ⟨ht, rfl⟩ | ⟨ht, rfl⟩
  · obtain rfl : t = .int := by cases t <;> first | rfl | exact absurd ht (by decide)
    refine va_newaK (atype := .int) hx hb (hts _ (gtb_in gac_ok.1)) rfl hdg rfl hx0 rfl (by show _ * 4 ≤ _; omega) (by omega) (by omega) hH fun H1 cA e1 z1 o1 hAr hNm => ?_
    have hcA : cA = cs 0 := Option.some.inj (hNm.symm.trans (hE.1.2 0 _ rfl).2)
    subst hcA
    obtain ⟨hP1, hD1, hS1⟩ := gh_push hE hP hD hS hβ hH (.inl (0, x.toNatClampNeg, [])) (fun _ => 0) z1 o1 e1
    exact h H1 locs ls hL hnl hll hP1 hD1 hS1 (by simp; omega)
  · obtain rfl : t = .boolean := by cases t <;> first | rfl | exact absurd ht (by decide)
    refine va_newaK (atype := .boolean) hx hb (hts _ (gtb_in gac_ok.2.1)) rfl hdg rfl hx0 rfl (by show _ * 1 ≤ _; omega) (by omega) (by omega) hH fun H1 cA e1 z1 o1 hAr hNm => ?_
    have hcA : cA = cs 1 := Option.some.inj (hNm.symm.trans (hE.1.2 1 _ rfl).2)
    subst hcA
    obtain ⟨hP1, hD1, hS1⟩ := gh_push hE hP hD hS hβ hH (.inl (1, x.toNatClampNeg, [])) (fun _ => 0) z1 o1 e1
    exact h H1 locs ls hL hnl hll hP1 hD1 hS1 (by simp; omega)
theorem gmk_of {q : gQ5} (h : q ∈ gMt) : gMk q = true := List.all_eq_true.mp gMt_ok q h
theorem ggood {a : Nat} (ha : a < 205) : GoodIn gtb (gws a) := fun w hw => by
  rcases List.mem_cons.mp hw with rfl | hw
  · exact ⟨gtb_in (gcw_ok a ha), gtb_good (gtb_in (gcw_ok a ha))⟩
  · exact ⟨hw, gtb_good hw⟩
theorem gpre (hE : gEnv β sp cs dC dI s) {H : Heap} {locs : List Loc} (hP : va_P (dC, dI) vwCl (gw β sp cs sh M) H) (hD : va_D (gA β) (gw β sp cs sh M)) (hS : va_S (gA β) s.heap H locs) (hH : H.size = β + sh.length) (As : List Value) : ∀ U : State, U.heap = H → s.WarmedH U.vm → gPc β sp cs dC dI As sh M (As.map (grv β sp)).toArray U := fun U hU hW =>
  ⟨rfl, by rw [hU]; exact hH, gEnv_to hE hW (fun q h1 h2 => by rw [hU]; exact hS.2.1 q h1 h2), by rw [hU]; exact hP, hD⟩
theorem gstk {o : Nat} {r : List Value} (h : st.drop b = .ref o :: r) : st.map (grv β sp) = (((st.take b).reverse).map (grv β sp)).reverse ++ .ref (β + o) :: r.map (grv β sp) := by
  have : st = st.take b ++ .ref o :: r := by rw [← h, List.take_append_drop]
  conv => lhs; rw [this]
  rw [List.map_reverse, List.reverse_reverse, List.map_append]
  rfl
theorem gdl {o : Nat} {r : List Value} (h : st.drop b = .ref o :: r) : (((st.take b).reverse).map (grv β sp)).length = b := by
  have h2 : (st.drop b).length = r.length + 1 := by rw [h]; rfl
  simp at h2 ⊢
  omega
theorem gcb (hts : ∀ w ∈ gtb, w.before args s = true) (hfr : d + 1 ≤ R.frames) (hlo : 60 * (d + 1) ≤ R.locals) {ow k : Nat} {ret : Option FieldType} (ha : a < 205) (hret : grt a = ret) (hnp : (parseMethodDescriptor (gy a).desc).map (fun d => d.parameters.length) = some b) (hl : (Cond.methodLink (gCn ow) k (gy a)).before args s = true) : CallB R s args (gCn ow) k (gy a) (gby a) (gml a) ret (gws a) (grm d a) (gbu a).1 (gbu a).2 b := by
  obtain ⟨hcl, hpl, hm20, hmh⟩ := gyn_ok a ha
  subst hret
  exact callB_of b hts (ggood ha) rfl rfl rfl (by rw [hcl]; exact hts _ (gtb_in (gini_ok _ (gow_lt a ha)))) hl ⟨hmh.1, hmh.2, hnp⟩ ⟨hfr, by show 8 + (gml a + 11) + 60 * d ≤ _; omega⟩
set_option maxHeartbeats 4000000 in
theorem gh_virt {k o : Nat} {r : List Value} (hCx : gCx p R s m args meth c β sp cs dC dI mi d X) (hC : ∀ a As sh M Q', C a As sh M Q' → gMet l d a As sh M Q') (hop : gop mi pc = some (.invokevirtual k, n, a, b, z)) (hst : st.drop b = .ref o :: r) (h : (gci sh o = some (gow a) ∧ r.length ≤ 4 ∧ gro1 mi kc ks (gbu a).1 (gbu a).2) ∧ C a (.ref o :: (st.take b).reverse) sh M fun v sh' M' => gWp p l e R s m args below meth c Qf β sp cs dC dI mi (pc + n) lv (v ++ r) sh' M' (kc + (gbu a).1) (ks + (gbu a).2)) : gWp p l e R s m args below meth c Qf β sp cs dC dI mi pc lv st sh M kc ks := by
  obtain ⟨hx, hb, hml, hown, hts, hE, hβ, ⟨hfr, hlo⟩, ⟨hce, hsl⟩, hro, hini⟩ := hCx
  intro H locs ls hL hnl hll hP hD hS hsz
  have hok := gopok hop
  simp only [gokb, gokx, Bool.and_eq_true, beq_iff_eq, decide_eq_true_eq] at hok
  obtain ⟨hdg, ⟨rfl, hm⟩, rfl⟩ := hok
  have hmk : gM0 (gow mi, k, a, b, 0) = true := gmk_of hm
  simp only [gM0, gnp, Bool.and_eq_true, decide_eq_true_eq] at hmk
  obtain ⟨⟨⟨⟨⟨hnp, ha⟩, how⟩, hw1⟩, hw2⟩, hw3⟩ := hmk
  obtain ⟨⟨hci, hr4, hc1, hc2⟩, h⟩ := h
  obtain ⟨sl, ho, -⟩ := gci_inv hci
  refine gWsz (fun hle => ?_)
  have hlw := gsz_lo hP (Nat.le_trans hβ hS.1)
  have hH : H.size = β + sh.length := by omega
  rw [gstk hst]
  refine gcallgo (va_runV (C := gCn (gow a)) ⟨hx, hb, hml, hown, hts⟩ (hC _ _ _ _ _ h β sp cs dC dI) ⟨gcb hts hfr hlo ha rfl hnp (hts _ (gw1_in hw1)), hts _ (gw1_in hw2), hts _ (gw1_in hw3)⟩ ⟨gPc_blind, va_recv hE.1 hP (gvw _ how) (gw_get ho), gpre hE hP hD hS hH _⟩ rfl (gdl hst) hL.1 rfl (lv_room (gcat4 hr4)) hdg ⟨by omega, by omega⟩) hS (fun r' sh' M' H1 locs1 hq hr1 hl hP1 hD1 hS1 => ?_)
  rw [gr_app hr1]
  exact hq H1 locs1 ls hL hnl hll hP1 hD1 hS1 (by omega)
set_option maxHeartbeats 4000000 in
theorem gh_stat {k : Nat} (hCx : gCx p R s m args meth c β sp cs dC dI mi d X) (hC : ∀ a As sh M Q', C a As sh M Q' → gMet l d a As sh M Q') (hop : gop mi pc = some (.invokestatic k, n, a, b, z)) (hz : ¬ z = 5) (h : (b ≤ st.length ∧ (st.drop b).length ≤ 4 ∧ gro1 mi kc ks (gbu a).1 (gbu a).2) ∧ C a (st.take b).reverse sh M fun v sh' M' => gWp p l e R s m args below meth c Qf β sp cs dC dI mi (pc + n) lv (v ++ st.drop b) sh' M' (kc + (gbu a).1) (ks + (gbu a).2)) : gWp p l e R s m args below meth c Qf β sp cs dC dI mi pc lv st sh M kc ks := by
  obtain ⟨hx, hb, hml, hown, hts, hE, hβ, ⟨hfr, hlo⟩, ⟨hce, hsl⟩, hro, hini⟩ := hCx
  intro H locs ls hL hnl hll hP hD hS hsz
  have hok := gopok hop
  simp only [gokb, gokx, Bool.and_eq_true, Bool.or_eq_true, beq_iff_eq, decide_eq_true_eq] at hok
  obtain ⟨hdg, ⟨rfl, hm⟩, hz1⟩ := hok
  obtain rfl : z = 1 := hz1.resolve_right hz
  have hmk : gM1 (gow mi, k, a, b, 1) = true := gmk_of hm
  simp only [gM1, gnp, Bool.and_eq_true, decide_eq_true_eq] at hmk
  obtain ⟨⟨⟨hnp, ha⟩, hw1⟩, hw2⟩ := hmk
  obtain ⟨⟨hb1, hr4, hc1, hc2⟩, h⟩ := h
  refine gWsz (fun hle => ?_)
  have hlw := gsz_lo hP (Nat.le_trans hβ hS.1)
  have hH : H.size = β + sh.length := by omega
  have hsk : st.map (grv β sp) = (((st.take b).reverse).map (grv β sp)).reverse ++ (st.drop b).map (grv β sp) := by
    rw [List.map_reverse, List.reverse_reverse, ← List.map_append, List.take_append_drop]
  rw [hsk]
  refine gcallgo (va_runS ⟨hx, hb, hml, hown, hts⟩ (hC _ _ _ _ _ h β sp cs dC dI) ⟨gcb hts hfr hlo ha rfl hnp (hts _ (gw1_in hw1)), hts _ (gw1_in hw2)⟩ ⟨gPc_blind, gpre hE hP hD hS hH _⟩ rfl (by simp; omega) hL.1 rfl (lv_room (gcat4 hr4)) hdg ⟨by omega, by omega⟩) hS (fun r' sh' M' H1 locs1 hq hr1 hl hP1 hD1 hS1 => ?_)
  rw [gr_app hr1]
  exact hq H1 locs1 ls hL hnl hll hP1 hD1 hS1 (by omega)
set_option maxHeartbeats 4000000 in
theorem gh_ctor {k o : Nat} {r : List Value} (hCx : gCx p R s m args meth c β sp cs dC dI mi d X) (hC : ∀ a As sh M Q', C a As sh M Q' → gMet l d a As sh M Q') (hop : gop mi pc = some (.invokespecial k, n, a, b, z)) (hz : ¬ z = 4) (hst : st.drop b = .ref o :: r) (h : (r.length ≤ 4 ∧ gro1 mi kc ks (gbu a).1 (gbu a).2) ∧ C a (.ref o :: (st.take b).reverse) sh M fun v sh' M' => gWp p l e R s m args below meth c Qf β sp cs dC dI mi (pc + n) lv (v ++ r) sh' M' (kc + (gbu a).1) (ks + (gbu a).2)) : gWp p l e R s m args below meth c Qf β sp cs dC dI mi pc lv st sh M kc ks := by
  obtain ⟨hx, hb, hml, hown, hts, hE, hβ, ⟨hfr, hlo⟩, ⟨hce, hsl⟩, hro, hini⟩ := hCx
  intro H locs ls hL hnl hll hP hD hS hsz
  have hok := gopok hop
  simp only [gokb, gokx, Bool.and_eq_true, Bool.or_eq_true, beq_iff_eq, decide_eq_true_eq] at hok
  obtain ⟨hdg, ⟨rfl, hm⟩, hz1⟩ := hok
  have hz2 : z = 2 ∨ z = 3 := hz1.resolve_right hz
  obtain ⟨⟨hr4, hc1, hc2⟩, h⟩ := h
  refine gWsz (fun hle => ?_)
  have hlw := gsz_lo hP (Nat.le_trans hβ hS.1)
  have hH : H.size = β + sh.length := by omega
  rw [gstk hst]
  rcases hz2 with rfl | rfl
  · have hmk : (gM2 (gow mi, k, a, b, 2) && gw1 (gmw (gow mi, k, a, b, 2))) = true := gmk_of hm
    simp only [gM2, gnp, Bool.and_eq_true, decide_eq_true_eq] at hmk
    obtain ⟨⟨⟨⟨⟨hnp, ha⟩, hnam⟩, hret⟩, hw2⟩, hw1⟩ := hmk
    refine gcallgo (va_runI ⟨hx, hb, hml, hown, hts⟩ (hC _ _ _ _ _ h β sp cs dC dI) ⟨gcb hts hfr hlo ha hret hnp (hts _ (gw1_in hw1)), hnam, hts _ (gw1_in hw2)⟩ ⟨gPc_blind, gpre hE hP hD hS hH _⟩ rfl (gdl hst) hL.1 rfl (lv_room (gcat4 hr4)) hdg ⟨by omega, by omega⟩) hS (fun r' sh' M' H1 locs1 hq hr1 hl hP1 hD1 hS1 => ?_)
    rw [gr_app hr1]
    exact hq H1 locs1 ls hL hnl hll hP1 hD1 hS1 (by omega)
  · have hmk : (gM2 (gow mi, k, a, b, 3) && decide (gmwN (gow mi, k, a, b, 3) ∈ lw_tbl)) = true := gmk_of hm
    simp only [gM2, gnp, Bool.and_eq_true, decide_eq_true_eq] at hmk
    obtain ⟨⟨⟨⟨⟨hnp, ha⟩, hnam⟩, hret⟩, hw2⟩, hw1⟩ := hmk
    obtain ⟨hcl, hpl, hm20, hmh⟩ := gyn_ok a ha
    refine gcallgo (va_runIN (host := RX6) ⟨hx, hb, hml, hown, hts⟩ (hC _ _ _ _ _ h β sp cs dC dI) ⟨va_cnB (ret := none) (bytes := gby a) (maxL := gml a) b hts (ggood ha) (by unfold gws gcw; rw [hret]) rfl rfl (hE.2.2.1 _ hm rfl) (by rw [hcl]; exact hts _ (gtb_in (gini_ok _ (gow_lt a ha)))) ⟨hmh.1, hmh.2, hnp⟩ ⟨hfr, by show 8 + (gml a + 11) + 60 * d ≤ _; omega⟩, hnam, hts _ (gw1_in hw2)⟩ ⟨gPc_blind, gpre hE hP hD hS hH _⟩ rfl (gdl hst) hL.1 rfl (lv_room (gcat4 hr4)) hdg ⟨by omega, by omega⟩) hS (fun r' sh' M' H1 locs1 hq hr1 hl hP1 hD1 hS1 => ?_)
    rw [gr_app hr1]
    exact hq H1 locs1 ls hL hnl hll hP1 hD1 hS1 (by omega)
set_option maxHeartbeats 4000000 in
theorem gh_obj {k o : Nat} {r : List Value} (hCx : gCx p R s m args meth c β sp cs dC dI mi d X) (hop : gop mi pc = some (.invokespecial k, n, a, b, z)) (hz : z = 4) (hst : st.drop b = .ref o :: r) (h : r.length ≤ 4 ∧ gWp p l e R s m args below meth c Qf β sp cs dC dI mi (pc + n) lv r sh M kc ks) : gWp p l e R s m args below meth c Qf β sp cs dC dI mi pc lv st sh M kc ks := by
  obtain ⟨hx, hb, hml, hown, hts, hE, hβ, ⟨hfr, hlo⟩, ⟨hce, hsl⟩, hro, hini⟩ := hCx
  intro H locs ls hL hnl hll hP hD hS hsz
  have hok := gopok hop
  simp only [gokb, gokx, Bool.and_eq_true, Bool.or_eq_true, beq_iff_eq, decide_eq_true_eq] at hok
  obtain ⟨hdg, ⟨rfl, hm⟩, -⟩ := hok
  subst hz
  have hmk : gM4 (gow mi, k, a, b, 4) = true := gmk_of hm
  simp only [gM4, Bool.and_eq_true, decide_eq_true_eq] at hmk
  obtain ⟨hb0, hw1⟩ := hmk
  obtain rfl : b = 0 := hb0
  rw [List.drop_zero] at hst
  subst hst
  have h4 := gcat4 (β := β) (sp := sp) h.1
  refine W.objInit hx hb hown (hts _ (gw1_in hw1)) (hts _ (gtb_in gjd_ok.1)) (hts _ (gtb_in gjd_ok.2.1)) rfl (hL.1.trans hml.symm) rfl hdg (by omega) ?_ (h.2 H locs ls hL hnl hll hP hD hS hsz)
  have h5 := lv_room (m := m) (pc := pc) (ls := ls) (rest := (Value.ref o :: r).map (grv β sp)) h4
  omega
set_option maxHeartbeats 4000000 in
theorem gh_copy {k : Nat} {w dp q : Int32} {o1 o0 : Nat} {r : List Value} (hCx : gCx p R s m args meth c β sp cs dC dI mi d X) (hop : gop mi pc = some (.invokestatic k, n, a, b, z)) (hz : z = 5) (h : ((gkd sh o0 = 0 ∧ gkd sh o1 = 0) ∧ (¬ q < 0 ∧ ¬ dp < 0 ∧ ¬ w < 0) ∧ q.toNatClampNeg + w.toNatClampNeg ≤ gln sh o0 ∧ dp.toNatClampNeg + w.toNatClampNeg ≤ gln sh o1 ∧ r.length ≤ 4) ∧ gWp p l e R s m args below meth c Qf β sp cs dC dI mi (pc + n) lv r sh (gr M o1 (va_cpy (M o0) (M o1) q.toNatClampNeg dp.toNatClampNeg w.toNatClampNeg)) kc ks) : gWp p l e R s m args below meth c Qf β sp cs dC dI mi pc lv (.int w :: .int dp :: .ref o1 :: .int q :: .ref o0 :: r) sh M kc ks := by
  obtain ⟨hx, hb, hml, hown, hts, hE, hβ, ⟨hfr, hlo⟩, ⟨hce, hsl⟩, hro, hini⟩ := hCx
  intro H locs ls hL hnl hll hP hD hS hsz
  have hok := gopok hop
  simp only [gokb, gokx, Bool.and_eq_true, Bool.or_eq_true, beq_iff_eq, decide_eq_true_eq] at hok
  obtain ⟨hdg, ⟨rfl, hm⟩, -⟩ := hok
  subst hz
  have hmk : gM5 (gow mi, k, a, b, 5) = true := gmk_of hm
  simp only [gM5] at hmk
  obtain ⟨⟨⟨hk0, hk1⟩, ⟨hs0, hd0, hw0⟩, h4, h5, hr4⟩, h⟩ := h
  obtain ⟨n0, rs0, ho0, hn0, -⟩ := gkd_inv hk0 (by decide)
  obtain ⟨n1, rs1, ho1, hn1, -⟩ := gkd_inv hk1 (by decide)
  rw [hn0] at h4
  rw [hn1] at h5
  have h44 := gcat4 (β := β) (sp := sp) hr4
  have h7 : nativeFrameWords "java/lang/System" "arraycopy" 5 = 7 := by decide
  have h8 : ((r.map (grv β sp)).map fun v => v.category).sum + (nativeFrameWords "java/lang/System" "arraycopy" 5 + 11) ≤ R.locals := by rw [h7]; omega
  have h9 : 1 ≤ R.frames := by omega
  refine va_copyi hx hb (hml.trans hL.1.symm) hown (hts _ (gw1_in hmk)) (hts _ (gtb_in gjd_ok.2.2.1)) (hts _ (gtb_in gjd_ok.2.2.2.1)) (hts _ (gtb_in gjd_ok.2.2.2.2)) hE.1 hP hD hS o0 o1 0 0 (gw_get ho0) (gw_get ho1) rfl rfl rfl hs0 hd0 hw0 h4 h5 (fun _ _ => rfl) h9 h8 hdg (fun H1 locs1 hP1 hD1 hS1 => ?_)
  have hw9 := gw_row (β := β) (sp := sp) (cs := cs) (M := M) ho1 (va_cpy (M o0) (M o1) q.toNatClampNeg dp.toNatClampNeg w.toNatClampNeg)
  exact h H1 locs1 ls hL hnl hll (by rw [← hw9]; exact hP1) (by rw [← hw9]; exact hD1) hS1 hsz
end GH
