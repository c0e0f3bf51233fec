/-! THE CLAIM OUT OF ONE WALK OF THE LAW'S BODY. Your part is whole_start (and what it stands on); all else here is the same for every law, but numbers. -/
def R_law : String := "SunHousesLaw"
def lw_P (b : Addr) (xs : List Int32) (args : Array Value) (s : State) : Prop := args = #[.ref b] ∧ s.IntsAt b xs ∧ xs.length ≤ 384 ∧ (Jvm.Cond.and given_1 narrow_1).before args s = true
def lw_Q (_ : Array Value) (s : State) (o : Outcome) (t : State) : Prop := o = .returned (some (.int 1)) ∧ Framed s o t [] 600000 7302250
def lw_Z (below : List Frame) (a : Array Value) (s : State) : State → Prop := fun t => ∃ o, t.status = .running ∧ Ended t below o ∧ lw_Q a s o t
/-- the law's own end, with 1 on the stack, nothing written that was there before, its room as the claim has it -/
theorem lw_ret {p : Program} {l : Launch} {e : Env} {s : State} {m : MethodId} {below : List Frame} {meth : Method} {c : Code} {b : Nat} (hx : p.tables.exec = Jvm.exec) (hb : c.code = code) (hr : meth.sig.returnType = ret) (hlocks : meth.locks = false) {pc : Nat} {H : Heap} {ls : Array Slot} (hdg : decode code pc = .ok (.ireturn, 1)) : W p l e room_1 s m #[Value.ref b] below meth c H [] 600000 7302250 (lw_Z below #[Value.ref b] s) (F0 m pc ls [.int 1]) := by
  intro T hT X
  obtain ⟨fs, hret, hrun, hended, hW, hframe⟩ := X.leave (v := some (.int 1)) (hlocks := hlocks) (fun h => by rw [hr] at h; cases h)
  have hmeth' : T.vm.method? m = some meth := X.method'
  refine ⟨T.setFrames fs, ?_, .returned (some (.int 1)), hrun, hended, rfl, ⟨_, rfl⟩, hW, hframe⟩
  jvm_step X.here [X.here.top, hx, hb, hdg, hmeth', hr, ret, narrow_b1]
  (try refine ⟨rfl, ?_⟩); (try refine ⟨rfl, ?_⟩)
  first | (intro acts; rw [hret _ acts rfl rfl rfl]) | rw [hret _ _ rfl rfl rfl]
  exact Steps.refl _
/-- what holds at the law's entry: the machine, the code, the tables' words (any of lw_tbl by 'hts w (by decide +kernel)'), the script of L ints xs at the cell b, what the Statement gives of the start (any of its parts by flat_of_before) -/
def lw_At (p : Program) (s : State) (m : MethodId) (meth : Method) (c : Code) (b L : Nat) (xs : Nat → Int32) : Prop :=
  p.tables.exec = Jvm.exec ∧ c.code = code ∧ meth.sig.returnType = ret ∧ c.maxLocals = 4 ∧ s.vm.findClass R_law = some m.cls ∧ (∀ w ∈ lw_tbl, w.before #[Value.ref b] s = true) ∧ va_X b L xs s s.heap ∧ b < s.heap.size ∧ meth.locks = false ∧ (Jvm.Cond.and given_1 narrow_1).before #[Value.ref b] s = true
set_option maxHeartbeats 4000000 in
set_option maxRecDepth 100000 in
/-- the law, out of the small machine's run of it -/
theorem gstart {p : Program} {e : Env} {s : State} {m : MethodId} {below : List Frame} {meth : Method} {c : Code} (l : Launch) {b L : Nat} {xs : Nat → Int32} (hG : gR (gcl 30) (L, xs) gLAW 0 [some (.float 0), none, none, none] [] [] (fun _ _ => 0) 0 0 (fun r _ _ => r = [.int 1])) (C0 : lw_At p s m meth c b L xs) : W p l e room_1 s m #[Value.ref b] below meth c s.heap [] 0 0 (lw_Z below #[Value.ref b] s) (entryFrame m ([Value.ref b] : List Value).toArray 4) := by
  obtain ⟨hx, hb, hr, hml, hown, hts, hX, hbl, hlocks, hgv⟩ := C0
  have hs := flat_of_before _ hgv
  have hAn : ∀ a : Nat, a < s.heap.size → ¬ gA s.heap.size a := fun a ha => Nat.not_le.mpr ha
  obtain ⟨t1, et1, hT1⟩ := va_Tof (args := #[Value.ref b]) (s := s) (tm := .static "SunHouses$Asks" "WIDER" "[I") (ty := .int) (N := 6) (f := fun j => .int (gst1 j)) (A := gA s.heap.size) (by decide) (hs _ (by decide +kernel)) (va_eqt (hs _ (by decide +kernel))) (fun j hj => by
    rcases (show j = 0 ∨ j = 1 ∨ j = 2 ∨ j = 3 ∨ j = 4 ∨ j = 5 by omega) with rfl | rfl | rfl | rfl | rfl | rfl <;> exact va_eqt (hs _ (by decide +kernel))) hAn
  have hZ1 : va_Z RX1 "WIDER" "[I" (.ref t1) (gA s.heap.size) s s.heap := va_Zof (hts (.laysStatic RX1 "WIDER" "[I") (by decide +kernel)) (hts (.initialized RX1) (by decide +kernel)) et1 hAn
  obtain ⟨t2, et2, hT2⟩ := va_Tof (args := #[Value.ref b]) (s := s) (tm := .static "SunHouses$Asks" "SIZE_BODIES" "[I") (ty := .int) (N := 6) (f := fun j => .int (gst2 j)) (A := gA s.heap.size) (by decide) (hs _ (by decide +kernel)) (va_eqt (hs _ (by decide +kernel))) (fun j hj => by
    rcases (show j = 0 ∨ j = 1 ∨ j = 2 ∨ j = 3 ∨ j = 4 ∨ j = 5 by omega) with rfl | rfl | rfl | rfl | rfl | rfl <;> exact va_eqt (hs _ (by decide +kernel))) hAn
  have hZ2 : va_Z RX1 "SIZE_BODIES" "[I" (.ref t2) (gA s.heap.size) s s.heap := va_Zof (hts (.laysStatic RX1 "SIZE_BODIES" "[I") (by decide +kernel)) (hts (.initialized RX1) (by decide +kernel)) et2 hAn
  obtain ⟨t3, et3, hT3⟩ := va_Tof (args := #[Value.ref b]) (s := s) (tm := .static "SunHouses$Asks" "MARK_BODIES" "[I") (ty := .int) (N := 6) (f := fun j => .int (gst3 j)) (A := gA s.heap.size) (by decide) (hs _ (by decide +kernel)) (va_eqt (hs _ (by decide +kernel))) (fun j hj => by
    rcases (show j = 0 ∨ j = 1 ∨ j = 2 ∨ j = 3 ∨ j = 4 ∨ j = 5 by omega) with rfl | rfl | rfl | rfl | rfl | rfl <;> exact va_eqt (hs _ (by decide +kernel))) hAn
  have hZ3 : va_Z RX1 "MARK_BODIES" "[I" (.ref t3) (gA s.heap.size) s s.heap := va_Zof (hts (.laysStatic RX1 "MARK_BODIES" "[I") (by decide +kernel)) (hts (.initialized RX1) (by decide +kernel)) et3 hAn
  obtain ⟨c0, i0, hK0⟩ := u_known (C := RX0) (T := TX0) (N := 3) (n := 3) hts inX0 (hts (.instantiable RX0 3) (by decide +kernel))
  obtain ⟨c1, i1, hK1⟩ := u_known (C := RX1) (T := TX1) (N := 2) (n := 2) hts inX1 (hts (.instantiable RX1 2) (by decide +kernel))
  obtain ⟨c2, i2, hK2⟩ := u_known (C := RX2) (T := TX2) (N := 3) (n := 3) hts inX2 (hts (.instantiable RX2 3) (by decide +kernel))
  obtain ⟨c3, i3, hK3⟩ := u_known (C := RX3) (T := TX3) (N := 7) (n := 7) hts inX3 (hts (.instantiable RX3 7) (by decide +kernel))
  obtain ⟨c4, i4, hK4⟩ := u_known (C := RX4) (T := TX4) (N := 3) (n := 3) hts inX4 (hts (.instantiable RX4 3) (by decide +kernel))
  obtain ⟨c5, i5, hK5⟩ := u_known (C := RX5) (T := TX5) (N := 2) (n := 2) hts inX5 (hts (.instantiable RX5 2) (by decide +kernel))
  obtain ⟨c6, i6, hK6⟩ := u_known (C := RX6) (T := TX6) (N := 11) (n := 11) hts inX6 (hts (.instantiable RX6 11) (by decide +kernel))
  obtain ⟨c7, i7, hK7⟩ := u_known (C := RX7) (T := TX7) (N := 25) (n := 25) hts inX7 (hts (.instantiable RX7 25) (by decide +kernel))
  obtain ⟨a0, k0, p0, f0, g0, q0⟩ := Cond.arrayClass_spec (hts (.arrayClass .int) (by decide +kernel))
  obtain ⟨a1, k1, p1, f1, g1, q1⟩ := Cond.arrayClass_spec (hts (.arrayClass .boolean) (by decide +kernel))
  have hao : gAO s := hts (.arrayOver (.array .int)) gao_ok
  obtain ⟨pc2, a2, k2, f20, f21, f22, f23, f24⟩ := arrayOverA_spec hao
  obtain ⟨cs, hcs0, hcs1, hcs2⟩ : ∃ cs : Nat → ClassId, cs 0 = a0 ∧ cs 1 = a1 ∧ cs 2 = a2 := ⟨fun k => if k = 0 then a0 else if k = 1 then a1 else a2, rfl, rfl, rfl⟩
  obtain ⟨sp, hsp0, hsp1, hsp2, hsp3⟩ : ∃ sp : UInt32 → Nat, sp 0 = b ∧ sp 1 = t1 ∧ sp 2 = t2 ∧ sp 3 = t3 := ⟨fun k => if k = 0 then b else if k = 1 then t1 else if k = 2 then t2 else t3, rfl, rfl, rfl, rfl⟩
  obtain ⟨dC, dI, hKc⟩ : ∃ (dC : Nat → ClassId) (dI : Nat → Nat → Nat), ∀ (k : Nat) (q : vw_C), vwCl[k]? = some q → u_Kn s q.1 q.2.1 q.2.2 (dC k) (dI k) := by
    refine ⟨fun k => ([c0, c1, c2, c3, c4, c5, c6, c7] : List ClassId).getD k 0, fun k => ([i0, i1, i2, i3, i4, i5, i6, i7] : List (Nat → Nat)).getD k (fun _ => 0), ?_⟩
    intro k q hq
    match k, hq with
    | 0, hq => cases hq; exact hK0
    | 1, hq => cases hq; exact hK1
    | 2, hq => cases hq; exact hK2
    | 3, hq => cases hq; exact hK3
    | 4, hq => cases hq; exact hK4
    | 5, hq => cases hq; exact hK5
    | 6, hq => cases hq; exact hK6
    | 7, hq => cases hq; exact hK7
    | k + 8, hq => simp [vwCl] at hq
  have hK : va_K (dC, dI) vwCl (gtys cs) s := by
    refine ⟨hKc, fun k q hq => ?_⟩
    match k, hq with
    | 0, hq => cases hq; rw [hcs0]; exact ⟨fun N z => ⟨(fun q hq => by cases hq), k0, g0, p0, q0⟩, f0⟩
    | 1, hq => cases hq; rw [hcs1]; exact ⟨fun N z => ⟨(fun q hq => by cases hq), k1, g1, p1, q1⟩, f1⟩
    | 2, hq => cases hq; rw [hcs2]; exact ⟨fun N z => ⟨(fun q hq => by cases hq), k2, f22, pc2, f23⟩, f24⟩
    | k + 3, hq => simp [gtys] at hq
  have hE : gEnv s.heap.size sp cs dC dI s := by
    refine ⟨hK, fun q hq hz => va_Nw.of rfl (hts _ ((gFd_ok q hq).2.2 hz).2), fun q hq hz => ?_, hao, fun k hk => ?_⟩
    · have hmk := gmk_of hq
      obtain ⟨x1, x2, x3, x4, x5⟩ := q
      dsimp only at hz
      subst hz
      have hmk2 : (gM2 (x1, x2, x3, x4, 3) && decide (gmwN (x1, x2, x3, x4, 3) ∈ lw_tbl)) = true := hmk
      simp only [Bool.and_eq_true, decide_eq_true_eq] at hmk2
      exact va_Nw.of rfl (hts _ hmk2.2)
    · rcases hk with rfl | rfl | rfl
      · show va_Z RX1 "WIDER" "[I" (.ref (sp 1)) _ s s.heap ∧ va_T .int (sp 1) 6 (fun j => .int (gst1 j)) _ s s.heap
        rw [hsp1]; exact ⟨hZ1, hT1⟩
      · show va_Z RX1 "SIZE_BODIES" "[I" (.ref (sp 2)) _ s s.heap ∧ va_T .int (sp 2) 6 (fun j => .int (gst2 j)) _ s s.heap
        rw [hsp2]; exact ⟨hZ2, hT2⟩
      · show va_Z RX1 "MARK_BODIES" "[I" (.ref (sp 3)) _ s s.heap ∧ va_T .int (sp 3) 6 (fun j => .int (gst3 j)) _ s s.heap
        rw [hsp3]; exact ⟨hZ3, hT3⟩
  have hCx : gCx p room_1 s m #[Value.ref b] meth c s.heap.size sp cs dC dI gLAW 30 (L, xs) := by
    refine ⟨hx, hb, hml, hown, fun w h => hts w (List.mem_filter.mp h).1, hE, Nat.le_refl _, ⟨by decide, by decide⟩, ⟨by decide, by decide⟩, fun k hk => ?_, fun hn => absurd hn (by decide)⟩
    by_cases h0 : k = 0
    · subst h0
      show va_T .int (sp 0) L (fun j => .int (xs j)) _ s s.heap
      rw [hsp0]
      obtain ⟨scr, j1, j2, j3, j4, j5⟩ := hX
      exact ⟨scr, j1, j2, j3, by omega, by rw [j4], j5, hAn b hbl⟩
    · replace hk := hk.resolve_right (fun q => h0 q.2)
      have e0 : gro gLAW (L, xs) k = gro 0 (0, fun _ => 0) k := by unfold gro; rw [if_neg h0, if_neg h0]
      rw [e0] at hk ⊢
      by_cases h1 : k = 1
      · subst h1; exact (hE.2.2.2.2 1 (Or.inl rfl)).2
      · by_cases h2 : k = 2
        · subst h2; exact (hE.2.2.2.2 2 (Or.inr (Or.inl rfl))).2
        · by_cases h3 : k = 3
          · subst h3; exact (hE.2.2.2.2 3 (Or.inr (Or.inr rfl))).2
          · unfold gro at hk
            rw [if_neg h0, if_neg h1, if_neg h2, if_neg h3] at hk
            exact absurd rfl hk
  have hRi : gRi p l e room_1 s m #[Value.ref b] below meth c (lw_Z below #[Value.ref b] s) s.heap.size sp cs dC dI gLAW (fun r _ _ => r = [.int 1]) := by
    refine ⟨fun x sh' M' kc ks H locs ls pc hgb hf hq hP' hD' hS' hsz' hdg => ?_, fun sh' M' kc ks H locs ls pc hgr => absurd hgr (by decide)⟩
    have hx1 : x = 1 := by cases hq; rfl
    subst hx1
    have hf2 : kc ≤ 600000 ∧ ks ≤ 7302250 := hf
    refine va_forget (fun q hq => hS'.2.2 q hq) ?_
    refine W.widen (k := 600000) (n := 7302250) hf2.1 hf2.2 ?_
    exact lw_ret hx hb hr hlocks hdg
  have hst := hG (gWp p l e room_1 s m #[Value.ref b] below meth c (lw_Z below #[Value.ref b] s) s.heap.size sp cs dC dI gLAW) (gsnd hCx (gmet l 30) hRi)
  rw [lg_entry_eq]
  have hlv := lv_entry ([.ref b]) (n := 4) (Nat.le_of_ble_eq_true rfl)
  refine hst s.heap [] _ ⟨hlv.1, hlv.2.1, fun k v hk => ?_⟩ (Or.inr fun k v hk => ?_) rfl (fun k q h => by simp [gw] at h) ⟨fun i j p q h => by simp [gw] at h, fun k q h => by simp [gw] at h⟩ va_S.rf rfl
  · match k, hk with
    | 0, hk => cases hk; show _ = some (Slot.val (.ref (sp 0))); rw [hsp0]; exact hlv.2.2 (0, .ref b) List.mem_cons_self
    | 1, hk => cases hk
    | 2, hk => cases hk
    | 3, hk => cases hk
    | k + 4, hk => simp at hk
  · match k, hk with
    | 0, hk => cases hk; rfl
    | 1, hk => cases hk
    | 2, hk => cases hk
    | 3, hk => cases hk
    | k + 4, hk => simp at hk
