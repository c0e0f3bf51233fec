/-! a step of the small machine is steps of the machine -/
section GT
variable {p : Program} {l : Launch} {e : Env} {R : Room} {s : State} {m : MethodId} {args : Array Value} {below : List Frame} {meth : Method} {c : Code} {Qf : State → Prop}
variable {β : Nat} {sp : UInt32 → Nat} {cs dC : Nat → ClassId} {dI : Nat → Nat → Nat} {mi d : Nat} {X : Nat × (Nat → Int32)} {Q : gQ} {C : gCa}
/-- what a return owes -/
def gRi (p : Program) (l : Launch) (e : Env) (R : Room) (s : State) (m : MethodId) (args : Array Value) (below : List Frame) (meth : Method) (c : Code) (Qf : State → Prop) (β : Nat) (sp : UInt32 → Nat) (cs dC : Nat → ClassId) (dI : Nat → Nat → Nat) (mi : Nat) (Q : gQ) : Prop :=
  (∀ (x : Int32) (sh : gS) (M : gM) (kc ks : Nat) (H : Heap) (locs : List Loc) (ls : Array Slot) (pc : Nat), grb mi x → gfin mi kc ks → Q [.int x] sh M → va_P (dC, dI) vwCl (gw β sp cs sh M) H → va_D (gA β) (gw β sp cs sh M) → va_S (gA β) s.heap H locs → s.heap.size + kc = β + sh.length → decode (gby mi) pc = .ok (.ireturn, 1) → W p l e R s m args below meth c H locs kc ks Qf (F0 m pc ls [.int x])) ∧
  (∀ (sh : gS) (M : gM) (kc ks : Nat) (H : Heap) (locs : List Loc) (ls : Array Slot) (pc : Nat), grt mi = none → gfin mi kc ks → Q [] sh M → va_P (dC, dI) vwCl (gw β sp cs sh M) H → va_D (gA β) (gw β sp cs sh M) → va_S (gA β) s.heap H locs → s.heap.size + kc = β + sh.length → decode (gby mi) pc = .ok (.return_, 1) → W p l e R s m args below meth c H locs kc ks Qf (F0 m pc ls []))
set_option maxHeartbeats 4000000 in
set_option maxRecDepth 100000 in
theorem gsnd (hCx : gCx p R s m args meth c β sp cs dC dI mi d X) (hC : ∀ a As sh M Q', C a As sh M Q' → gMet l d a As sh M Q') (hR : gRi p l e R s m args below meth c Qf β sp cs dC dI mi Q) :
    ∀ pc lv st sh M kc ks en, gop mi pc = some en → gstep C X mi pc en lv st sh M kc ks (gWp p l e R s m args below meth c Qf β sp cs dC dI mi) Q → gWp p l e R s m args below meth c Qf β sp cs dC dI mi pc lv st sh M kc ks := by
  have hCx2 := hCx
  obtain ⟨hx, hb, hml, hown, hts, hE, hβ, ⟨hfr, hlo⟩, ⟨hce, hsl⟩, hro, hini⟩ := hCx
  intro pc lv st sh M kc ks en hop h H locs ls hL hnl hll hP hD hS hsz
  obtain ⟨i, n, a, b, z⟩ := en
  have hok := gopok hop
  have hpf := gpfok hop
  simp only [gokb, Bool.and_eq_true, decide_eq_true_eq] at hok
  obtain ⟨hdg, hkx⟩ := hok
  cases i

  case iconst v =>
    simp only [gstep] at h
    obtain rfl : n = 1 := by simpa [gokx] using hkx
    refine lv_iconst hx hb hdg rfl ?_
    exact h H locs ls hL hnl hll hP hD hS hsz

  case bipush v =>
    simp only [gstep] at h
    obtain rfl : n = 2 := by simpa [gokx] using hkx
    refine lv_bipush hx hb hdg rfl ?_
    exact h H locs ls hL hnl hll hP hD hS hsz

  case sipush v =>
    simp only [gstep] at h
    obtain rfl : n = 3 := by simpa [gokx] using hkx
    refine lv_sipush hx hb hdg rfl ?_
    exact h H locs ls hL hnl hll hP hD hS hsz

  case lconst v =>
    simp only [gstep] at h
    obtain rfl : n = 1 := by simpa [gokx] using hkx
    refine lv_lconst hx hb hdg rfl ?_
    exact h H locs ls hL hnl hll hP hD hS hsz

  case ldc k =>
    simp only [gstep] at h
    simp only [gokx, Bool.and_eq_true, beq_iff_eq, decide_eq_true_eq] at hkx
    obtain ⟨rfl, hm⟩ := hkx
    refine lv_ldc hx hb hown (hts _ (gtb_in (gCi_ok _ hm))) hdg ?_
    exact h H locs ls hL hnl hll hP hD hS hsz

  case ldc_w k =>
    simp only [gstep] at h
    simp only [gokx, Bool.and_eq_true, beq_iff_eq, decide_eq_true_eq] at hkx
    obtain ⟨rfl, hm⟩ := hkx
    refine lv_ldcw hx hb hown (hts _ (gtb_in (gCi_ok _ hm))) hdg ?_
    exact h H locs ls hL hnl hll hP hD hS hsz

  case ldc2_w k =>
    simp only [gstep] at h
    simp only [gokx, Bool.and_eq_true, beq_iff_eq, decide_eq_true_eq] at hkx
    obtain ⟨rfl, hm⟩ := hkx
    refine lv_ldc2 hx hb hown (hts _ (gtb_in (gCl_ok _ hm))) hdg ?_
    exact h H locs ls hL hnl hll hP hD hS hsz

  case iload k =>
    simp only [gstep] at h
    obtain rfl : n = 2 := by simpa [gokx] using hkx
    obtain ⟨x, hk, h⟩ := gldi_e h
    refine lv_iload hx hb hdg (hL.2.2 k _ hk) ?_
    exact h H locs ls hL hnl hll hP hD hS hsz

  case iload_n k =>
    simp only [gstep] at h
    obtain rfl : n = 1 := by simpa [gokx] using hkx
    obtain ⟨x, hk, h⟩ := gldi_e h
    refine lv_iload_n hx hb hdg rfl (hL.2.2 k.val _ hk) ?_
    exact h H locs ls hL hnl hll hP hD hS hsz

  case lload k =>
    simp only [gstep] at h
    obtain rfl : n = 2 := by simpa [gokx] using hkx
    obtain ⟨x, hk, h⟩ := gldl_e h
    refine lv_lload hx hb hdg (hL.2.2 k _ hk) ?_
    exact h H locs ls hL hnl hll hP hD hS hsz

  case lload_n k =>
    simp only [gstep] at h
    obtain rfl : n = 1 := by simpa [gokx] using hkx
    obtain ⟨x, hk, h⟩ := gldl_e h
    refine lv_lload_n hx hb hdg rfl (hL.2.2 k.val _ hk) ?_
    exact h H locs ls hL hnl hll hP hD hS hsz

  case aload k =>
    simp only [gstep] at h
    obtain rfl : n = 2 := by simpa [gokx] using hkx
    obtain ⟨v, a9, hk, hv, h⟩ := glda_e (β := β) (sp := sp) h
    have hk2 := hL.2.2 k _ hk
    rw [hv] at hk2
    have h9 := h H locs ls hL hnl hll hP hD hS hsz
    rw [List.map_cons, hv] at h9
    exact lv_aload hx hb hdg hk2 h9

  case aload_n k =>
    simp only [gstep] at h
    obtain rfl : n = 1 := by simpa [gokx] using hkx
    obtain ⟨v, a9, hk, hv, h⟩ := glda_e (β := β) (sp := sp) h
    have hk2 := hL.2.2 k.val _ hk
    rw [hv] at hk2
    have h9 := h H locs ls hL hnl hll hP hD hS hsz
    rw [List.map_cons, hv] at h9
    exact lv_aload_n hx hb hdg rfl hk2 h9

  case istore k =>
    simp only [gstep] at h
    simp only [gokx, Bool.and_eq_true, beq_iff_eq, decide_eq_true_eq, Bool.not_eq_true', beq_eq_false_iff_ne] at hkx
    obtain ⟨⟨rfl, hk⟩, hmi⟩ := hkx
    have hnn : ∀ (j : Nat) (w : Value), lv[j]? = some (some w) → w.category = 1 := hnl.resolve_left hmi
    obtain ⟨x, r, rfl, h⟩ := gi1_e h
    refine lv_istore hx hb hdg (gLv_has hL) hk rfl fun ls' h' => ?_
    exact h H locs ls' (gLv_put (v := .int x) h' hnn (by rw [hll]; exact hk)) (gnl_put hnl rfl) (by rw [List.length_set]; exact hll) hP hD hS hsz

  case istore_n k =>
    simp only [gstep] at h
    simp only [gokx, Bool.and_eq_true, beq_iff_eq, decide_eq_true_eq, Bool.not_eq_true', beq_eq_false_iff_ne] at hkx
    obtain ⟨⟨rfl, hk⟩, hmi⟩ := hkx
    have hnn : ∀ (j : Nat) (w : Value), lv[j]? = some (some w) → w.category = 1 := hnl.resolve_left hmi
    obtain ⟨x, r, rfl, h⟩ := gi1_e h
    refine lv_istore_n hx hb hdg rfl (gLv_has hL) hk rfl fun ls' h' => ?_
    exact h H locs ls' (gLv_put (v := .int x) h' hnn (by rw [hll]; exact hk)) (gnl_put hnl rfl) (by rw [List.length_set]; exact hll) hP hD hS hsz

  case astore_n k =>
    simp only [gstep] at h
    simp only [gokx, Bool.and_eq_true, beq_iff_eq, decide_eq_true_eq, Bool.not_eq_true', beq_eq_false_iff_ne] at hkx
    obtain ⟨⟨rfl, hk⟩, hmi⟩ := hkx
    have hnn : ∀ (j : Nat) (w : Value), lv[j]? = some (some w) → w.category = 1 := hnl.resolve_left hmi
    rcases gal_e h with ⟨x, r, rfl, h⟩ | ⟨x, r, rfl, h⟩
    · refine lv_astore_n hx hb hdg rfl (gLv_has hL) hk rfl fun ls' h' => ?_
      exact h H locs ls' (gLv_put (v := .ref x) h' hnn (by rw [hll]; exact hk)) (gnl_put hnl rfl) (by rw [List.length_set]; exact hll) hP hD hS hsz
    · refine lv_astore_n hx hb hdg rfl (gLv_has hL) hk rfl fun ls' h' => ?_
      exact h H locs ls' (gLv_put (v := .float x) h' hnn (by rw [hll]; exact hk)) (gnl_put hnl rfl) (by rw [List.length_set]; exact hll) hP hD hS hsz

  case iinc k v =>
    simp only [gstep] at h
    simp only [gokx, Bool.and_eq_true, beq_iff_eq, decide_eq_true_eq, Bool.not_eq_true', beq_eq_false_iff_ne] at hkx
    obtain ⟨⟨rfl, hk⟩, hmi⟩ := hkx
    have hnn : ∀ (j : Nat) (w : Value), lv[j]? = some (some w) → w.category = 1 := hnl.resolve_left hmi
    obtain ⟨x, hkx, h⟩ := gldi_e h
    obtain ⟨j, hj⟩ := List.getElem?_of_mem (glp_mem (β := β) (sp := sp) (q := (k, .int x)).mpr ⟨.int x, hkx, rfl⟩)
    refine lv_iinc hx hb hdg (gLv_has hL) hj rfl hk rfl fun ls' h' => ?_
    exact h H locs ls' (gLv_put (v := .int (x + Int32.ofInt v)) h' hnn (by rw [hll]; exact hk)) (gnl_put hnl rfl) (by rw [List.length_set]; exact hll) hP hD hS hsz

  case iadd  =>
    simp only [gstep] at h
    obtain rfl : n = 1 := by simpa [gokx] using hkx
    obtain ⟨x, y, r, rfl, h⟩ := gi2_e h
    refine lv_iadd hx hb hdg ?_
    exact h H locs ls hL hnl hll hP hD hS hsz

  case isub  =>
    simp only [gstep] at h
    obtain rfl : n = 1 := by simpa [gokx] using hkx
    obtain ⟨x, y, r, rfl, h⟩ := gi2_e h
    refine lv_isub hx hb hdg ?_
    exact h H locs ls hL hnl hll hP hD hS hsz

  case imul  =>
    simp only [gstep] at h
    obtain rfl : n = 1 := by simpa [gokx] using hkx
    obtain ⟨x, y, r, rfl, h⟩ := gi2_e h
    refine lv_imul hx hb hdg ?_
    exact h H locs ls hL hnl hll hP hD hS hsz

  case iand  =>
    simp only [gstep] at h
    obtain rfl : n = 1 := by simpa [gokx] using hkx
    obtain ⟨x, y, r, rfl, h⟩ := gi2_e h
    refine lv_iand hx hb hdg ?_
    exact h H locs ls hL hnl hll hP hD hS hsz

  case ior  =>
    simp only [gstep] at h
    obtain rfl : n = 1 := by simpa [gokx] using hkx
    obtain ⟨x, y, r, rfl, h⟩ := gi2_e h
    refine lv_ior hx hb hdg ?_
    exact h H locs ls hL hnl hll hP hD hS hsz

  case ishl  =>
    simp only [gstep] at h
    obtain rfl : n = 1 := by simpa [gokx] using hkx
    obtain ⟨x, y, r, rfl, h⟩ := gi2_e h
    refine lv_ishl hx hb hdg ?_
    exact h H locs ls hL hnl hll hP hD hS hsz

  case ishr  =>
    simp only [gstep] at h
    obtain rfl : n = 1 := by simpa [gokx] using hkx
    obtain ⟨x, y, r, rfl, h⟩ := gi2_e h
    refine lv_ishr hx hb hdg ?_
    exact h H locs ls hL hnl hll hP hD hS hsz

  case idiv  =>
    simp only [gstep] at h
    obtain rfl : n = 1 := by simpa [gokx] using hkx
    obtain ⟨x, y, r, rfl, hy, h⟩ := gi2_e h
    refine lv_idiv hx hb hdg hy ?_
    exact h H locs ls hL hnl hll hP hD hS hsz

  case irem  =>
    simp only [gstep] at h
    obtain rfl : n = 1 := by simpa [gokx] using hkx
    obtain ⟨x, y, r, rfl, hy, h⟩ := gi2_e h
    refine lv_irem hx hb hdg hy ?_
    exact h H locs ls hL hnl hll hP hD hS hsz

  case iushr  =>
    simp only [gstep] at h
    obtain rfl : n = 1 := by simpa [gokx] using hkx
    obtain ⟨x, y, r, rfl, h⟩ := gi2_e h
    refine lv_iushr hx hb hdg rfl ?_
    exact h H locs ls hL hnl hll hP hD hS hsz

  case ineg  =>
    simp only [gstep] at h
    obtain rfl : n = 1 := by simpa [gokx] using hkx
    obtain ⟨x, r, rfl, h⟩ := gi1_e h
    refine lv_ineg hx hb hdg ?_
    exact h H locs ls hL hnl hll hP hD hS hsz

  case i2l  =>
    simp only [gstep] at h
    obtain rfl : n = 1 := by simpa [gokx] using hkx
    obtain ⟨x, r, rfl, h⟩ := gi1_e h
    refine lv_i2l hx hb hdg rfl ?_
    exact h H locs ls hL hnl hll hP hD hS hsz

  case i2b  =>
    simp only [gstep] at h
    obtain rfl : n = 1 := by simpa [gokx] using hkx
    obtain ⟨x, r, rfl, h⟩ := gi1_e h
    refine lv_i2b hx hb hdg rfl ?_
    exact h H locs ls hL hnl hll hP hD hS hsz

  case i2s  =>
    simp only [gstep] at h
    obtain rfl : n = 1 := by simpa [gokx] using hkx
    obtain ⟨x, r, rfl, h⟩ := gi1_e h
    refine lv_i2s hx hb hdg rfl ?_
    exact h H locs ls hL hnl hll hP hD hS hsz

  case lsub  =>
    simp only [gstep] at h
    obtain rfl : n = 1 := by simpa [gokx] using hkx
    obtain ⟨x, y, r, rfl, h⟩ := gl2_e h
    refine lv_lsub hx hb hdg ?_
    exact h H locs ls hL hnl hll hP hD hS hsz

  case lcmp  =>
    simp only [gstep] at h
    obtain rfl : n = 1 := by simpa [gokx] using hkx
    obtain ⟨x, y, r, rfl, h⟩ := gl2_e h
    refine W.lcmp hx hb hdg ?_
    exact h H locs ls hL hnl hll hP hD hS hsz

  case dup  =>
    simp only [gstep] at h
    obtain rfl : n = 1 := by simpa [gokx] using hkx
    obtain ⟨v, r, rfl, hv, h⟩ := gv1_e h
    refine lv_dup hx hb hdg (by rw [grv_cat]; exact hv) ?_
    exact h H locs ls hL hnl hll hP hD hS hsz

  case pop  =>
    simp only [gstep] at h
    obtain rfl : n = 1 := by simpa [gokx] using hkx
    obtain ⟨v, r, rfl, hv, h⟩ := gv1_e h
    refine lv_pop hx hb hdg (by rw [grv_cat]; exact hv) ?_
    exact h H locs ls hL hnl hll hP hD hS hsz

  case dup2  =>
    simp only [gstep] at h
    obtain rfl : n = 1 := by simpa [gokx] using hkx
    obtain ⟨v, w, r, rfl, hv, h⟩ := gv2_e h
    refine lv_dup2_11 hx hb hdg (by rw [grv_cat]; exact hv.1) (by rw [grv_cat]; exact hv.2) ?_
    exact h H locs ls hL hnl hll hP hD hS hsz

  case ifCond cn off =>
    simp only [gstep] at h
    simp only [gokx, Bool.and_eq_true, beq_iff_eq, decide_eq_true_eq] at hkx
    obtain ⟨rfl, ht⟩ := hkx
    obtain ⟨x, r, rfl, h⟩ := gi1_e h
    cases cn
    · exact lv_if_eq hx hb hdg ht (fun q => h.1 q H locs ls hL hnl hll hP hD hS hsz) (fun q => h.2 q H locs ls hL hnl hll hP hD hS hsz)
    · exact lv_if_ne hx hb hdg ht (fun q => h.1 q H locs ls hL hnl hll hP hD hS hsz) (fun q => h.2 (fun z => z q) H locs ls hL hnl hll hP hD hS hsz)
    · exact lv_if_lt hx hb hdg ht (fun q => h.1 q H locs ls hL hnl hll hP hD hS hsz) (fun q => h.2 q H locs ls hL hnl hll hP hD hS hsz)
    · exact lv_if_ge hx hb hdg ht (fun q => h.1 q H locs ls hL hnl hll hP hD hS hsz) (fun q => h.2 q H locs ls hL hnl hll hP hD hS hsz)
    · exact lv_if_gt hx hb hdg ht (fun q => h.1 q H locs ls hL hnl hll hP hD hS hsz) (fun q => h.2 q H locs ls hL hnl hll hP hD hS hsz)
    · exact lv_if_le hx hb hdg ht (fun q => h.1 q H locs ls hL hnl hll hP hD hS hsz) (fun q => h.2 q H locs ls hL hnl hll hP hD hS hsz)

  case if_icmp cn off =>
    simp only [gstep] at h
    simp only [gokx, Bool.and_eq_true, beq_iff_eq, decide_eq_true_eq] at hkx
    obtain ⟨rfl, ht⟩ := hkx
    obtain ⟨x, y, r, rfl, h⟩ := gi2_e h
    cases cn
    · exact lv_icmp_eq hx hb hdg ht (fun q => h.1 q H locs ls hL hnl hll hP hD hS hsz) (fun q => h.2 q H locs ls hL hnl hll hP hD hS hsz)
    · exact lv_icmp_ne hx hb hdg ht (fun q => h.1 q H locs ls hL hnl hll hP hD hS hsz) (fun q => h.2 (fun z => z q) H locs ls hL hnl hll hP hD hS hsz)
    · exact lv_icmp_lt hx hb hdg ht (fun q => h.1 q H locs ls hL hnl hll hP hD hS hsz) (fun q => h.2 q H locs ls hL hnl hll hP hD hS hsz)
    · exact lv_icmp_ge hx hb hdg ht (fun q => h.1 q H locs ls hL hnl hll hP hD hS hsz) (fun q => h.2 q H locs ls hL hnl hll hP hD hS hsz)
    · exact lv_icmp_gt hx hb hdg ht (fun q => h.1 q H locs ls hL hnl hll hP hD hS hsz) (fun q => h.2 q H locs ls hL hnl hll hP hD hS hsz)
    · exact lv_icmp_le hx hb hdg ht (fun q => h.1 q H locs ls hL hnl hll hP hD hS hsz) (fun q => h.2 q H locs ls hL hnl hll hP hD hS hsz)

  case goto off =>
    simp only [gstep] at h
    simp only [gokx, Bool.and_eq_true, beq_iff_eq, decide_eq_true_eq] at hkx
    obtain ⟨ht, rfl⟩ := hkx
    refine lv_goto hx hb hdg ht ?_
    exact h H locs ls hL hnl hll hP hD hS hsz

  case tableswitch dflt lo hi offs =>
    simp only [gstep] at h
    obtain ⟨x, r, rfl, h⟩ := gi1_e h
    by_cases hr : x.toInt < lo ∨ hi < x.toInt
    · obtain ⟨h0, h⟩ := h.1 hr
      exact lv_tableOut hx hb hdg hr (Int.toNat_of_nonneg h0).symm (h H locs ls hL hnl hll hP hD hS hsz)
    · obtain ⟨o, ho, h0, h⟩ := gop1_e (h.2 hr)
      exact lv_tableIn hx hb hdg (fun q => hr (Or.inl q)) (fun q => hr (Or.inr q)) ho (Int.toNat_of_nonneg h0).symm (h H locs ls hL hnl hll hP hD hS hsz)

  case lookupswitch dflt ps =>
    simp only [gstep] at h
    obtain ⟨x, r, rfl, h0, h⟩ := gi1_e h
    exact lv_lookup hx hb hdg (by simpa [gokx] using hkx) rfl (Int.toNat_of_nonneg h0).symm (h H locs ls hL hnl hll hP hD hS hsz)

  case getfield k =>
    simp only [gstep] at h
    simp only [gokx, Bool.and_eq_true, beq_iff_eq, decide_eq_true_eq] at hkx
    obtain ⟨rfl, hm⟩ := hkx
    obtain ⟨⟨ha, hbN⟩, hz0, hz1⟩ := gFd_ok _ hm
    obtain ⟨o, r, rfl, hci, h⟩ := gr1_e h
    obtain ⟨sl, ho, hs⟩ := gci_inv hci
    obtain ⟨w, hw, h⟩ := gfv_e h
    rw [hs] at hw
    have he := gw_get (β := β) (sp := sp) (cs := cs) (M := M) ho
    have hv : (sl.mapIdx (fun k q => gsv β sp (M o k) q))[b]? = some (grv β sp (w.getD (.int (M o b)))) := by rw [List.getElem?_mapIdx, hw, ← gsv_getD]; rfl
    by_cases hz : z = 0
    · exact va_get hx hb hts (gus a ha) hown hE.1 hP o he (gvw a ha) b hbN (hts _ (gtb_in (hz0 hz))) (fun x9 h9 => by rw [gdecl a ha b hbN] at h9; exact h9) hv hdg (h H locs ls hL hnl hll hP hD hS hsz)
    · exact va_getN hx hb hts (gus a ha) hown hE.1 hP o he (gvw a ha) b hbN (va_Nw.use rfl (hE.2.1 _ hm hz)) (fun x9 h9 => by rw [gdecl a ha b hbN] at h9; exact h9) hv hdg (h H locs ls hL hnl hll hP hD hS hsz)

  case putfield k =>
    simp only [gstep] at h
    simp only [gokx, Bool.and_eq_true, beq_iff_eq, decide_eq_true_eq] at hkx
    obtain ⟨rfl, hm⟩ := hkx
    obtain ⟨⟨ha, hbN⟩, hz0, hz1⟩ := gFd_ok _ hm
    rcases gpf_e h with ⟨x, o, r, rfl, ⟨hfi, hci, hsn⟩, h⟩ | ⟨x, o, r, rfl, hrT, h⟩
    · obtain ⟨sl, ho, hs⟩ := gci_inv hci
      rw [hs] at hsn
      have he := gw_get (β := β) (sp := sp) (cs := cs) (M := M) ho
      have hfl : (gTT a b).2.2.2 = false := by
        rw [gfin_ref a ha b hbN]
        unfold grT
        rcases hfi with q | ⟨q, -⟩ <;> rw [q]
      have hn : narrow (gty a b) (.int x) = .int x ∧ fits (gty a b) (.int x) = true := by
        rcases hfi with q | ⟨q, rfl | rfl⟩ <;> rw [q] <;> exact ⟨rfl, rfl⟩
      have hl : b < (sl.mapIdx (fun k q => gsv β sp (M o k) q)).length := by simpa using (List.getElem?_eq_some_iff.mp hsn).1
      by_cases hz : z = 0
      · refine va_put hx hb hts (gus a ha) (gty a) (gtyok a ha) (gnm a ha) hown hE.1 hP hD hS o he (gvw a ha) b hbN (hts _ (gtb_in (hz0 hz))) (fun x9 h9 => by rw [gdecl a ha b hbN] at h9; exact h9) hfl (gtyok a ha b hbN) hn.1 hn.2 hl hdg (fun H1 locs1 hP1 hD1 hS1 => ?_)
        have hw9 := gw_fld (β := β) (sp := sp) (cs := cs) (M := M) (x := x) ho hsn
        exact h H1 locs1 ls hL hnl hll (by rw [← hw9]; exact hP1) (by rw [← hw9]; exact hD1) hS1 hsz
      · refine va_putN hx hb hts (gus a ha) (gty a) (gtyok a ha) (gnm a ha) hown hE.1 hP hD hS o he (gvw a ha) b hbN (va_Nw.use rfl (hE.2.1 _ hm hz)) (fun x9 h9 => by rw [gdecl a ha b hbN] at h9; exact h9) hfl (gtyok a ha b hbN) hn.1 hn.2 hl hdg (fun H1 locs1 hP1 hD1 hS1 => ?_)
        have hw9 := gw_fld (β := β) (sp := sp) (cs := cs) (M := M) (x := x) ho hsn
        exact h H1 locs1 ls hL hnl hll (by rw [← hw9]; exact hP1) (by rw [← hw9]; exact hD1) hS1 hsz
    · obtain ⟨sh', hsh, h⟩ := gop1_e h
      obtain ⟨sl, w, ho, hw, rfl⟩ := gpr_inv hsh
      have he := gw_get (β := β) (sp := sp) (cs := cs) (M := M) ho
      simp only [gpfk, hrT, Bool.not_true, Bool.false_or, Bool.and_eq_true, decide_eq_true_eq] at hpf
      obtain ⟨⟨hz, hwa⟩, hnam⟩ := hpf
      have hfl : (gTT a b).2.2.2 = true := by rw [gfin_ref a ha b hbN]; exact hrT
      have hn : narrow (gty a b) (.ref (β + x)) = .ref (β + x) ∧ fits (gty a b) (.ref (β + x)) = true := by
        unfold grT at hrT
        split at hrT <;> first | (rename_i q; rw [q]; exact ⟨rfl, rfl⟩) | cases hrT
      have hl : b < (sl.mapIdx (fun k q => gsv β sp (M o k) q)).length := by simpa using (List.getElem?_eq_some_iff.mp hw).1
      refine va_putF hx hb hts (gus a ha) (gty a) (gtyok a ha) (gnm a ha) hown hE.1 hP hD hS o he (gvw a ha) b hbN (hts _ (gtb_in (hz0 hz))) (fun x9 h9 => by rw [gdecl a ha b hbN] at h9; exact h9) hfl (hini hnam) (by rw [gdecl a ha b hbN, hwa]) (gtyok a ha b hbN) hn.1 hn.2 hl hdg (fun H1 locs1 hP1 hD1 hS1 => ?_)
      have hw9 := gw_ref (β := β) (sp := sp) (cs := cs) (M := M) (x := x) ho hw
      exact h H1 locs1 ls hL hnl hll (by rw [← hw9]; exact hP1) (by rw [← hw9]; exact hD1) hS1 (by rw [List.length_set]; exact hsz)

  case getstatic k =>
    simp only [gstep] at h
    simp only [gokx, Bool.and_eq_true, beq_iff_eq, decide_eq_true_eq] at hkx
    obtain ⟨rfl, hm⟩ := hkx
    obtain ⟨ha, hw⟩ := gSt_ok _ hm
    exact va_gets hx hb (hE.2.2.2.2 a ha).1 hS hown (hts _ (gtb_in hw)) (fun _ h9 => h9) hdg (h H locs ls hL hnl hll hP hD hS hsz)

  case iaload  =>
    simp only [gstep] at h
    obtain rfl : n = 1 := by simpa [gokx] using hkx
    rcases gai_e h with ⟨i, o, r, rfl, ⟨hk, hin⟩, h⟩ | ⟨i, k, r, rfl, hin, h⟩
    · obtain ⟨n9, rs, ho, hn9, -⟩ := gkd_inv hk (by decide)
      rw [hn9] at hin
      exact va_iald hx hb hE.1 hP o 0 (gw_get ho) rfl hin hdg (h H locs ls hL hnl hll hP hD hS hsz)
    · exact va_ti hx hb (hro k (Or.inl (fun q => hin (Or.inr (by rw [q]; exact Nat.zero_le _))))) hS hin rfl hdg (h H locs ls hL hnl hll hP hD hS hsz)

  case baload  =>
    simp only [gstep] at h
    obtain rfl : n = 1 := by simpa [gokx] using hkx
    rcases gai_e h with ⟨i, o, r, rfl, ⟨hk, hin⟩, h⟩ | ⟨i, k, r, rfl, h⟩
    · obtain ⟨n9, rs, ho, hn9, -⟩ := gkd_inv hk (by decide)
      rw [hn9] at hin
      exact va_zald hx hb hE.1 hP o 1 (gw_get ho) rfl hin hdg (h H locs ls hL hnl hll hP hD hS hsz)
    · exact h.elim

  case aaload  =>
    simp only [gstep] at h
    obtain rfl : n = 1 := by simpa [gokx] using hkx
    rcases gai_e h with ⟨i, o, r, rfl, ⟨hk, hin⟩, h⟩ | ⟨i, k, r, rfl, h⟩
    · obtain ⟨n9, rs, ho, hn9, hrf⟩ := gkd_inv hk (by decide)
      rw [hn9] at hin
      obtain ⟨v, hv, h⟩ := gop1_e h
      rw [hrf] at hv
      have he := gw_get (β := β) (sp := sp) (cs := cs) (M := M) ho
      have hlt : i.toNatClampNeg < n9 := Nat.not_le.mp fun q => hin (Or.inr q)
      have h9 := hP o _ he
      refine W.aald (v := .ref (β + v)) (ty := .array .int) hx hb h9 ((hE.1.2 2 _ rfl).1 n9 (fun j => va_rf ((rs[j]?).map (fun a => β + a)))) rfl (fun q => by cases q) (by show ¬ (i < 0 ∨ (arrV _ _ _).slots.size ≤ _); rw [arrV_size]; exact hin) (by show (arrV _ _ _).slots[_]? = _; rw [arrV_read _ _ hlt]; show some (va_rf ((rs[i.toNatClampNeg]?).map _)) = _; rw [hv]; rfl) rfl rfl hdg (h H locs ls hL hnl hll hP hD hS hsz)
    · exact h.elim

  case iastore  =>
    simp only [gstep] at h
    obtain rfl : n = 1 := by simpa [gokx] using hkx
    obtain ⟨x, i, o, r, rfl, ⟨hk, hin⟩, h⟩ := gas_e h
    obtain ⟨n9, rs, ho, hn9, -⟩ := gkd_inv hk (by decide)
    rw [hn9] at hin
    refine va_iast hx hb hE.1 hP hD hS o 0 (gw_get ho) rfl hin hdg (fun H1 locs1 hP1 hD1 hS1 => ?_)
    have hw := gw_row (β := β) (sp := sp) (cs := cs) (M := M) ho (upd (M o) i.toNatClampNeg x)
    exact h H1 locs1 ls hL hnl hll (by rw [← hw]; exact hP1) (by rw [← hw]; exact hD1) hS1 hsz

  case bastore  =>
    simp only [gstep] at h
    obtain rfl : n = 1 := by simpa [gokx] using hkx
    obtain ⟨x, i, o, r, rfl, ⟨hk, hin, h01⟩, h⟩ := gas_e h
    obtain ⟨n9, rs, ho, hn9, -⟩ := gkd_inv hk (by decide)
    rw [hn9] at hin
    have hnar : vp_nar .boolean x = x := by rcases h01 with rfl | rfl <;> rfl
    refine va_zast hx hb hE.1 hP hD hS o 1 (gw_get ho) rfl hin hdg (fun H1 locs1 hP1 hD1 hS1 => ?_)
    rw [hnar] at hP1 hD1
    have hw := gw_row (β := β) (sp := sp) (cs := cs) (M := M) ho (upd (M o) i.toNatClampNeg x)
    exact h H1 locs1 ls hL hnl hll (by rw [← hw]; exact hP1) (by rw [← hw]; exact hD1) hS1 hsz

  case arraylength  =>
    simp only [gstep] at h
    obtain rfl : n = 1 := by simpa [gokx] using hkx
    rcases gal_e h with ⟨o, r, rfl, hk, h⟩ | ⟨k, r, rfl, hk, h⟩
    · obtain ⟨n9, rs, ho, hn9, -⟩ := gkd_inv hk (by decide)
      rw [hn9] at h
      exact va_alen hx hb hE.1 hP o 0 (gw_get ho) rfl rfl hdg (h H locs ls hL hnl hll hP hD hS hsz)
    · exact va_tlen hx hb (hro k hk) hS rfl hdg (h H locs ls hL hnl hll hP hD hS hsz)

  case ireturn  =>
    simp only [gstep] at h
    simp only [gokx, Bool.and_eq_true, beq_iff_eq] at hkx
    obtain ⟨rfl, -⟩ := hkx
    obtain ⟨x, r, hst, ⟨hr9, hgb, hf⟩, h7⟩ := gi1_e h
    subst hr9
    subst hst
    exact hR.1 x sh M kc ks H locs ls pc hgb hf h7 hP hD hS hsz hdg

  case return_  =>
    simp only [gstep] at h
    simp only [gokx, Bool.and_eq_true, beq_iff_eq] at hkx
    obtain ⟨rfl, hr0⟩ := hkx
    obtain ⟨⟨rfl, hf⟩, h⟩ := h
    exact hR.2 sh M kc ks H locs ls pc hr0 hf h hP hD hS hsz hdg

  case new k =>
    simp only [gstep] at h
    exact gh_new hCx2 hop h H locs ls hL hnl hll hP hD hS hsz

  case newarray t =>
    simp only [gstep] at h
    obtain ⟨x, r, rfl, h⟩ := gi1_e h
    exact gh_newa hCx2 hop h H locs ls hL hnl hll hP hD hS hsz

  case multianewarray k dd =>
    simp only [gstep] at h
    obtain ⟨x, y, r, rfl, h⟩ := gi2_e h
    exact gh_mna hCx2 hop h H locs ls hL hnl hll hP hD hS hsz

  case invokevirtual k =>
    simp only [gstep] at h
    obtain ⟨o, r, hst, h⟩ := gr1_e h
    exact gh_virt hCx2 hC hop hst h H locs ls hL hnl hll hP hD hS hsz

  case invokestatic k =>
    simp only [gstep] at h
    by_cases hz : z = 5
    · obtain ⟨w, dp, o1, q, o0, r, hst, h7⟩ := gcy_e (h.1 hz)
      subst hst
      exact gh_copy hCx2 hop hz h7 H locs ls hL hnl hll hP hD hS hsz
    · exact gh_stat hCx2 hC hop hz (h.2 hz) H locs ls hL hnl hll hP hD hS hsz

  case invokespecial k =>
    simp only [gstep] at h
    obtain ⟨o, r, hst, h⟩ := gr1_e h
    by_cases hz : z = 4
    · exact gh_obj hCx2 hop hz hst (h.1 hz) H locs ls hL hnl hll hP hD hS hsz
    · exact gh_ctor hCx2 hC hop hz hst (h.2 hz) H locs ls hL hnl hll hP hD hS hsz

  all_goals exact absurd h id
end GT
