/-! the small machine's steps are the machine's -/
def gA (β : Nat) : Nat → Prop := fun q => β ≤ q
def gtys (cs : Nat → ClassId) : List (ClassId × FieldType) := [(cs 0, .int), (cs 1, .boolean), (cs 2, .array .int)]
def gAO (U : State) : Prop := (Cond.arrayOver (.array .int)).before #[] U = true
theorem gAO_moved {u U : State} (hvm : u.vm.Alike U.vm) (h : gAO u) : gAO U := by
  obtain ⟨comp, c, k, h1, h2, h3, h4, h5⟩ := arrayOverA_spec h
  obtain ⟨k', hk', he⟩ := hvm.2.2 _ _ h3
  have e1 := va_idx_bare u.vm comp
  have e2 := va_idx_bare U.vm comp
  have e3 : u.vm.bare = U.vm.bare := by first | exact hvm.bare_eq | exact hvm.bare_eq.symm
  rw [e3] at e1
  have hi := e2.symm.trans (e1.trans h2)
  have hkind : k'.kind = .array comp (.array .int) := by rw [he]; exact h4
  have f1 : U.vm.findClass (FieldType.array .int).toString = some comp := by rw [hvm.findClass]; exact h1
  have f2 : U.vm.findClass ("[" ++ (FieldType.array .int).toString) = some c := by rw [hvm.findClass]; exact h5
  unfold gAO Cond.before Cond.holds
  simp only [Cond.value]
  rw [f1, Option.bind_some]
  refine (congrArg (fun o : Option Nat => (o.bind (fun c => (U.vm.classes[c]?).map fun (k : Class) => match k.kind with | .array _ ty => decide (ty = FieldType.array .int) && decide (U.vm.findClass ("[" ++ (FieldType.array .int).toString) = some c) | _ => false) == some true)) hi).trans ?_
  simp [hk', hkind, f2]
/-- what stays as it is: the classes, the links of nest mates, the static arrays -/
def gEnv (β : Nat) (sp : UInt32 → Nat) (cs dC : Nat → ClassId) (dI : Nat → Nat → Nat) (U : State) : Prop := va_K (dC, dI) vwCl (gtys cs) U ∧ (∀ q ∈ gFd, ¬ q.2.2.2.2 = 0 → va_Nw (gfwN q) U) ∧ (∀ q ∈ gMt, q.2.2.2.2 = 3 → va_Nw (gmwN q) U) ∧ gAO U ∧ ∀ k : Nat, (k = 1 ∨ k = 2 ∨ k = 3) → va_Z RX1 (gsn k) "[I" (.ref (sp (UInt32.ofNat k))) (gA β) U U.heap ∧ va_T .int (sp (UInt32.ofNat k)) 6 (fun j => .int ((gro 0 (0, fun _ => 0) (UInt32.ofNat k)).2 j)) (gA β) U U.heap
theorem gEnv_to {β : Nat} {sp : UInt32 → Nat} {cs dC : Nat → ClassId} {dI : Nat → Nat → Nat} {s U : State} (h : gEnv β sp cs dC dI s) (hW : s.WarmedH U.vm) (hH : ∀ q : Nat, q < s.heap.size → ¬ gA β q → U.heap[q]? = s.heap[q]?) : gEnv β sp cs dC dI U :=
  ⟨va_K.moved hW.alike h.1, fun q hq hz => va_Nw.warmF hW (h.2.1 q hq hz), fun q hq hz => va_Nw.warmM hW (h.2.2.1 q hq hz), gAO_moved hW.alike h.2.2.2.1, fun k hk => ⟨(va_Z.moved hW.alike (h.2.2.2.2 k hk).1).kept hH, (va_T.moved hW.alike (h.2.2.2.2 k hk).2).kept hH⟩⟩
theorem gEnv_same {β : Nat} {sp : UInt32 → Nat} {cs dC : Nat → ClassId} {dI : Nat → Nat → Nat} {u U : State} (h : gEnv β sp cs dC dI u) (e1 : u.vm = U.vm) (e2 : u.heap = U.heap) : gEnv β sp cs dC dI U := by
  have ha : u.vm.Alike U.vm := by rw [e1]; exact Vm.Alike.refl U.vm
  exact ⟨va_K.moved ha h.1, fun q hq hz => va_Nw.same rfl e1 (h.2.1 q hq hz), fun q hq hz => va_Nw.same rfl e1 (h.2.2.1 q hq hz), gAO_moved ha h.2.2.2.1, fun k hk => ⟨(va_Z.moved ha (h.2.2.2.2 k hk).1).kept (fun _ _ _ => by rw [e2]), (va_T.moved ha (h.2.2.2.2 k hk).2).kept (fun _ _ _ => by rw [e2])⟩⟩
def gws (a : Nat) : List Cond := gcw a :: gtb
def grm (d a : Nat) : Room := { frames := d, cells := (gbu a).1, slots := (gbu a).2, locals := 60 * d }
def gPc (β : Nat) (sp : UInt32 → Nat) (cs dC : Nat → ClassId) (dI : Nat → Nat → Nat) (As : List Value) (sh : gS) (M : gM) : Array Value → State → Prop := va_Pc (As.map (grv β sp)) (fun U => U.heap.size = β + sh.length ∧ gEnv β sp cs dC dI U ∧ va_P (dC, dI) vwCl (gw β sp cs sh M) U.heap ∧ va_D (gA β) (gw β sp cs sh M))
def gQc (β : Nat) (sp : UInt32 → Nat) (cs dC : Nat → ClassId) (dI : Nat → Nat → Nat) (a : Nat) (sh : gS) (Q : gQ) : Array Value → State → Outcome → State → Prop := fun _ st oc t => (∃ (r : List Value) (sh' : gS) (M' : gM), oc = .returned ((r.map (grv β sp)).head?) ∧ r.length ≤ 1 ∧ Q r sh' M' ∧ sh'.length = sh.length + (gbu a).1 ∧ va_P (dC, dI) vwCl (gw β sp cs sh' M') t.heap ∧ va_D (gA β) (gw β sp cs sh' M')) ∧ va_F (gA β) st t
def gMet (l : Launch) (d a : Nat) (As : List Value) (sh : gS) (M : gM) (Q : gQ) : Prop := ∀ (β : Nat) (sp : UInt32 → Nat) (cs dC : Nat → ClassId) (dI : Nat → Nat → Nat), Met l (gy a) (gws a) (grm d a) (gPc β sp cs dC dI As sh M) (gQc β sp cs dC dI a sh Q) (gbu a).1 (gbu a).2 (gA β)
section GS
variable {p : Program} {l : Launch} {e : Env} {R : Room} {s : State} {m : MethodId} {args : Array Value} {below : List Frame} {meth : Method} {c : Code} {H : Heap} {locs : List Loc} {cells slots : Nat} {Qf : State → Prop}
variable {β : Nat} {sp : UInt32 → Nat} {cs dC : Nat → ClassId} {dI : Nat → Nat → Nat} {mi d : Nat} {sh : gS} {M : gM}
theorem gWsz {g : JFrame} (k : H.size ≤ s.heap.size + cells → W p l e R s m args below meth c H locs cells slots Qf g) : W p l e R s m args below meth c H locs cells slots Qf g :=
  fun T hT X => k (by rw [← hT]; exact X.heapSize) T hT X
theorem gsz_lo (hP : va_P (dC, dI) vwCl (gw β sp cs sh M) H) (hβ : β ≤ H.size) : β + sh.length ≤ H.size := by
  by_cases h0 : sh.length = 0
  · omega
  · have hk : sh.length - 1 < sh.length := by omega
    have := (hP (sh.length - 1) _ (gw_get (List.getElem?_eq_getElem hk))).lt
    have : β + (sh.length - 1) < H.size := this
    omega
theorem gPc_blind {As : List Value} : FrameBlind (gPc β sp cs dC dI As sh M) := fun a U g mk q => by
  obtain ⟨q0, q1, q2, q3, q4⟩ := q
  exact ⟨q0, q1, gEnv_same q2 rfl rfl, q3, q4⟩
theorem gcallgo {a pc : Nat} {ls : Array Slot} {st0 rest : List Value} {Q' : gQ} {as : Array Value} (hr : va_Run p l e R s m args below meth c H locs cells slots (gbu a).1 (gbu a).2 (F0 m pc ls st0) rest (gQc β sp cs dC dI a sh Q' as) (gA β)) (hS : va_S (gA β) s.heap H locs)
    (kk : ∀ (r : List Value) (sh' : gS) (M' : gM) (H1 : Heap) (locs1 : List Loc), Q' r sh' M' → r.length ≤ 1 → sh'.length = sh.length + (gbu a).1 → va_P (dC, dI) vwCl (gw β sp cs sh' M') H1 → va_D (gA β) (gw β sp cs sh' M') → va_S (gA β) s.heap H1 locs1 → W p l e R s m args below meth c H1 locs1 (cells + (gbu a).1) (slots + (gbu a).2) Qf (F0 m (pc + 3) ls ((r.map (grv β sp)).head?.toList ++ rest))) : W p l e R s m args below meth c H locs cells slots Qf (F0 m pc ls st0) := by
  intro T hT X
  obtain ⟨v, st₀, t, T', L, h0, X', hL, e1, e2, ⟨⟨r, sh', M', hv, hr1, hq, hl, hP1, hD1⟩, hz, hk⟩, st⟩ := hr T hT X
  cases hv
  rw [h0] at hz hk
  obtain ⟨t2, a1, b1⟩ := kk r sh' M' T'.heap (locs ++ L) hq hr1 hl (by rw [e1]; exact hP1) hD1
    ⟨Nat.le_trans hS.1 (by rw [e1]; exact hz), fun q h1 h2 => by rw [e1, hk q (Nat.lt_of_lt_of_le h1 hS.1) h2]; exact hS.2.1 q h1 h2, fun q hq => by
      rcases List.mem_append.mp hq with h | h
      · exact hS.2.2 q h
      · exact hL q h⟩ T' rfl X'
  exact ⟨t2, st t2 a1, b1⟩
def gWp (p : Program) (l : Launch) (e : Env) (R : Room) (s : State) (m : MethodId) (args : Array Value) (below : List Frame) (meth : Method) (c : Code) (Qf : State → Prop) (β : Nat) (sp : UInt32 → Nat) (cs dC : Nat → ClassId) (dI : Nat → Nat → Nat) (mi : Nat) : gK := fun pc lv st sh M kc ks =>
  ∀ (H : Heap) (locs : List Loc) (ls : Array Slot), gLv β sp ls (gml mi) lv → gnl mi lv → lv.length = gml mi → va_P (dC, dI) vwCl (gw β sp cs sh M) H → va_D (gA β) (gw β sp cs sh M) → va_S (gA β) s.heap H locs → s.heap.size + kc = β + sh.length → W p l e R s m args below meth c H locs kc ks Qf (F0 m pc ls (st.map (grv β sp)))
theorem gcat4 {r : List Value} (h : r.length ≤ 4) : ((r.map (grv β sp)).map fun v => v.category).sum ≤ 8 := by
  have : ∀ (r : List Value), ((r.map (grv β sp)).map fun v => v.category).sum ≤ 2 * r.length := by
    intro r
    induction r with
    | nil => simp
    | cons v t ih =>
      simp only [List.map_cons, List.sum_cons, List.length_cons]
      have : (grv β sp v).category ≤ 2 := by rcases lv_cat (grv β sp v) with h | h <;> omega
      omega
  have := this r
  omega
end GS
