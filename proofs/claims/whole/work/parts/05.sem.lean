/-! A small machine over numbered cells: what a method does, as a condition on what follows. The heap is a list of shapes (arrays by kind and length, objects by class and slots) and a matrix of ints. -/
abbrev gM : Type := Nat → Nat → Int32
abbrev gC : Type := (Nat × Nat × List Nat) ⊕ (Nat × List (Option Value))
abbrev gS : Type := List gC
abbrev gL : Type := List (Option Value)
abbrev gQ : Type := List Value → gS → gM → Prop
abbrev gK : Type := Nat → gL → List Value → gS → gM → Nat → Nat → Prop
abbrev gCa : Type := Nat → List Value → gS → gM → gQ → Prop
def gr (M : gM) (a : Nat) (f : Nat → Int32) : gM := fun x => if x = a then f else M x
def gi1 (st : List Value) (F : Int32 → List Value → Prop) : Prop := match st with
  | .int x :: r => F x r
  | _ => False
def gi2 (st : List Value) (F : Int32 → Int32 → List Value → Prop) : Prop := match st with
  | .int y :: .int x :: r => F x y r
  | _ => False
def gl2 (st : List Value) (F : Int64 → Int64 → List Value → Prop) : Prop := match st with
  | .long y :: .long x :: r => F x y r
  | _ => False
def gr1 (st : List Value) (F : Nat → List Value → Prop) : Prop := match st with
  | .ref a :: r => F a r
  | _ => False
def gv1 (st : List Value) (F : Value → List Value → Prop) : Prop := match st with
  | v :: r => v.category = 1 ∧ F v r
  | _ => False
def gv2 (st : List Value) (F : Value → Value → List Value → Prop) : Prop := match st with
  | v :: w :: r => (v.category = 1 ∧ w.category = 1) ∧ F v w r
  | _ => False
def gai (st : List Value) (F : Int32 → Nat → List Value → Prop) (G : Int32 → UInt32 → List Value → Prop) : Prop := match st with
  | .int i :: .ref a :: r => F i a r
  | .int i :: .float k :: r => G i k r
  | _ => False
def gas (st : List Value) (F : Int32 → Int32 → Nat → List Value → Prop) : Prop := match st with
  | .int x :: .int i :: .ref a :: r => F x i a r
  | _ => False
def gpf (st : List Value) (F : Int32 → Nat → List Value → Prop) (G : Nat → Nat → List Value → Prop) : Prop := match st with
  | .int x :: .ref a :: r => F x a r
  | .ref b :: .ref a :: r => G b a r
  | _ => False
def gal (st : List Value) (F : Nat → List Value → Prop) (G : UInt32 → List Value → Prop) : Prop := match st with
  | .ref a :: r => F a r
  | .float k :: r => G k r
  | _ => False
def gcy (st : List Value) (F : Int32 → Int32 → Nat → Int32 → Nat → List Value → Prop) : Prop := match st with
  | .int n :: .int dp :: .ref a1 :: .int sp :: .ref a0 :: r => F n dp a1 sp a0 r
  | _ => False
def gldi (lv : gL) (k : Nat) (F : Int32 → Prop) : Prop := match lv[k]? with
  | some (some (.int x)) => F x
  | _ => False
def gldl (lv : gL) (k : Nat) (F : Int64 → Prop) : Prop := match lv[k]? with
  | some (some (.long x)) => F x
  | _ => False
def glda (lv : gL) (k : Nat) (F : Value → Prop) : Prop := match lv[k]? with
  | some (some (.ref a)) => F (.ref a)
  | some (some (.float a)) => F (.float a)
  | _ => False
def gsl (sh : gS) (a k : Nat) : Option (Option Value) := match sh[a]? with
  | some (.inr (_, sl)) => sl[k]?
  | _ => none
def gci (sh : gS) (a : Nat) : Option Nat := match sh[a]? with
  | some (.inr (ci, _)) => some ci
  | _ => none
def gkd (sh : gS) (a : Nat) : Nat := match sh[a]? with
  | some (.inl (k, _, _)) => k
  | _ => 9
def gln (sh : gS) (a : Nat) : Nat := match sh[a]? with
  | some (.inl (_, n, _)) => n
  | _ => 0
def grf (sh : gS) (a j : Nat) : Option Nat := match sh[a]? with
  | some (.inl (_, _, rs)) => rs[j]?
  | _ => none
def gpr (sh : gS) (a ci k b : Nat) : Option gS := match sh[a]? with
  | some (.inr (c, sl)) => (match sl[k]? with
    | some (some _) => if c = ci then some (sh.set a (.inr (c, sl.set k (some (.ref b))))) else none
    | _ => none)
  | _ => none
def gfv (o : Option (Option Value)) (x : Int32) (F : Value → Prop) : Prop := match o with
  | some (some v) => F v
  | some none => F (.int x)
  | none => False
def gop1 {α : Type} (o : Option α) (F : α → Prop) : Prop := match o with
  | some v => F v
  | none => False
def grT (ci k : Nat) : Bool := match gty ci k with
  | .object _ => true
  | .array _ => true
  | _ => false
def gN (ci : Nat) : Nat := (vwCl.getD ci ("", TX0, 0)).2.2
def gdf (ci : Nat) : List (Option Value) := (List.range (gN ci)).map (fun k => if grT ci k = true then some .null else none)
def gcn (c : ClassFile.Cond) (x y : Int32) : Prop := match c with
  | .eq => x = y
  | .ne => ¬ x = y
  | .lt => x < y
  | .ge => y ≤ x
  | .gt => y < x
  | .le => x ≤ y
def gj (pc : Nat) (off : Int) (F : Nat → Prop) : Prop := 0 ≤ (pc : Int) + off ∧ F ((pc : Int) + off).toNat
def gfi (ci k : Nat) (x : Int32) : Prop := gty ci k = .int ∨ (gty ci k = .boolean ∧ (x = 0 ∨ x = 1))
def gst1 : Nat → Int32 := fun j => ([-1000000, 0, 1, 1, 0, 4] : List Int32).getD j 0
def gst2 : Nat → Int32 := fun j => ([10, 11, 12, 0, 13, 14] : List Int32).getD j 0
def gst3 : Nat → Int32 := fun j => ([20, 21, 24, 22, 23, 0] : List Int32).getD j 0
def gro (mi : Nat) (X : Nat × (Nat → Int32)) (k : UInt32) : Nat × (Nat → Int32) := if k = 0 then (if mi = gLAW then X else (0, fun _ => 0)) else if k = 1 then (6, gst1) else if k = 2 then (6, gst2) else if k = 3 then (6, gst3) else (0, fun _ => 0)
def gfin (mi kc ks : Nat) : Prop := if mi = gLAW then kc ≤ (gbu mi).1 ∧ ks ≤ (gbu mi).2 else kc = (gbu mi).1 ∧ ks ≤ (gbu mi).2
def grb (mi : Nat) (x : Int32) : Prop := grt mi = some .int ∨ (grt mi = some .boolean ∧ (x = 0 ∨ x = 1))
/-- room for what a callee, or a making, takes -/
def gro1 (mi kc ks c s : Nat) : Prop := kc + c ≤ (gbu mi).1 ∧ ks + s ≤ (gbu mi).2
def gstep (C : gCa) (X : Nat × (Nat → Int32)) (mi pc : Nat) (e : gE) (lv : gL) (st : List Value) (sh : gS) (M : gM) (kc ks : Nat) (K : gK) (Q : gQ) : Prop := match e with
  | (i, n, a, b, z) => match i with
    | .iconst v => K (pc + n) lv (.int (Int32.ofInt v) :: st) sh M kc ks
    | .bipush v => K (pc + n) lv (.int (Int8.ofInt v).toInt32 :: st) sh M kc ks
    | .sipush v => K (pc + n) lv (.int (Int16.ofInt v).toInt32 :: st) sh M kc ks
    | .lconst v => K (pc + n) lv (.long (Int64.ofNat v) :: st) sh M kc ks
    | .ldc _ => K (pc + n) lv (.int (Int32.ofInt z) :: st) sh M kc ks
    | .ldc_w _ => K (pc + n) lv (.int (Int32.ofInt z) :: st) sh M kc ks
    | .ldc2_w _ => K (pc + n) lv (.long (Int64.ofInt z) :: st) sh M kc ks
    | .iload k => gldi lv k fun x => K (pc + n) lv (.int x :: st) sh M kc ks
    | .iload_n k => gldi lv k.val fun x => K (pc + n) lv (.int x :: st) sh M kc ks
    | .lload k => gldl lv k fun x => K (pc + n) lv (.long x :: st) sh M kc ks
    | .lload_n k => gldl lv k.val fun x => K (pc + n) lv (.long x :: st) sh M kc ks
    | .aload k => glda lv k fun x => K (pc + n) lv (x :: st) sh M kc ks
    | .aload_n k => glda lv k.val fun x => K (pc + n) lv (x :: st) sh M kc ks
    | .istore k => gi1 st fun x r => K (pc + n) (lv.set k (some (.int x))) r sh M kc ks
    | .istore_n k => gi1 st fun x r => K (pc + n) (lv.set k.val (some (.int x))) r sh M kc ks
    | .astore_n k => gal st (fun x r => K (pc + n) (lv.set k.val (some (.ref x))) r sh M kc ks) (fun x r => K (pc + n) (lv.set k.val (some (.float x))) r sh M kc ks)
    | .iinc k v => gldi lv k fun x => K (pc + n) (lv.set k (some (.int (x + Int32.ofInt v)))) st sh M kc ks
    | .iadd => gi2 st fun x y r => K (pc + n) lv (.int (x + y) :: r) sh M kc ks
    | .isub => gi2 st fun x y r => K (pc + n) lv (.int (x - y) :: r) sh M kc ks
    | .imul => gi2 st fun x y r => K (pc + n) lv (.int (x * y) :: r) sh M kc ks
    | .iand => gi2 st fun x y r => K (pc + n) lv (.int (x &&& y) :: r) sh M kc ks
    | .ior => gi2 st fun x y r => K (pc + n) lv (.int (x ||| y) :: r) sh M kc ks
    | .idiv => gi2 st fun x y r => ¬ y = 0 ∧ K (pc + n) lv (.int (x / y) :: r) sh M kc ks
    | .irem => gi2 st fun x y r => ¬ y = 0 ∧ K (pc + n) lv (.int (x - x / y * y) :: r) sh M kc ks
    | .ineg => gi1 st fun x r => K (pc + n) lv (.int (-x) :: r) sh M kc ks
    | .ishl => gi2 st fun x y r => K (pc + n) lv (.int (x <<< (y &&& 31)) :: r) sh M kc ks
    | .ishr => gi2 st fun x y r => K (pc + n) lv (.int (x >>> (y &&& 31)) :: r) sh M kc ks
    | .iushr => gi2 st fun x y r => K (pc + n) lv (.int (x.toUInt32 >>> (y.toUInt32 &&& Int32.toUInt32 31)).toInt32 :: r) sh M kc ks
    | .i2l => gi1 st fun x r => K (pc + n) lv (.long x.toInt64 :: r) sh M kc ks
    | .i2b => gi1 st fun x r => K (pc + n) lv (.int x.toInt8.toInt32 :: r) sh M kc ks
    | .i2s => gi1 st fun x r => K (pc + n) lv (.int x.toInt16.toInt32 :: r) sh M kc ks
    | .lsub => gl2 st fun x y r => K (pc + n) lv (.long (x - y) :: r) sh M kc ks
    | .lcmp => gl2 st fun x y r => K (pc + n) lv (.int (lg_cmp x y) :: r) sh M kc ks
    | .dup => gv1 st fun v r => K (pc + n) lv (v :: v :: r) sh M kc ks
    | .pop => gv1 st fun _ r => K (pc + n) lv r sh M kc ks
    | .dup2 => gv2 st fun v w r => K (pc + n) lv (v :: w :: v :: w :: r) sh M kc ks
    | .ifCond c _ => gi1 st fun x r => (gcn c x 0 → K a lv r sh M kc ks) ∧ (¬ gcn c x 0 → K (pc + n) lv r sh M kc ks)
    | .if_icmp c _ => gi2 st fun x y r => (gcn c x y → K a lv r sh M kc ks) ∧ (¬ gcn c x y → K (pc + n) lv r sh M kc ks)
    | .goto _ => K a lv st sh M kc ks
    | .tableswitch dflt lo hi offs => gi1 st fun x r => ((x.toInt < lo ∨ hi < x.toInt) → gj pc dflt fun t => K t lv r sh M kc ks) ∧ (¬ (x.toInt < lo ∨ hi < x.toInt) → gop1 (offs[(x.toInt - lo).toNat]?) fun o => gj pc o fun t => K t lv r sh M kc ks)
    | .lookupswitch dflt ps => gi1 st fun x r => gj pc (Op.lookupswitch.offset ps.toList dflt x.toInt) fun t => K t lv r sh M kc ks
    | .getfield _ => gr1 st fun o r => gci sh o = some a ∧ gfv (gsl sh o b) (M o b) fun v => K (pc + n) lv (v :: r) sh M kc ks
    | .putfield _ => gpf st (fun x o r => (gfi a b x ∧ gci sh o = some a ∧ gsl sh o b = some none) ∧ K (pc + n) lv r sh (gr M o (upd (M o) b x)) kc ks) (fun x o r => grT a b = true ∧ gop1 (gpr sh o a b x) fun sh' => K (pc + n) lv r sh' M kc ks)
    | .getstatic _ => K (pc + n) lv (.float (UInt32.ofNat a) :: st) sh M kc ks
    | .iaload => gai st (fun i o r => (gkd sh o = 0 ∧ vp_in i (gln sh o)) ∧ K (pc + n) lv (.int (M o i.toNatClampNeg) :: r) sh M kc ks) (fun i k r => vp_in i (gro mi X k).1 ∧ K (pc + n) lv (.int ((gro mi X k).2 i.toNatClampNeg) :: r) sh M kc ks)
    | .baload => gai st (fun i o r => (gkd sh o = 1 ∧ vp_in i (gln sh o)) ∧ K (pc + n) lv (.int (M o i.toNatClampNeg) :: r) sh M kc ks) (fun _ _ _ => False)
    | .aaload => gai st (fun i o r => (gkd sh o = 2 ∧ vp_in i (gln sh o)) ∧ gop1 (grf sh o i.toNatClampNeg) fun v => K (pc + n) lv (.ref v :: r) sh M kc ks) (fun _ _ _ => False)
    | .iastore => gas st fun x i o r => (gkd sh o = 0 ∧ vp_in i (gln sh o)) ∧ K (pc + n) lv r sh (gr M o (upd (M o) i.toNatClampNeg x)) kc ks
    | .bastore => gas st fun x i o r => (gkd sh o = 1 ∧ vp_in i (gln sh o) ∧ (x = 0 ∨ x = 1)) ∧ K (pc + n) lv r sh (gr M o (upd (M o) i.toNatClampNeg x)) kc ks
    | .arraylength => gal st (fun o r => gkd sh o = 0 ∧ K (pc + n) lv (.int (Int32.ofNat (gln sh o)) :: r) sh M kc ks) (fun k r => (¬ (gro mi X k).1 = 0 ∨ (mi = gLAW ∧ k = 0)) ∧ K (pc + n) lv (.int (Int32.ofNat (gro mi X k).1) :: r) sh M kc ks)
    | .new _ => (b = gN a ∧ gro1 mi kc ks 1 b) ∧ K (pc + n) lv (.ref sh.length :: st) (sh ++ [.inr (a, gdf a)]) (gr M sh.length (fun _ => 0)) (kc + 1) (ks + b)
    | .newarray _ => gi1 st fun x r => (¬ x < 0 ∧ x.toNatClampNeg ≤ 100000 ∧ gro1 mi kc ks 1 x.toNatClampNeg) ∧ K (pc + n) lv (.ref sh.length :: r) (sh ++ [.inl (a, x.toNatClampNeg, [])]) (gr M sh.length (fun _ => 0)) (kc + 1) (ks + x.toNatClampNeg)
    | .multianewarray _ _ => gi2 st fun x y r => ((¬ x < 0 ∧ x.toNatClampNeg ≤ 1000) ∧ (¬ y < 0 ∧ y.toNatClampNeg ≤ 1000) ∧ gro1 mi kc ks (1 + x.toNatClampNeg) (x.toNatClampNeg + x.toNatClampNeg * y.toNatClampNeg)) ∧ K (pc + n) lv (.ref sh.length :: r) (sh ++ .inl (2, x.toNatClampNeg, (List.range x.toNatClampNeg).map (fun i => sh.length + 1 + i)) :: List.replicate x.toNatClampNeg (.inl (0, y.toNatClampNeg, []))) (fun q => if sh.length ≤ q then fun _ => 0 else M q) (kc + 1 + x.toNatClampNeg) (ks + x.toNatClampNeg + x.toNatClampNeg * y.toNatClampNeg)
    | .invokevirtual _ => gr1 (st.drop b) fun o r => (gci sh o = some (gow a) ∧ r.length ≤ 4 ∧ gro1 mi kc ks (gbu a).1 (gbu a).2) ∧ C a (.ref o :: (st.take b).reverse) sh M fun v sh' M' => K (pc + n) lv (v ++ r) sh' M' (kc + (gbu a).1) (ks + (gbu a).2)
    | .invokestatic _ => (z = 5 → gcy st fun m dp o1 sp o0 r => ((gkd sh o0 = 0 ∧ gkd sh o1 = 0) ∧ (¬ sp < 0 ∧ ¬ dp < 0 ∧ ¬ m < 0) ∧ sp.toNatClampNeg + m.toNatClampNeg ≤ gln sh o0 ∧ dp.toNatClampNeg + m.toNatClampNeg ≤ gln sh o1 ∧ r.length ≤ 4) ∧ K (pc + n) lv r sh (gr M o1 (va_cpy (M o0) (M o1) sp.toNatClampNeg dp.toNatClampNeg m.toNatClampNeg)) kc ks) ∧ (¬ z = 5 → (b ≤ st.length ∧ (st.drop b).length ≤ 4 ∧ gro1 mi kc ks (gbu a).1 (gbu a).2) ∧ C a (st.take b).reverse sh M fun v sh' M' => K (pc + n) lv (v ++ st.drop b) sh' M' (kc + (gbu a).1) (ks + (gbu a).2))
    | .invokespecial _ => gr1 (st.drop b) fun o r => (z = 4 → r.length ≤ 4 ∧ K (pc + n) lv r sh M kc ks) ∧ (¬ z = 4 → (r.length ≤ 4 ∧ gro1 mi kc ks (gbu a).1 (gbu a).2) ∧ C a (.ref o :: (st.take b).reverse) sh M fun v sh' M' => K (pc + n) lv (v ++ r) sh' M' (kc + (gbu a).1) (ks + (gbu a).2))
    | .ireturn => gi1 st fun x r => (r = [] ∧ grb mi x ∧ gfin mi kc ks) ∧ Q [.int x] sh M
    | .return_ => (st = [] ∧ gfin mi kc ks) ∧ Q [] sh M
    | _ => False
/-- the least condition that is closed under the steps -/
def gR (C : gCa) (X : Nat × (Nat → Int32)) (mi pc : Nat) (lv : gL) (st : List Value) (sh : gS) (M : gM) (kc ks : Nat) (Q : gQ) : Prop :=
  ∀ P : gK, (∀ pc lv st sh M kc ks e, gop mi pc = some e → gstep C X mi pc e lv st sh M kc ks P Q → P pc lv st sh M kc ks) → P pc lv st sh M kc ks
/-- the locals at a method's entry -/
def glo : List Value → gL
  | [] => []
  | v :: t => if v.category = 2 then some v :: none :: glo t else some v :: glo t
def gent (mi : Nat) (as : List Value) : gL := glo as ++ List.replicate (gml mi - (glo as).length) none
def gchk (mi : Nat) (as : List Value) : Bool := as.length == gna mi && (glo as).length ≤ gml mi && (mi == gIN || as.all (fun v => v.category == 1))
theorem gi1_m {st : List Value} {F F' : Int32 → List Value → Prop} (h : gi1 st F) (k : ∀ x r, F x r → F' x r) : gi1 st F' := by
  unfold gi1 at h ⊢; split at h <;> first | exact k _ _ h | exact h.elim
theorem gi2_m {st : List Value} {F F' : Int32 → Int32 → List Value → Prop} (h : gi2 st F) (k : ∀ x y r, F x y r → F' x y r) : gi2 st F' := by
  unfold gi2 at h ⊢; split at h <;> first | exact k _ _ _ h | exact h.elim
theorem gl2_m {st : List Value} {F F' : Int64 → Int64 → List Value → Prop} (h : gl2 st F) (k : ∀ x y r, F x y r → F' x y r) : gl2 st F' := by
  unfold gl2 at h ⊢; split at h <;> first | exact k _ _ _ h | exact h.elim
theorem gr1_m {st : List Value} {F F' : Nat → List Value → Prop} (h : gr1 st F) (k : ∀ x r, F x r → F' x r) : gr1 st F' := by
  unfold gr1 at h ⊢; split at h <;> first | exact k _ _ h | exact h.elim
theorem gv1_m {st : List Value} {F F' : Value → List Value → Prop} (h : gv1 st F) (k : ∀ x r, F x r → F' x r) : gv1 st F' := by
  unfold gv1 at h ⊢; split at h <;> first | exact ⟨h.1, k _ _ h.2⟩ | exact h.elim
theorem gv2_m {st : List Value} {F F' : Value → Value → List Value → Prop} (h : gv2 st F) (k : ∀ x y r, F x y r → F' x y r) : gv2 st F' := by
  unfold gv2 at h ⊢; split at h <;> first | exact ⟨h.1, k _ _ _ h.2⟩ | exact h.elim
theorem gai_m {st : List Value} {F F' : Int32 → Nat → List Value → Prop} {G G' : Int32 → UInt32 → List Value → Prop} (h : gai st F G) (k : ∀ x y r, F x y r → F' x y r) (k2 : ∀ x y r, G x y r → G' x y r) : gai st F' G' := by
  unfold gai at h ⊢; split at h <;> first | exact k _ _ _ h | exact k2 _ _ _ h | exact h.elim
theorem gas_m {st : List Value} {F F' : Int32 → Int32 → Nat → List Value → Prop} (h : gas st F) (k : ∀ x y a r, F x y a r → F' x y a r) : gas st F' := by
  unfold gas at h ⊢; split at h <;> first | exact k _ _ _ _ h | exact h.elim
theorem gpf_m {st : List Value} {F F' : Int32 → Nat → List Value → Prop} {G G' : Nat → Nat → List Value → Prop} (h : gpf st F G) (k : ∀ x y r, F x y r → F' x y r) (k2 : ∀ x y r, G x y r → G' x y r) : gpf st F' G' := by
  unfold gpf at h ⊢; split at h <;> first | exact k _ _ _ h | exact k2 _ _ _ h | exact h.elim
theorem gal_m {st : List Value} {F F' : Nat → List Value → Prop} {G G' : UInt32 → List Value → Prop} (h : gal st F G) (k : ∀ x r, F x r → F' x r) (k2 : ∀ x r, G x r → G' x r) : gal st F' G' := by
  unfold gal at h ⊢; split at h <;> first | exact k _ _ h | exact k2 _ _ h | exact h.elim
theorem gcy_m {st : List Value} {F F' : Int32 → Int32 → Nat → Int32 → Nat → List Value → Prop} (h : gcy st F) (k : ∀ a b c d e r, F a b c d e r → F' a b c d e r) : gcy st F' := by
  unfold gcy at h ⊢; split at h <;> first | exact k _ _ _ _ _ _ h | exact h.elim
theorem gldi_m {lv : gL} {k : Nat} {F F' : Int32 → Prop} (h : gldi lv k F) (q : ∀ x, F x → F' x) : gldi lv k F' := by
  unfold gldi at h ⊢; split at h <;> first | exact q _ h | exact h.elim
theorem gldl_m {lv : gL} {k : Nat} {F F' : Int64 → Prop} (h : gldl lv k F) (q : ∀ x, F x → F' x) : gldl lv k F' := by
  unfold gldl at h ⊢; split at h <;> first | exact q _ h | exact h.elim
theorem glda_m {lv : gL} {k : Nat} {F F' : Value → Prop} (h : glda lv k F) (q : ∀ x, F x → F' x) : glda lv k F' := by
  unfold glda at h ⊢; split at h <;> first | exact q _ h | exact h.elim
theorem gfv_m {o : Option (Option Value)} {x : Int32} {F F' : Value → Prop} (h : gfv o x F) (q : ∀ x, F x → F' x) : gfv o x F' := by
  unfold gfv at h ⊢; split at h <;> first | exact q _ h | exact h.elim
theorem gop1_m {α : Type} {o : Option α} {F F' : α → Prop} (h : gop1 o F) (q : ∀ x, F x → F' x) : gop1 o F' := by
  unfold gop1 at h ⊢; split at h <;> first | exact q _ h | exact h.elim
theorem gj_m {pc : Nat} {off : Int} {F F' : Nat → Prop} (h : gj pc off F) (q : ∀ x, F x → F' x) : gj pc off F' := ⟨h.1, q _ h.2⟩
def gCm (C : gCa) : Prop := ∀ a As sh M (Q Q' : gQ), (∀ r sh M, Q r sh M → Q' r sh M) → C a As sh M Q → C a As sh M Q'
set_option maxHeartbeats 4000000 in
theorem gmono {C : gCa} {X : Nat × (Nat → Int32)} {mi pc : Nat} {e : gE} {lv : gL} {st : List Value} {sh : gS} {M : gM} {kc ks : Nat} {K K' : gK} {Q Q' : gQ} (hC : gCm C) (hK : ∀ pc lv st sh M kc ks, K pc lv st sh M kc ks → K' pc lv st sh M kc ks) (hQ : ∀ r sh M, Q r sh M → Q' r sh M) (h : gstep C X mi pc e lv st sh M kc ks K Q) : gstep C X mi pc e lv st sh M kc ks K' Q' := by
  obtain ⟨i, n, a, b, z⟩ := e
  cases i <;> simp only [gstep] at h ⊢ <;> first
    | exact h.elim
    | exact hK _ _ _ _ _ _ _ h
    | exact gldi_m h (fun _ q => hK _ _ _ _ _ _ _ q)
    | exact gldl_m h (fun _ q => hK _ _ _ _ _ _ _ q)
    | exact glda_m h (fun _ q => hK _ _ _ _ _ _ _ q)
    | exact gi1_m h (fun _ _ q => hK _ _ _ _ _ _ _ q)
    | exact gr1_m h (fun _ _ q => hK _ _ _ _ _ _ _ q)
    | exact gi2_m h (fun _ _ _ q => hK _ _ _ _ _ _ _ q)
    | exact gl2_m h (fun _ _ _ q => hK _ _ _ _ _ _ _ q)
    | exact gv1_m h (fun _ _ q => hK _ _ _ _ _ _ _ q)
    | exact gv2_m h (fun _ _ _ q => hK _ _ _ _ _ _ _ q)
    | exact gi2_m h (fun _ _ _ q => ⟨q.1, hK _ _ _ _ _ _ _ q.2⟩)
    | exact gi1_m h (fun _ _ q => ⟨q.1, hK _ _ _ _ _ _ _ q.2⟩)
    | exact gi1_m h (fun _ _ q => ⟨q.1, hQ _ _ _ q.2⟩)
    | exact ⟨h.1, hQ _ _ _ h.2⟩
    | exact ⟨h.1, hK _ _ _ _ _ _ _ h.2⟩
    | exact gi1_m h (fun _ _ q => ⟨fun z => hK _ _ _ _ _ _ _ (q.1 z), fun z => hK _ _ _ _ _ _ _ (q.2 z)⟩)
    | exact gi2_m h (fun _ _ _ q => ⟨fun z => hK _ _ _ _ _ _ _ (q.1 z), fun z => hK _ _ _ _ _ _ _ (q.2 z)⟩)
    | exact gi1_m h (fun _ _ q => ⟨fun z => gj_m (q.1 z) (fun _ q => hK _ _ _ _ _ _ _ q), fun z => gop1_m (q.2 z) (fun _ q => gj_m q (fun _ q => hK _ _ _ _ _ _ _ q))⟩)
    | exact gi1_m h (fun _ _ q => gj_m q (fun _ q => hK _ _ _ _ _ _ _ q))
    | exact gr1_m h (fun _ _ q => ⟨q.1, gfv_m q.2 (fun _ q => hK _ _ _ _ _ _ _ q)⟩)
    | exact gpf_m h (fun _ _ _ q => ⟨q.1, hK _ _ _ _ _ _ _ q.2⟩) (fun _ _ _ q => ⟨q.1, gop1_m q.2 (fun _ q => hK _ _ _ _ _ _ _ q)⟩)
    | exact gai_m h (fun _ _ _ q => ⟨q.1, hK _ _ _ _ _ _ _ q.2⟩) (fun _ _ _ q => ⟨q.1, hK _ _ _ _ _ _ _ q.2⟩)
    | exact gai_m h (fun _ _ _ q => ⟨q.1, hK _ _ _ _ _ _ _ q.2⟩) (fun _ _ _ q => q)
    | exact gai_m h (fun _ _ _ q => ⟨q.1, gop1_m q.2 (fun _ q => hK _ _ _ _ _ _ _ q)⟩) (fun _ _ _ q => q)
    | exact gas_m h (fun _ _ _ _ q => ⟨q.1, hK _ _ _ _ _ _ _ q.2⟩)
    | exact gal_m h (fun _ _ q => hK _ _ _ _ _ _ _ q) (fun _ _ q => hK _ _ _ _ _ _ _ q)
    | exact gal_m h (fun _ _ q => ⟨q.1, hK _ _ _ _ _ _ _ q.2⟩) (fun _ _ q => ⟨q.1, hK _ _ _ _ _ _ _ q.2⟩)
    | exact gr1_m h (fun _ _ q => ⟨q.1, hC _ _ _ _ _ _ (fun _ _ _ q => hK _ _ _ _ _ _ _ q) q.2⟩)
    | exact ⟨fun z => gcy_m (h.1 z) (fun _ _ _ _ _ _ q => ⟨q.1, hK _ _ _ _ _ _ _ q.2⟩), fun z => ⟨(h.2 z).1, hC _ _ _ _ _ _ (fun _ _ _ q => hK _ _ _ _ _ _ _ q) (h.2 z).2⟩⟩
    | exact gr1_m h (fun _ _ q => ⟨fun z => ⟨(q.1 z).1, hK _ _ _ _ _ _ _ (q.1 z).2⟩, fun z => ⟨(q.2 z).1, hC _ _ _ _ _ _ (fun _ _ _ q => hK _ _ _ _ _ _ _ q) (q.2 z).2⟩⟩)
theorem gin {C : gCa} {X : Nat × (Nat → Int32)} {mi pc : Nat} {lv : gL} {st : List Value} {sh : gS} {M : gM} {kc ks : Nat} {Q : gQ} (hC : gCm C) {e : gE} (he : gop mi pc = some e) (h : gstep C X mi pc e lv st sh M kc ks (fun pc lv st sh M kc ks => gR C X mi pc lv st sh M kc ks Q) Q) : gR C X mi pc lv st sh M kc ks Q :=
  fun P hP => hP _ _ _ _ _ _ _ e he (gmono hC (fun _ _ _ _ _ _ _ q => q P hP) (fun _ _ _ q => q) h)
theorem gfx {C : gCa} {X : Nat × (Nat → Int32)} {mi pc : Nat} {lv : gL} {st : List Value} {sh : gS} {M : gM} {kc ks : Nat} {Q : gQ} (hC : gCm C) {e : gE} (he : gop mi pc = some e) : gR C X mi pc lv st sh M kc ks Q = gstep C X mi pc e lv st sh M kc ks (fun pc lv st sh M kc ks => gR C X mi pc lv st sh M kc ks Q) Q := by
  refine propext ⟨fun h => ?_, fun h => gin hC he h⟩
  obtain ⟨e2, he2, h2⟩ := h (fun pc lv st sh M kc ks => ∃ e, gop mi pc = some e ∧ gstep C X mi pc e lv st sh M kc ks (fun pc lv st sh M kc ks => gR C X mi pc lv st sh M kc ks Q) Q) (fun pc lv st sh M kc ks e he h => ⟨e, he, gmono hC (fun pc lv st sh M kc ks q => by obtain ⟨e3, h3, q⟩ := q; exact gin hC h3 q) (fun _ _ _ q => q) h⟩)
  have : e = e2 := Option.some.inj (he.symm.trans he2)
  subst this
  exact h2
theorem gR_m {C : gCa} {X : Nat × (Nat → Int32)} {mi pc : Nat} {lv : gL} {st : List Value} {sh : gS} {M : gM} {kc ks : Nat} {Q Q' : gQ} (hC : gCm C) (hQ : ∀ r sh M, Q r sh M → Q' r sh M) (h : gR C X mi pc lv st sh M kc ks Q) : gR C X mi pc lv st sh M kc ks Q' :=
  fun P hP => h P (fun _ _ _ _ _ _ _ e he q => hP _ _ _ _ _ _ _ e he (gmono hC (fun _ _ _ _ _ _ _ q => q) hQ q))
