/-! the small machine's heap as a world of the kit -/
def grv (β : Nat) (sp : UInt32 → Nat) : Value → Value
  | .ref a => .ref (β + a)
  | .float k => .ref (sp k)
  | v => v
theorem grv_cat (β : Nat) (sp : UInt32 → Nat) (v : Value) : (grv β sp v).category = v.category := by cases v <;> rfl
def gsv (β : Nat) (sp : UInt32 → Nat) (x : Int32) : Option Value → Value
  | some v => grv β sp v
  | none => .int x
def gce (β : Nat) (sp : UInt32 → Nat) (cs : Nat → ClassId) (c : gC) (f : Nat → Int32) : va_E := match c with
  | .inl (k, n, rs) => .inl (cs k, n, if k = 2 then .inr (.inr (.inr (.inr (fun j => (rs[j]?).map (fun a => β + a))))) else .inl f)
  | .inr (ci, sl) => .inr (ci, sl.mapIdx (fun k o => gsv β sp (f k) o))
def gw (β : Nat) (sp : UInt32 → Nat) (cs : Nat → ClassId) (sh : gS) (M : gM) : va_W := sh.mapIdx (fun a c => (β + a, gce β sp cs c (M a)))
theorem gr_self (M : gM) (a : Nat) : gr M a (M a) = M := by
  funext x
  unfold gr
  by_cases h : x = a
  · rw [if_pos h, h]
  · rw [if_neg h]
section GW
variable {β : Nat} {sp : UInt32 → Nat} {cs : Nat → ClassId} {sh : gS} {M : gM}
theorem gw_get {a : Nat} {c : gC} (h : sh[a]? = some c) : (gw β sp cs sh M)[a]? = some (β + a, gce β sp cs c (M a)) := by
  simp [gw, List.getElem?_mapIdx, h]
theorem gw_len : (gw β sp cs sh M).length = sh.length := by simp [gw]
theorem gw_set {a : Nat} {c : gC} (h : sh[a]? = some c) (c' : gC) (f : Nat → Int32) : (gw β sp cs sh M).set a (β + a, gce β sp cs c' f) = gw β sp cs (sh.set a c') (gr M a f) := by
  have ha : a < sh.length := (List.getElem?_eq_some_iff.mp h).1
  apply List.ext_getElem?
  intro i
  by_cases hi : i = a
  · subst hi
    rw [List.getElem?_set_self (by rw [gw_len]; exact ha), gw_get (c := c') (List.getElem?_set_self ha)]
    simp [gr]
  · rw [List.getElem?_set_ne (Ne.symm hi)]
    simp [gw, List.getElem?_mapIdx, List.getElem?_set_ne (Ne.symm hi), gr, hi]
theorem gw_push (c : gC) (f : Nat → Int32) : gw β sp cs sh M ++ [(β + sh.length, gce β sp cs c f)] = gw β sp cs (sh ++ [c]) (gr M sh.length f) := by
  apply List.ext_getElem?
  intro i
  by_cases hi : i < sh.length
  · rw [List.getElem?_append_left (by rw [gw_len]; exact hi)]
    have h0 : sh[i]? = some sh[i] := List.getElem?_eq_getElem hi
    rw [gw_get h0, gw_get (sh := sh ++ [c]) (c := sh[i]) (by rw [List.getElem?_append_left hi]; exact h0)]
    simp [gr, Nat.ne_of_lt hi]
  · rw [List.getElem?_append_right (by rw [gw_len]; omega), gw_len]
    by_cases h2 : i = sh.length
    · subst h2
      rw [gw_get (c := c) (by simp)]
      simp [gr]
    · rw [List.getElem?_eq_none (by simp; omega), List.getElem?_eq_none (by rw [gw_len]; simp; omega)]
theorem gset_same {α : Type} {l : List α} {a : Nat} {c : α} (h : l[a]? = some c) : l.set a c = l := by
  apply List.ext_getElem?
  intro i
  by_cases hi : i = a
  · subst hi
    rw [List.getElem?_set_self (List.getElem?_eq_some_iff.mp h).1, h]
  · rw [List.getElem?_set_ne (Ne.symm hi)]
/-- an array's or an object's ints change -/
theorem gw_row {a : Nat} {c : gC} (h : sh[a]? = some c) (f : Nat → Int32) : (gw β sp cs sh M).set a (β + a, gce β sp cs c f) = gw β sp cs sh (gr M a f) := by
  rw [gw_set h c f, gset_same h]
theorem gmi_set {sl : List (Option Value)} {f f' : Nat → Int32} {b : Nat} {w : Option Value} {v : Value} (hb : b < sl.length) (hv : gsv β sp (f' b) w = v) (hf : ∀ j, j ≠ b → f' j = f j) : (sl.mapIdx (fun k o => gsv β sp (f k) o)).set b v = (sl.set b w).mapIdx (fun k o => gsv β sp (f' k) o) := by
  apply List.ext_getElem?
  intro i
  by_cases hi : i = b
  · subst hi
    rw [List.getElem?_set_self (by simpa using hb)]
    rw [List.getElem?_mapIdx, List.getElem?_set_self hb]
    exact congrArg some hv.symm
  · rw [List.getElem?_set_ne (Ne.symm hi)]
    simp [List.getElem?_mapIdx, List.getElem?_set_ne (Ne.symm hi), hf i hi]
theorem gw_fld {o ci b : Nat} {sl : List (Option Value)} {x : Int32} (h : sh[o]? = some (.inr (ci, sl))) (hb : sl[b]? = some none) : (gw β sp cs sh M).set o (β + o, .inr (ci, (sl.mapIdx (fun k q => gsv β sp (M o k) q)).set b (.int x))) = gw β sp cs sh (gr M o (upd (M o) b x)) := by
  have hl : b < sl.length := (List.getElem?_eq_some_iff.mp hb).1
  rw [← gw_row h, gmi_set (f' := upd (M o) b x) (w := none) hl (by simp [gsv, upd]) (fun j hj => by simp [upd, hj]), gset_same hb]
  rfl
theorem gw_ref {o ci b x : Nat} {sl : List (Option Value)} {w : Value} (h : sh[o]? = some (.inr (ci, sl))) (hb : sl[b]? = some (some w)) : (gw β sp cs sh M).set o (β + o, .inr (ci, (sl.mapIdx (fun k q => gsv β sp (M o k) q)).set b (.ref (β + x)))) = gw β sp cs (sh.set o (.inr (ci, sl.set b (some (.ref x))))) M := by
  have hl : b < sl.length := (List.getElem?_eq_some_iff.mp hb).1
  have h2 := gw_set (β := β) (sp := sp) (cs := cs) (M := M) h (.inr (ci, sl.set b (some (.ref x)))) (M o)
  rw [gr_self] at h2
  rw [← h2, gmi_set (β := β) (sp := sp) (f := M o) (f' := M o) (w := some (.ref x)) (v := .ref (β + x)) hl rfl (fun j hj => rfl)]
  rfl
theorem gci_inv {o a : Nat} (h : gci sh o = some a) : ∃ sl, sh[o]? = some (.inr (a, sl)) ∧ ∀ k, gsl sh o k = sl[k]? := by
  unfold gci at h
  split at h
  · rename_i ci sl he
    cases h
    exact ⟨sl, he, fun k => by unfold gsl; rw [he]⟩
  · cases h
theorem gkd_inv {o k : Nat} (h : gkd sh o = k) (hk : k ≠ 9) : ∃ n rs, sh[o]? = some (.inl (k, n, rs)) ∧ gln sh o = n ∧ ∀ j, grf sh o j = rs[j]? := by
  unfold gkd at h
  split at h
  · rename_i k' n rs he
    subst h
    exact ⟨n, rs, he, by unfold gln; rw [he], fun j => by unfold grf; rw [he]⟩
  · exact absurd h.symm hk
theorem gpr_inv {o ci b x : Nat} {sh' : gS} (h : gpr sh o ci b x = some sh') : ∃ sl w, sh[o]? = some (.inr (ci, sl)) ∧ sl[b]? = some (some w) ∧ sh' = sh.set o (.inr (ci, sl.set b (some (.ref x)))) := by
  unfold gpr at h
  split at h
  · rename_i c sl he
    split at h
    · rename_i w hw
      split at h
      · rename_i hc
        subst hc
        cases h
        exact ⟨sl, w, he, hw, rfl⟩
      · cases h
    · cases h
  · cases h
theorem gi1_e {st : List Value} {F : Int32 → List Value → Prop} (h : gi1 st F) : ∃ x r, st = .int x :: r ∧ F x r := by
  unfold gi1 at h; split at h <;> first | exact ⟨_, _, rfl, h⟩ | exact h.elim
theorem gi2_e {st : List Value} {F : Int32 → Int32 → List Value → Prop} (h : gi2 st F) : ∃ x y r, st = .int y :: .int x :: r ∧ F x y r := by
  unfold gi2 at h; split at h <;> first | exact ⟨_, _, _, rfl, h⟩ | exact h.elim
theorem gl2_e {st : List Value} {F : Int64 → Int64 → List Value → Prop} (h : gl2 st F) : ∃ x y r, st = .long y :: .long x :: r ∧ F x y r := by
  unfold gl2 at h; split at h <;> first | exact ⟨_, _, _, rfl, h⟩ | exact h.elim
theorem gr1_e {st : List Value} {F : Nat → List Value → Prop} (h : gr1 st F) : ∃ x r, st = .ref x :: r ∧ F x r := by
  unfold gr1 at h; split at h <;> first | exact ⟨_, _, rfl, h⟩ | exact h.elim
theorem gv1_e {st : List Value} {F : Value → List Value → Prop} (h : gv1 st F) : ∃ v r, st = v :: r ∧ v.category = 1 ∧ F v r := by
  unfold gv1 at h; split at h <;> first | exact ⟨_, _, rfl, h⟩ | exact h.elim
theorem gv2_e {st : List Value} {F : Value → Value → List Value → Prop} (h : gv2 st F) : ∃ v w r, st = v :: w :: r ∧ (v.category = 1 ∧ w.category = 1) ∧ F v w r := by
  unfold gv2 at h; split at h <;> first | exact ⟨_, _, _, rfl, h⟩ | exact h.elim
theorem gai_e {st : List Value} {F : Int32 → Nat → List Value → Prop} {G : Int32 → UInt32 → List Value → Prop} (h : gai st F G) : (∃ i a r, st = .int i :: .ref a :: r ∧ F i a r) ∨ (∃ i k r, st = .int i :: .float k :: r ∧ G i k r) := by
  unfold gai at h; split at h <;> first | exact Or.inl ⟨_, _, _, rfl, h⟩ | exact Or.inr ⟨_, _, _, rfl, h⟩ | exact h.elim
theorem gas_e {st : List Value} {F : Int32 → Int32 → Nat → List Value → Prop} (h : gas st F) : ∃ x i a r, st = .int x :: .int i :: .ref a :: r ∧ F x i a r := by
  unfold gas at h; split at h <;> first | exact ⟨_, _, _, _, rfl, h⟩ | exact h.elim
theorem gpf_e {st : List Value} {F : Int32 → Nat → List Value → Prop} {G : Nat → Nat → List Value → Prop} (h : gpf st F G) : (∃ x a r, st = .int x :: .ref a :: r ∧ F x a r) ∨ (∃ x a r, st = .ref x :: .ref a :: r ∧ G x a r) := by
  unfold gpf at h; split at h <;> first | exact Or.inl ⟨_, _, _, rfl, h⟩ | exact Or.inr ⟨_, _, _, rfl, h⟩ | exact h.elim
theorem gal_e {st : List Value} {F : Nat → List Value → Prop} {G : UInt32 → List Value → Prop} (h : gal st F G) : (∃ a r, st = .ref a :: r ∧ F a r) ∨ (∃ k r, st = .float k :: r ∧ G k r) := by
  unfold gal at h; split at h <;> first | exact Or.inl ⟨_, _, rfl, h⟩ | exact Or.inr ⟨_, _, rfl, h⟩ | exact h.elim
theorem gcy_e {st : List Value} {F : Int32 → Int32 → Nat → Int32 → Nat → List Value → Prop} (h : gcy st F) : ∃ n dp a1 sp a0 r, st = .int n :: .int dp :: .ref a1 :: .int sp :: .ref a0 :: r ∧ F n dp a1 sp a0 r := by
  unfold gcy at h; split at h <;> first | exact ⟨_, _, _, _, _, _, rfl, h⟩ | exact h.elim
theorem gldi_e {lv : gL} {k : Nat} {F : Int32 → Prop} (h : gldi lv k F) : ∃ x, lv[k]? = some (some (.int x)) ∧ F x := by
  unfold gldi at h; split at h <;> first | exact ⟨_, by assumption, h⟩ | exact h.elim
theorem gldl_e {lv : gL} {k : Nat} {F : Int64 → Prop} (h : gldl lv k F) : ∃ x, lv[k]? = some (some (.long x)) ∧ F x := by
  unfold gldl at h; split at h <;> first | exact ⟨_, by assumption, h⟩ | exact h.elim
theorem glda_e {lv : gL} {k : Nat} {F : Value → Prop} (h : glda lv k F) : ∃ v a, lv[k]? = some (some v) ∧ grv β sp v = .ref a ∧ F v := by
  unfold glda at h; split at h <;> first | exact ⟨_, _, by assumption, rfl, h⟩ | exact h.elim
theorem gfv_e {o : Option (Option Value)} {x : Int32} {F : Value → Prop} (h : gfv o x F) : ∃ w, o = some w ∧ F (w.getD (.int x)) := by
  unfold gfv at h; split at h <;> first | exact ⟨_, rfl, h⟩ | exact h.elim
theorem gop1_e {α : Type} {o : Option α} {F : α → Prop} (h : gop1 o F) : ∃ v, o = some v ∧ F v := by
  unfold gop1 at h; split at h <;> first | exact ⟨_, rfl, h⟩ | exact h.elim
/-- the locals -/
def gLv (β : Nat) (sp : UInt32 → Nat) (ls : Array Slot) (nL : Nat) (lv : gL) : Prop := ls.size = nL ∧ lv_wf ls ∧ ∀ (k : Nat) (v : Value), lv[k]? = some (some v) → ls[k]? = some (.val (grv β sp v))
def gnl (mi : Nat) (lv : gL) : Prop := mi = gIN ∨ ∀ (k : Nat) (v : Value), lv[k]? = some (some v) → v.category = 1
def glp (β : Nat) (sp : UInt32 → Nat) (lv : gL) : List (Nat × Value) := (List.range lv.length).filterMap (fun k => (lv[k]?.join).map (fun v => (k, grv β sp v)))
theorem glp_mem {lv : gL} {q : Nat × Value} : q ∈ glp β sp lv ↔ ∃ v, lv[q.1]? = some (some v) ∧ q.2 = grv β sp v := by
  obtain ⟨k, w⟩ := q
  simp only [glp, List.mem_filterMap, List.mem_range, Option.map_eq_some_iff]
  constructor
  · rintro ⟨k', hk, v, hv, he⟩
    cases he
    refine ⟨v, ?_, rfl⟩
    cases h : lv[k]? with
    | none => simp [h] at hv
    | some o =>
      rw [h] at hv
      simp at hv
      rw [hv]
  · rintro ⟨v, hv, rfl⟩
    exact ⟨k, (List.getElem?_eq_some_iff.mp hv).1, v, by rw [hv]; rfl, rfl⟩
theorem gLv_has {ls : Array Slot} {nL : Nat} {lv : gL} (h : gLv β sp ls nL lv) : lv_has ls nL (glp β sp lv) := by
  refine ⟨h.1, h.2.1, fun q hq => ?_⟩
  obtain ⟨v, hv, he⟩ := glp_mem.mp hq
  rw [he]
  exact h.2.2 _ _ hv
theorem gLv_put {ls : Array Slot} {nL k : Nat} {lv : gL} {v : Value} (h : lv_has ls nL ((k, grv β sp v) :: (glp β sp lv).filter (fun q => !(q.1 == k) && !(q.1 + 1 == k && q.2.category == 2)))) (hn : ∀ (j : Nat) (w : Value), lv[j]? = some (some w) → w.category = 1) (hk : k < lv.length) : gLv β sp ls nL (lv.set k (some v)) := by
  refine ⟨h.1, h.2.1, fun j w hw => ?_⟩
  by_cases hj : j = k
  · subst hj
    rw [List.getElem?_set_self hk] at hw
    cases hw
    exact h.2.2 _ List.mem_cons_self
  · rw [List.getElem?_set_ne (Ne.symm hj)] at hw
    refine h.2.2 (j, grv β sp w) (List.mem_cons_of_mem _ (List.mem_filter.mpr ⟨glp_mem.mpr ⟨w, hw, rfl⟩, ?_⟩))
    simp [hj, grv_cat, hn j w hw]
theorem gnl_put {mi k : Nat} {lv : gL} {v : Value} (h : gnl mi lv) (hv : v.category = 1) : gnl mi (lv.set k (some v)) := by
  rcases h with h | h
  · exact Or.inl h
  · refine Or.inr fun j w hw => ?_
    by_cases hj : j = k
    · subst hj
      have hl : j < (lv.set j (some v)).length := (List.getElem?_eq_some_iff.mp hw).1
      rw [List.getElem?_set_self (by simpa using hl)] at hw
      cases hw
      exact hv
    · rw [List.getElem?_set_ne (Ne.symm hj)] at hw
      exact h j w hw
theorem glo_args : ∀ (as : List Value) (i k : Nat) (v : Value), (glo as)[k]? = some (some v) → (i + k, grv β sp v) ∈ lv_args i (as.map (grv β sp))
  | [], _, _, _, h => by simp [glo] at h
  | w :: t, i, k, v, h => by
    rw [List.map_cons, lv_args, grv_cat]
    unfold glo at h
    by_cases hc : w.category = 2
    · rw [if_pos hc] at h ⊢
      match k, h with
      | 0, h => cases h; exact List.mem_cons_self
      | 1, h => cases h
      | k + 2, h =>
        refine List.mem_cons_of_mem _ ?_
        have := glo_args t (i + 2) k v (by simpa using h)
        rwa [show i + (k + 2) = i + 2 + k by omega]
    · rw [if_neg hc] at h ⊢
      match k, h with
      | 0, h => cases h; exact List.mem_cons_self
      | k + 1, h =>
        refine List.mem_cons_of_mem _ ?_
        have := glo_args t (i + 1) k v (by simpa using h)
        rwa [show i + (k + 1) = i + 1 + k by omega]
theorem glo_len : ∀ (as : List Value), (lg_sl (as.map (grv β sp))).length = (glo as).length
  | [] => rfl
  | w :: t => by
    have ih := glo_len t
    unfold lg_sl at ih ⊢
    rw [List.map_cons, List.flatMap_cons, List.length_append, ih, grv_cat]
    show _ = (if w.category = 2 then some w :: none :: glo t else some w :: glo t).length
    by_cases hc : w.category = 2
    · rw [if_pos hc, if_pos hc]; simp; omega
    · rw [if_neg hc, if_neg hc]; simp; omega
theorem gent_get {mi k : Nat} {as : List Value} {v : Value} (h : (gent mi as)[k]? = some (some v)) : (glo as)[k]? = some (some v) := by
  unfold gent at h
  by_cases hk : k < (glo as).length
  · rwa [List.getElem?_append_left hk] at h
  · rw [List.getElem?_append_right (by omega), List.getElem?_replicate] at h
    split at h <;> cases h
theorem glo_cat : ∀ (as : List Value), as.all (fun v => v.category == 1) = true → ∀ (k : Nat) (v : Value), (glo as)[k]? = some (some v) → v.category = 1
  | [], _, _, _, h => by simp [glo] at h
  | w :: t, ha, k, v, h => by
    rw [List.all_cons, Bool.and_eq_true] at ha
    have hw : w.category = 1 := by simpa using ha.1
    unfold glo at h
    rw [if_neg (by rw [hw]; decide)] at h
    match k, h with
    | 0, h => cases h; exact hw
    | k + 1, h => exact glo_cat t ha.2 k v (by simpa using h)
theorem gr_app {r st : List Value} (h : r.length ≤ 1) : ((r.map (grv β sp)).head?).toList ++ st.map (grv β sp) = (r ++ st).map (grv β sp) := by
  match r, h with
  | [], _ => rfl
  | [v], _ => rfl
  | _ :: _ :: _, h => simp at h
end GW
theorem gsv_getD (β : Nat) (sp : UInt32 → Nat) (x : Int32) (w : Option Value) : gsv β sp x w = grv β sp (w.getD (.int x)) := by cases w <;> rfl
/-- a field that holds a reference is put in the constructor of its class alone -/
def gpfk (mi : Nat) (q : Nat × gE) : Bool := match q.2.1 with
  | .putfield _ => !(grT q.2.2.2.1 q.2.2.2.2.1) || (decide (q.2.2.2.2.2 = 0) && decide (gow mi = q.2.2.2.1) && decide ((gy mi).name = "<init>"))
  | _ => true
set_option maxRecDepth 100000 in
theorem gpf_ok : (List.range 206).all (fun mi => (gTs.getD mi []).all (gpfk mi)) = true := by decide +kernel
theorem gop_lt {mi pc : Nat} {e : gE} (h : gop mi pc = some e) : mi < 206 := by
  by_cases hm : mi < 206
  · exact hm
  · unfold gop at h
    rw [List.getD_eq_getElem?_getD, List.getElem?_eq_none (show gTs.length ≤ mi from Nat.not_lt.mp hm)] at h
    cases h
theorem gpfok {mi pc : Nat} {e : gE} (h : gop mi pc = some e) : gpfk mi (pc, e) = true :=
  List.all_eq_true.mp (List.all_eq_true.mp gpf_ok mi (List.mem_range.mpr (gop_lt h))) _ (glk_mem h)
theorem gdfv : ∀ ci, ci < 8 → ∀ j, j < gN ci → defaultValue (gty ci j) = (if grT ci j = true then Value.null else .int 0) := by decide +kernel
