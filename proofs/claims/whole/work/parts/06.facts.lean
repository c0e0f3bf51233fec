/-! what the tables say, as words of the Statement -/
def gtb : List Cond := lw_tbl.filter goodWord
theorem gtb_in {w : Cond} (h : w ∈ lw_tbl ∧ goodWord w = true) : w ∈ gtb := List.mem_filter.mpr h
theorem gtb_good {w : Cond} (h : w ∈ gtb) : (w.onTables && w.keeps) = true ∨ ∃ ty, w = .arrayClass ty := good_of_word (List.mem_filter.mp h).2
def gTT (ci : Nat) : u_T := (vwCl.getD ci ("", TX0, 0)).2.1
theorem gvw : ∀ ci, ci < 8 → vwCl[ci]? = some (gCn ci, gTT ci, gN ci)
  | 0, _ => rfl
  | 1, _ => rfl
  | 2, _ => rfl
  | 3, _ => rfl
  | 4, _ => rfl
  | 5, _ => rfl
  | 6, _ => rfl
  | 7, _ => rfl
  | _ + 8, h => absurd h (by omega)
set_option maxRecDepth 100000 in
theorem gus_good : ∀ ci, ci < 8 → ∀ w ∈ u_ws (gCn ci) (gTT ci) (gN ci), goodWord w = true := by decide +kernel
theorem gus : ∀ ci, ci < 8 → ∀ w ∈ u_ws (gCn ci) (gTT ci) (gN ci), w ∈ gtb := fun ci h w hw => gtb_in ⟨(match ci, h, hw with
  | 0, _, hw => inX0 w hw
  | 1, _, hw => inX1 w hw
  | 2, _, hw => inX2 w hw
  | 3, _, hw => inX3 w hw
  | 4, _, hw => inX4 w hw
  | 5, _, hw => inX5 w hw
  | 6, _, hw => inX6 w hw
  | 7, _, hw => inX7 w hw
  | _ + 8, h, _ => absurd h (by omega)), gus_good ci h w hw⟩
theorem gtyok : ∀ ci, ci < 8 → ∀ k, k < gN ci → parseFieldDescriptor (gTT ci k).2.2.1 = some (gty ci k)
  | 0, _ => tyX0_ok
  | 1, _ => tyX1_ok
  | 2, _ => tyX2_ok
  | 3, _ => tyX3_ok
  | 4, _ => tyX4_ok
  | 5, _ => tyX5_ok
  | 6, _ => tyX6_ok
  | 7, _ => tyX7_ok
  | _ + 8, h => absurd h (by omega)
theorem gnm : ∀ ci, ci < 8 → ∀ a, a < gN ci → ∀ b, b < gN ci → a ≠ b → (gTT ci a).2.1 ≠ (gTT ci b).2.1
  | 0, _ => nmX0
  | 1, _ => nmX1
  | 2, _ => nmX2
  | 3, _ => nmX3
  | 4, _ => nmX4
  | 5, _ => nmX5
  | 6, _ => nmX6
  | 7, _ => nmX7
  | _ + 8, h => absurd h (by omega)
theorem gfin_ref : ∀ ci, ci < 8 → ∀ k, k < gN ci → (gTT ci k).2.2.2 = grT ci k := by decide +kernel
theorem gdecl : ∀ ci, ci < 8 → ∀ k, k < gN ci → (gTT ci k).1 = gCn ci := by decide +kernel
set_option maxRecDepth 100000 in
theorem gCi_ok : ∀ q ∈ gCi, Cond.constant (gCn q.1) q.2.1 (Int32.ofInt q.2.2) ∈ lw_tbl ∧ goodWord (Cond.constant (gCn q.1) q.2.1 (Int32.ofInt q.2.2)) = true := by decide +kernel
set_option maxRecDepth 100000 in
theorem gCl_ok : ∀ q ∈ gCl, Cond.constantLong (gCn q.1) q.2.1 (Int64.ofInt q.2.2) ∈ lw_tbl ∧ goodWord (Cond.constantLong (gCn q.1) q.2.1 (Int64.ofInt q.2.2)) = true := by decide +kernel
def gfw (q : Nat × Nat × Nat × Nat × Int) : Cond := .fieldLink (gCn q.1) q.2.1 (gCn q.2.2.1) (gTT q.2.2.1 q.2.2.2.1).2.1 (gTT q.2.2.1 q.2.2.2.1).2.2.1
def gfwN (q : Nat × Nat × Nat × Nat × Int) : Cond := .fieldLinkNest (gCn q.1) q.2.1 (gCn q.2.2.1) (gTT q.2.2.1 q.2.2.2.1).2.1 (gTT q.2.2.1 q.2.2.2.1).2.2.1 RX6
set_option maxRecDepth 100000 in
theorem gFd_ok : ∀ q ∈ gFd, (q.2.2.1 < 8 ∧ q.2.2.2.1 < gN q.2.2.1) ∧ (q.2.2.2.2 = 0 → gfw q ∈ lw_tbl ∧ goodWord (gfw q) = true) ∧ (¬ q.2.2.2.2 = 0 → q.2.2.2.2 = 1 ∧ gfwN q ∈ lw_tbl) := by decide +kernel
set_option maxRecDepth 100000 in
theorem gNw_ok : ∀ q ∈ gNw, q.2.2 < 8 ∧ (Cond.classLink (gCn q.1) q.2.1 (gCn q.2.2) ∈ lw_tbl ∧ goodWord (Cond.classLink (gCn q.1) q.2.1 (gCn q.2.2)) = true) ∧ (Cond.instantiable (gCn q.2.2) (gN q.2.2) ∈ lw_tbl ∧ goodWord (Cond.instantiable (gCn q.2.2) (gN q.2.2)) = true) ∧ (Cond.initialized (gCn q.2.2) ∈ lw_tbl ∧ goodWord (Cond.initialized (gCn q.2.2)) = true) := by decide +kernel
def gsn (k : Nat) : String := if k = 1 then "WIDER" else if k = 2 then "SIZE_BODIES" else "MARK_BODIES"
set_option maxRecDepth 100000 in
theorem gSt_ok : ∀ q ∈ gSt, (q.2.2 = 1 ∨ q.2.2 = 2 ∨ q.2.2 = 3) ∧ (Cond.fieldLink (gCn q.1) q.2.1 RX1 (gsn q.2.2) "[I" ∈ lw_tbl ∧ goodWord (Cond.fieldLink (gCn q.1) q.2.1 RX1 (gsn q.2.2) "[I") = true) := by decide +kernel
set_option maxRecDepth 100000 in
theorem gac_ok : (Cond.arrayClass .int ∈ lw_tbl ∧ goodWord (Cond.arrayClass .int) = true) ∧ (Cond.arrayClass .boolean ∈ lw_tbl ∧ goodWord (Cond.arrayClass .boolean) = true) ∧ (Cond.classLink RX4 9 "[[I" ∈ lw_tbl ∧ goodWord (Cond.classLink RX4 9 "[[I") = true) := by decide +kernel
set_option maxRecDepth 100000 in
theorem gao_ok : Cond.arrayOver (.array .int) ∈ lw_tbl := by decide +kernel
/-- the words of a method -/
def gcw (a : Nat) : Cond := Cond.code (gy a) (gby a) (gml a) (grt a)
def gmw (q : Nat × Nat × Nat × Nat × Int) : Cond := .methodLink (gCn q.1) q.2.1 (gy q.2.2.1)
def gmwN (q : Nat × Nat × Nat × Nat × Int) : Cond := .methodLinkNest (gCn q.1) q.2.1 (gy q.2.2.1) RX6
set_option maxRecDepth 100000 in
theorem gjd_ok : (Cond.instanceMethod objectInit ∈ lw_tbl ∧ goodWord (Cond.instanceMethod objectInit) = true) ∧ (Cond.code objectInit ⟨#[0xb1]⟩ 1 none ∈ lw_tbl ∧ goodWord (Cond.code objectInit ⟨#[0xb1]⟩ 1 none) = true) ∧ (Cond.native arraycopyName ∈ lw_tbl ∧ goodWord (Cond.native arraycopyName) = true) ∧ (Cond.static arraycopyName ∈ lw_tbl ∧ goodWord (Cond.static arraycopyName) = true) ∧ (Cond.initialized "java/lang/System" ∈ lw_tbl ∧ goodWord (Cond.initialized "java/lang/System") = true) := by decide +kernel
theorem glk_mem : ∀ {l : List (Nat × gE)} {n : Nat} {e : gE}, glk l n = some e → (n, e) ∈ l
  | [], _, _, h => by simp [glk] at h
  | (k, e0) :: t, n, e, h => by
    rw [glk] at h
    by_cases hk : k = n
    · subst hk
      simp at h
      subst h
      exact List.mem_cons_self
    · have : (k == n) = false := by simpa using hk
      rw [this] at h
      exact List.mem_cons_of_mem _ (glk_mem h)
