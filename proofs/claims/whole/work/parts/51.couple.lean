/-! class and reference side by side: what holds between two calls -/
def hOK (f : Nat → Nat) : Prop := aInv f ∧ f 2 ≤ 6 ∧ f 4 ≤ 999 ∧ aMoves f
def gRw (M : gM) (r : Nat) : Prop := (M 11 r = -1 ∧ M 31 r = -1) ∨ ∃ n l, n ≤ 40 ∧ l ≤ 2 ∧ M 11 r = nI l ∧ M 12 r = nI n ∧ M 30 r = nI l ∧ M 31 r = nI n ∧ ∀ i, i < 40 → M (3 + r) i = M 32 (40 * r + i)
def gTp (M : gM) (n : Nat) (b : Nat → Nat) : Prop := n ≤ 120 ∧ M 13 1 = nI n ∧ M 29 8 = nI n ∧ ∀ k, k < n → b k < 256 ∧ M 14 k = nI (b k) ∧ M 35 k = nI (b k)
def gHi (M : gM) (f : Nat → Nat) : Prop := mS M f ∧ cO (M 16) f ∧ M 16 1 = nI (f 2) ∧ hOK f ∧ M 29 4 = M 0 8 ∧ ((M 0 8 = nI 0 ∧ f 2 = 0 ∧ f 3 = 0) ∨ (M 0 8 = nI 1 ∧ cT (M 16) f))
def kC (M : gM) (a n : Nat) (G : Nat → Nat → Nat) : Prop := a < 24 ∧ M 23 1 = nI a ∧ M 23 2 = nI n ∧ ∀ i, i < n → cH (fun k => M 24 ((a + i) % 24 * 47 + k)) (G i)
def kM (M : gM) (n : Nat) (G : Nat → Nat → Nat) : Prop := M 29 19 = nI n ∧ ∀ i, i < n → ∀ k, k < 46 → M 38 (46 * i + k) = nI (G i k)
def gAc (M : gM) (a n : Nat) (G : Nat → Nat → Nat) : Prop := n ≤ 24 ∧ kC M a n G ∧ kM M n G ∧ (∀ i, i < n → hOK (G i)) ∧ (0 < n → M 0 8 = nI 1)
def gIm (M : gM) (k : Nat) : Prop := M 40 k = M 26 k ∧ (M 26 k = nI 0 ∨ (M 26 k = nI 1 ∧ M 0 8 = nI 1 ∧ ∃ g, hOK g ∧ (∀ i, i < 46 → M 41 (46 * k + i) = nI (g i)) ∧ cH (fun i => M 25 (k * 47 + i)) g))
def gAk (M : gM) (u : Nat) : Prop := u ≤ 16 ∧ M 27 1 = nI u ∧ M 29 24 = nI u ∧ ∀ i, i < u → M 28 i = M 42 i
def gJ (M : gM) : Prop := (∀ r, r < 8 → gRw M r) ∧ (∃ n b, gTp M n b) ∧ (∃ f, gHi M f) ∧ (∃ a n G, gAc M a n G) ∧ (∀ k, k < 2 → gIm M k) ∧ (∃ u, gAk M u) ∧ M 0 9 = M 29 9
def gI (M : gM) : Prop := gJ M ∧ M 0 10 = M 29 3
theorem gRw_c {M M' : gM} {r : Nat} (h : gRw M r) (hr : r < 8) (e : ∀ a, (3 ≤ a ∧ a ≤ 12) ∨ (30 ≤ a ∧ a ≤ 32) → M' a = M a) : gRw M' r := by
  unfold gRw at h ⊢
  rw [e 11 (by omega), e 12 (by omega), e 30 (by omega), e 31 (by omega), e 32 (by omega), e (3 + r) (by omega)]
  exact h
theorem gTp_c {M M' : gM} {n : Nat} {b : Nat → Nat} (h : gTp M n b) (e13 : M' 13 1 = M 13 1) (e14 : M' 14 = M 14) (e35 : M' 35 = M 35) (e29 : M' 29 8 = M 29 8) : gTp M' n b := by
  unfold gTp at h ⊢
  rw [e13, e14, e35, e29]
  exact h
theorem gHi_c {M M' : gM} {f : Nat → Nat} (h : gHi M f) (e16 : M' 16 = M 16) (e33 : M' 33 = M 33) (e0 : M' 0 8 = M 0 8) (e29 : M' 29 4 = M 29 4) : gHi M' f := by
  unfold gHi mS at h ⊢
  rw [e16, e33, e0, e29]
  exact h
theorem gAc_c {M M' : gM} {a n : Nat} {G : Nat → Nat → Nat} (h : gAc M a n G) (e23 : M' 23 = M 23) (e24 : M' 24 = M 24) (e38 : M' 38 = M 38) (e0 : M' 0 8 = M 0 8) (e29 : M' 29 19 = M 29 19) : gAc M' a n G := by
  unfold gAc kC kM at h ⊢
  rw [e23, e24, e38, e0, e29]
  exact h
theorem gIm_c {M M' : gM} {k : Nat} (h : gIm M k) (e25 : M' 25 = M 25) (e26 : M' 26 = M 26) (e40 : M' 40 = M 40) (e41 : M' 41 = M 41) (e0 : M' 0 8 = M 0 8 ∨ M' 0 8 = nI 1) : gIm M' k := by
  unfold gIm at h ⊢
  rw [e25, e26, e40, e41]
  refine ⟨h.1, h.2.imp_right (fun q => ⟨q.1, ?_, q.2.2⟩)⟩
  rcases e0 with e | e
  · rw [e]; exact q.2.1
  · exact e
theorem gAk_c {M M' : gM} {u : Nat} (h : gAk M u) (e27 : M' 27 1 = M 27 1) (e28 : M' 28 = M 28) (e42 : M' 42 = M 42) (e29 : M' 29 24 = M 29 24) : gAk M' u := by
  unfold gAk at h ⊢
  rw [e27, e28, e42, e29]
  exact h
/-- what the calls that only ask leave as it is -/
def gFr (M M' : gM) : Prop := (∀ a, (3 ≤ a ∧ a ≤ 16) ∨ (23 ≤ a ∧ a ≤ 28) ∨ (30 ≤ a ∧ a ≤ 33) ∨ a = 35 ∨ a = 38 ∨ (40 ≤ a ∧ a ≤ 42) → M' a = M a) ∧ (M' 0 8 = M 0 8 ∧ M' 0 9 = M 0 9) ∧ (M' 29 4 = M 29 4 ∧ M' 29 8 = M 29 8 ∧ M' 29 9 = M 29 9 ∧ M' 29 19 = M 29 19 ∧ M' 29 24 = M 29 24)
theorem gFr_r (M : gM) : gFr M M := ⟨fun _ _ => rfl, ⟨rfl, rfl⟩, rfl, rfl, rfl, rfl, rfl⟩
theorem gFr_t {M M1 M2 : gM} (h1 : gFr M M1) (h2 : gFr M1 M2) : gFr M M2 := by
  obtain ⟨a1, ⟨a2, a3⟩, a4, a5, a6, a7, a8⟩ := h1
  obtain ⟨b1, ⟨b2, b3⟩, b4, b5, b6, b7, b8⟩ := h2
  exact ⟨fun a ha => (b1 a ha).trans (a1 a ha), ⟨b2.trans a2, b3.trans a3⟩, b4.trans a4, b5.trans a5, b6.trans a6, b7.trans a7, b8.trans a8⟩
/-- a write of a row that nothing hangs on -/
theorem gFr_w {M : gM} {a : Nat} {g : Nat → Int32} (ha : a ≠ 0 ∧ a ≠ 29 ∧ ¬ ((3 ≤ a ∧ a ≤ 16) ∨ (23 ≤ a ∧ a ≤ 28) ∨ (30 ≤ a ∧ a ≤ 33) ∨ a = 35 ∨ a = 38 ∨ (40 ≤ a ∧ a ≤ 42))) : gFr M (gr M a g) := by
  have e : ∀ b, b ≠ a → gr M a g b = M b := fun b hb => gr_ne hb
  have e0 := e 0 (by omega)
  have e29 := e 29 (by omega)
  exact ⟨fun b hb => e b (by omega), ⟨by rw [e0], by rw [e0]⟩, by rw [e29], by rw [e29], by rw [e29], by rw [e29], by rw [e29]⟩
/-- other rows alone -/
theorem gFr_o {M M' : gM} (h : ∀ a, a ≠ 1 → a ≠ 2 → a ≠ 17 → a ≠ 18 → a ≠ 19 → a ≠ 20 → a ≠ 21 → a ≠ 22 → a ≠ 34 → a ≠ 36 → a ≠ 37 → a ≠ 39 → a < 43 → M' a = M a) : gFr M M' := by
  have e0 : M' 0 = M 0 := h 0 (by omega) (by omega) (by omega) (by omega) (by omega) (by omega) (by omega) (by omega) (by omega) (by omega) (by omega) (by omega) (by omega)
  have e29 : M' 29 = M 29 := h 29 (by omega) (by omega) (by omega) (by omega) (by omega) (by omega) (by omega) (by omega) (by omega) (by omega) (by omega) (by omega) (by omega)
  exact ⟨fun b hb => h b (by omega) (by omega) (by omega) (by omega) (by omega) (by omega) (by omega) (by omega) (by omega) (by omega) (by omega) (by omega) (by omega), ⟨by rw [e0], by rw [e0]⟩, by rw [e29], by rw [e29], by rw [e29], by rw [e29], by rw [e29]⟩
/-- the class's latest finding -/
theorem gFr_0 {M : gM} {k : Nat} {x : Int32} (hk : k ≠ 8 ∧ k ≠ 9) : gFr M (gr M 0 (upd (M 0) k x)) := by
  have e : ∀ b, b ≠ 0 → gr M 0 (upd (M 0) k x) b = M b := fun b hb => gr_ne hb
  have e29 := e 29 (by omega)
  exact ⟨fun b hb => e b (by omega), ⟨by rw [gr_at, upd_ne (by omega)], by rw [gr_at, upd_ne (by omega)]⟩, by rw [e29], by rw [e29], by rw [e29], by rw [e29], by rw [e29]⟩
/-- the reference's other fields -/
theorem gFr_29 {M : gM} {k : Nat} {x : Int32} (hk : k ≠ 4 ∧ k ≠ 8 ∧ k ≠ 9 ∧ k ≠ 19 ∧ k ≠ 24) : gFr M (gr M 29 (upd (M 29) k x)) := by
  have e : ∀ b, b ≠ 29 → gr M 29 (upd (M 29) k x) b = M b := fun b hb => gr_ne hb
  have e0 := e 0 (by omega)
  exact ⟨fun b hb => e b (by omega), ⟨by rw [e0], by rw [e0]⟩, by rw [gr_at, upd_ne (by omega)], by rw [gr_at, upd_ne (by omega)], by rw [gr_at, upd_ne (by omega)], by rw [gr_at, upd_ne (by omega)], by rw [gr_at, upd_ne (by omega)]⟩
theorem gJ_c {M M' : gM} (h : gJ M) (hF : gFr M M') : gJ M' := by
  obtain ⟨a1, ⟨a2, a3⟩, a4, a5, a6, a7, a8⟩ := hF
  obtain ⟨b1, ⟨n, b, b2⟩, ⟨f, b3⟩, ⟨a, m, G, b4⟩, b5, ⟨u, b6⟩, b7⟩ := h
  refine ⟨fun r hr => gRw_c (b1 r hr) hr (fun c hc => a1 c (by omega)), ⟨n, b, gTp_c b2 (by rw [a1 13 (by omega)]) (a1 14 (by omega)) (a1 35 (by omega)) a5⟩, ⟨f, gHi_c b3 (a1 16 (by omega)) (a1 33 (by omega)) a2 a4⟩, ⟨a, m, G, gAc_c b4 (a1 23 (by omega)) (a1 24 (by omega)) (a1 38 (by omega)) a2 a7⟩, fun k hk => gIm_c (b5 k hk) (a1 25 (by omega)) (a1 26 (by omega)) (a1 40 (by omega)) (a1 41 (by omega)) (Or.inl a2), ⟨u, gAk_c b6 (by rw [a1 27 (by omega)]) (a1 28 (by omega)) (a1 42 (by omega)) a8⟩, by rw [a3, a6]; exact b7⟩
/-- both find alike -/
theorem gI_f {M : gM} {x : Int32} (h : gJ M) : gI (gr (gr M 0 (upd (M 0) 10 x)) 29 (upd (gr M 0 (upd (M 0) 10 x) 29) 3 x)) :=
  ⟨gJ_c h (gFr_t (gFr_0 (by omega)) (gFr_29 (by omega))), by rw [gr_ne (by omega), gr_at, gr_at, upd_at, upd_at]⟩
/-- the class has found, the reference goes on from there and comes to M2, then finds alike -/
theorem gI_g {M2 : gM} {x : Int32} (h : gJ M2) (h0 : M2 0 10 = x) : gI (gr M2 29 (upd (M2 29) 3 x)) :=
  ⟨gJ_c h (gFr_29 (by omega)), by rw [gr_ne (by omega), gr_at, upd_at, h0]⟩
def gFo (rs : gS) (x : Int32) : gQ := fun v sh M => v = [.int x] ∧ sh = gSH ++ rs ∧ gI M
def gEo (d m : Nat) (as : List Value) (rs : gS) : gQ := fun v sh M => ∃ x, v = [.int x] ∧ sh = gSH ++ rs ∧ gcl (d + 20) m (.ref 29 :: as) sh M (gFo rs x)
theorem gEo_i {d m : Nat} {as : List Value} {rs : gS} {x : Int32} {M : gM} (h : gcl (d + 20) m (.ref 29 :: as) (gSH ++ rs) M (gFo rs x)) : gEo d m as rs [.int x] (gSH ++ rs) M := ⟨x, rfl, rfl, h⟩
theorem gFo_i {rs : gS} {x : Int32} {M : gM} (h : gI M) : gFo rs x [.int x] (gSH ++ rs) M := ⟨rfl, rfl, h⟩
