/-! plain rows for walks of the small machine -/
theorem gr_at {M : gM} {a : Nat} {f : Nat → Int32} : gr M a f a = f := by simp [gr]
theorem gr_ne {M : gM} {a b : Nat} {f : Nat → Int32} (h : b ≠ a) : gr M a f b = M b := by simp [gr, h]
theorem vinT {n N : Nat} (h : n < N) (hN : N < 2147483648) : vp_in (nI n) N = True := eq_true (vp_in_nI h hN)
theorem nIcl {n : Nat} (h : n < 2147483648) : (nI n).toNatClampNeg = n := nI_clamp h
theorem nIle {a b : Nat} (ha : a < 2147483648) (hb : b < 2147483648) : (nI a ≤ nI b) = (a ≤ b) := propext (nI_leI ha hb)
theorem nIlt {a b : Nat} (ha : a < 2147483648) (hb : b < 2147483648) : (nI a < nI b) = (a < b) := propext (nI_ltI ha hb)
theorem nIeq {a b : Nat} (ha : a < 2147483648) (hb : b < 2147483648) : (nI a = nI b) = (a = b) := propext (nI_eq ha hb)
theorem nIor (a b : Nat) : nI a ||| nI b = nI (a ||| b) := by
  apply Int32.toBitVec_inj.1
  show BitVec.ofNat 32 a ||| BitVec.ofNat 32 b = BitVec.ofNat 32 (a ||| b)
  apply BitVec.eq_of_getLsbD_eq
  intro i hi
  simp [hi]
theorem nIand (a b : Nat) : nI a &&& nI b = nI (a &&& b) := by
  apply Int32.toBitVec_inj.1
  show BitVec.ofNat 32 a &&& BitVec.ofNat 32 b = BitVec.ofNat 32 (a &&& b)
  apply BitVec.eq_of_getLsbD_eq
  intro i hi
  simp [hi]
theorem nIz : (0 : Int32) = nI 0 := rfl
theorem nIsub {a b : Nat} (h : b ≤ a) : nI a - nI b = nI (a - b) := pk_sub h
/-- a difference against a bound -/
theorem nIdle {a b c : Nat} (ha : a < 1073741824) (hb : b < 1073741824) (hc : c < 1073741824) : (nI c ≤ nI a - nI b) = (c + b ≤ a) := by
  apply propext
  rw [Int32.le_iff_toInt_le, pk_sub_toInt ha hb, nI_toInt (by omega)]
  omega
theorem nIdlt {a b c : Nat} (ha : a < 1073741824) (hb : b < 1073741824) (hc : c < 1073741824) : (nI c < nI a - nI b) = (c + b < a) := by
  apply propext
  rw [Int32.lt_iff_toInt_lt, pk_sub_toInt ha hb, nI_toInt (by omega)]
  omega
theorem nIdle' {a b c : Nat} (ha : a < 1073741824) (hb : b < 1073741824) (hc : c < 1073741824) : (nI a - nI b ≤ nI c) = (a ≤ c + b) := by
  apply propext
  rw [Int32.le_iff_toInt_le, pk_sub_toInt ha hb, nI_toInt (by omega)]
  omega
theorem nIsh : ∀ s, s < 12 → nI 1 <<< (nI s &&& 31) = nI (2 ^ s) := by decide +kernel
/-- the first place, from t on, of n, where g is p -/
def aFind (g : Nat → Nat) (p : Nat) : Nat → Nat → Int32
  | 0, _ => -1000000
  | n + 1, t => if g t = p then nI t else aFind g p n (t + 1)
def aAny (g : Nat → Bool) : Nat → Bool
  | 0 => false
  | n + 1 => aAny g n || g n
def aBits (g : Nat → Bool) : Nat → Nat
  | 0 => 0
  | n + 1 => aBits g n + (if g n then 2 ^ n else 0)
def aPop (n : Nat) : Nat := n % 2 + n / 2 % 2 + n / 4 % 2 + n / 8 % 2 + n / 16 % 2 + n / 32 % 2
theorem aBits_lt (g : Nat → Bool) : ∀ n, aBits g n < 2 ^ n
  | 0 => by simp [aBits]
  | n + 1 => by
    have := aBits_lt g n
    unfold aBits
    rw [Nat.pow_succ]
    split <;> omega
theorem aBits_or (g : Nat → Bool) (n : Nat) (b : Bool) : aBits g n ||| (if b then 2 ^ n else 0) = aBits g n + (if b then 2 ^ n else 0) := by
  cases b
  · simp
  · have h := Nat.two_pow_add_eq_or_of_lt (aBits_lt g n) 1
    simp only [Nat.mul_one] at h
    simp only [if_true]
    rw [Nat.or_comm, ← h, Nat.add_comm]
/-- the hill: how the sun falls, what is in the shade, light -/
def aFall (f : Nat → Nat) (s : Nat) : Nat := if f 0 + 1 ≤ 3 + f 1 * s then 3 + f 1 * s - f 0 else 1
def aSh (f : Nat → Nat) (p s t : Nat) : Bool := decide (f (13 + t) < p) && decide ((p - f (13 + t)) * aFall f s < f (20 + t))
def aDark (f : Nat → Nat) (p s : Nat) : Bool := aAny (aSh f p s) (f 2)
def aShade (f : Nat → Nat) (p : Nat) : Nat := aBits (aDark f p) 4
def aLight (f : Nat → Nat) (p : Nat) : Nat := 4 - aPop (aShade f p)
theorem aShade_lt (f : Nat → Nat) (p : Nat) : aShade f p < 16 := aBits_lt _ 4
/-- a hill that can be -/
def aWf (f : Nat → Nat) : Prop := (f 0 ≤ 4 ∧ f 1 ≤ 2 ∧ f 2 ≤ 7 ∧ f 3 ≤ 4) ∧ (∀ t, t < f 2 → 1 ≤ f (6 + t) ∧ f (6 + t) ≤ 5 ∧ f (13 + t) ≤ 11 ∧ f (20 + t) ≤ 60) ∧ (∀ h, h < f 3 → f (34 + h) ≤ 11) ∧ ∀ k, k < 46 → f k < 1000000
theorem aFall_le {f : Nat → Nat} {s : Nat} (h : aWf f) (hs : s < 4) : 1 ≤ aFall f s ∧ aFall f s ≤ 9 := by
  have h1 : f 1 * s ≤ 2 * 3 := Nat.mul_le_mul h.1.2.1 (by omega)
  unfold aFall
  split <;> omega
