/-! SPEC1: what the class's small methods compute, as functions of the cells' numbers -/
section SPEC1
def inB (x : Int32) (n : Nat) : Bool := decide (0 ≤ x.toInt ∧ x.toInt < n)
theorem inB_t {x : Int32} {n : Nat} (h : 0 ≤ x.toInt ∧ x.toInt < n) : inB x n = true := decide_eq_true h
theorem inB_f {x : Int32} {n : Nat} (h : ¬ (0 ≤ x.toInt ∧ x.toInt < n)) : inB x n = false := decide_eq_false h
/-- how many of 0 .. n - 1 -/
def cntF (P : Nat → Bool) : Nat → Nat
  | 0 => 0
  | k + 1 => cntF P k + (if P k = true then 1 else 0)
theorem cntF_le (P : Nat → Bool) : ∀ n, cntF P n ≤ n
  | 0 => Nat.le_refl 0
  | k + 1 => by
    have := cntF_le P k
    unfold cntF
    split <;> omega
/-- the first of i .. i + n - 1 -/
def fstG (P : Nat → Bool) : Nat → Nat → Option Nat
  | 0, _ => none
  | n + 1, i => if P i = true then some i else fstG P n (i + 1)
def anyG (P : Nat → Bool) : Nat → Nat → Bool
  | 0, _ => false
  | n + 1, i => if P i = true then true else anyG P n (i + 1)
/-- zeros, or nones, in the first k places -/
def upK {α : Type} (z : α) : Nat → (Nat → α) → Nat → α
  | 0, f => f
  | k + 1, f => va_up (upK z k f) k z
def alk (sco tim : Nat → Nat) (t : Bool) (a b : Nat) : Bool := decide (sco a = sco b ∧ (t = true → tim a = tim b))
def ahd (sco tim : Nat → Nat) (t : Bool) (a b : Nat) : Bool := decide (sco b < sco a ∨ (sco a = sco b ∧ t = true ∧ tim a < tim b))
def hmb (sco tim : Nat → Nat) (ne : Nat) (t : Bool) (x : Nat) : Nat := cntF (fun k => ahd sco tim t k x) ne + cntF (fun k => alk sco tim t k x) x
/-- the insertion of v from place k down -/
def insG (lt : Nat → Nat → Bool) (v : Nat) : Nat → (Nat → Nat) → Nat → Nat
  | 0, fa => va_up fa 0 v
  | k + 1, fa => if lt (fa k) v = true then insG lt v k (va_up fa (k + 1) (fa k)) else va_up fa (k + 1) v
def ltD (gr : Nat → Nat) (a b : Nat) : Bool := decide (gr a < gr b)
def ltT (sec : Nat → Nat) (a b : Nat) : Bool := decide (sec b < sec a)
def rchG (g : Nat) : Nat → (Nat → Bool) → Nat → Bool
  | 0, re => re
  | k + 1, re => if k + 1 < g then re else rchG g k (if re (k + 1 - g) = true then va_up re (k + 1) true else re)
def lowG (re : Nat → Bool) : Nat → Nat
  | 0 => 0
  | k + 1 => if re (k + 1) = true then k + 1 else lowG re k
def lsG (ss sc : Nat → Nat) : Nat → Nat → Nat → Nat
  | 0, _, b => b
  | n + 1, i, b => lsG ss sc n (i + 1) (if ss i < ss b ∨ (ss i = ss b ∧ sc i < sc b) then i else b)
def lsF (ss sc : Nat → Nat) (k : Nat) : Nat := lsG ss sc (k - 1) 1 0
theorem lsG_lt (ss sc : Nat → Nat) : ∀ n i b, b < i + n → 0 < i → lsG ss sc n i b < i + n
  | 0, _, _, h, _ => h
  | n + 1, i, b, h, h0 => by
    unfold lsG
    have := lsG_lt ss sc n (i + 1) (if ss i < ss b ∨ (ss i = ss b ∧ sc i < sc b) then i else b) (by split <;> omega) (by omega)
    omega
theorem lsF_lt {ss sc : Nat → Nat} {k : Nat} (h : 1 ≤ k) : lsF ss sc k < k := by
  have := lsG_lt ss sc (k - 1) 1 0 (by omega) (by omega)
  unfold lsF
  omega
def setG (gr fa : Nat → Nat) (sets q : Nat) : Nat → Nat → (Nat → Nat) → (Nat → Nat) → Option Nat × (Nat → Nat) × (Nat → Nat)
  | 0, _, ss, sc => (none, ss, sc)
  | n + 1, i, ss, sc => if fa i = q then (some (lsF ss sc sets), ss, sc) else setG gr fa sets q n (i + 1) (va_up ss (lsF ss sc sets) (ss (lsF ss sc sets) + gr (fa i))) (va_up sc (lsF ss sc sets) (sc (lsF ss sc sets) + 1))
def setF (gr fa ss sc : Nat → Nat) (np sets q : Nat) : Option Nat × (Nat → Nat) × (Nat → Nat) := setG gr fa sets q np 0 (upK 0 6 ss) (upK 0 6 sc)
def twn (sq ans : Nat → Nat) (rt : Nat → Bool) (a b : Nat) : Bool := decide (rt b = false ∧ sq b = sq a ∧ ans b = ans a)
def twG (sp sq ans : Nat → Nat) (rt : Nat → Bool) (a : Nat) : Nat → Nat → (Nat → Option Nat) → Nat → Option Nat
  | 0, _, tw => tw
  | n + 1, i, tw => twG sp sq ans rt a n (i + 1) (if tw (sp i) = none ∧ twn sq ans rt a i = true then va_up tw (sp i) (some i) else tw)
def dst (x y : Nat) : Nat := if y ≤ x then x - y else y - x
def wth (nw : Nat → Nat) (g s w : Nat) : Nat := g * nw 0 - g * nw 1 * (s / 60) - nw 2 * w
def cpyN (n : Nat) (f g : Nat → Nat) : Nat → Nat := fun k => if k < n then f k else g k
def eodG (un : Nat → Nat) (tl fr : Nat) : Nat → Nat → Nat
  | 0, e => e
  | n + 1, e => if e < tl ∧ e < fr + 4 ∧ 48 ≤ un e ∧ un e ≤ 57 then eodG un tl fr n (e + 1) else e
def numG (un : Nat → Nat) : Nat → Nat → Nat → Nat
  | 0, _, v => v
  | n + 1, i, v => numG un n (i + 1) (v * 10 + (un i - 48))
end SPEC1
section SPEC1B
theorem hmb_lt (sco tim : Nat → Nat) (ne : Nat) (t : Bool) (x : Nat) : hmb sco tim ne t x ≤ ne + x := by
  have h1 := cntF_le (fun k => ahd sco tim t k x) ne
  have h2 := cntF_le (fun k => alk sco tim t k x) x
  unfold hmb
  omega
theorem upK_lt {α : Type} (z : α) : ∀ (n : Nat) (f : Nat → α) (i : Nat), i < n → upK z n f i = z
  | 0, _, _, h => absurd h (Nat.not_lt_zero _)
  | n + 1, f, i, h => by
    unfold upK va_up
    by_cases q : i = n
    · rw [if_pos q]
    · rw [if_neg q]; exact upK_lt z n f i (by omega)
theorem absN {x y : Nat} (hx : x ≤ 1000000) (hy : y ≤ 1000000) : (if 0 ≤ nI x - nI y then nI x - nI y else 0 - (nI x - nI y)) = nI (dst x y) := by
  have e := pk_sub_toInt (a := x) (b := y) (by omega) (by omega)
  have i0 : (0 : Int32).toInt = 0 := by decide +kernel
  unfold dst
  by_cases h : y ≤ x
  · rw [if_pos h, if_pos (Int32.le_iff_toInt_le.mpr (by rw [e, i0]; omega)), pk_sub h]
  · rw [if_neg h, if_neg (fun q => h (by have := Int32.le_iff_toInt_le.mp q; rw [e, i0] at this; omega))]
    rw [← pk_sub (show x ≤ y by omega)]
    have : (0 : Int32) - (nI x - nI y) = nI y - nI x := by
      rw [Int32.zero_sub, Int32.neg_sub]
    exact this
theorem mul_le3 {a b c A B C : Nat} (h1 : a ≤ A) (h2 : b ≤ B) (h3 : c ≤ C) : a * b * c ≤ A * B * C := Nat.mul_le_mul (Nat.mul_le_mul h1 h2) h3
theorem lN_ofInt (n : Nat) : lN n = Int64.ofInt (n : Int) := by
  unfold lN
  rw [Int64.ofInt_eq_ofNat]
theorem wth_max {nw : Nat → Nat} {g x w : Nat} (hg : g ≤ 100) (hx : x ≤ 1000000) (hw : w ≤ 300) (h0 : nw 0 ≤ 9999) (h1 : nw 1 ≤ 9999) (h2 : nw 2 ≤ 9999) : (if lN (g * nw 0) - lN (g * nw 1 * (x / 60)) - lN (nw 2 * w) < lN 0 then lN 0 else lN (g * nw 0) - lN (g * nw 1 * (x / 60)) - lN (nw 2 * w)) = lN (wth nw g x w) := by
  have b1 : g * nw 0 ≤ 100 * 9999 := Nat.mul_le_mul hg h0
  have b2 : g * nw 1 * (x / 60) ≤ 100 * 9999 * 16667 := mul_le3 hg h1 (by omega)
  have b3 : nw 2 * w ≤ 9999 * 300 := Nat.mul_le_mul h2 hw
  unfold wth
  generalize g * nw 0 = a at *
  generalize g * nw 1 * (x / 60) = b at *
  generalize nw 2 * w = c at *
  have e : (lN a - lN b - lN c) = Int64.ofInt ((a : Int) - b - c) := by
    rw [lN_ofInt, lN_ofInt, lN_ofInt, Int64.ofInt_sub, Int64.ofInt_sub]
  have et : (lN a - lN b - lN c).toInt = (a : Int) - b - c := by
    rw [e, Int64.toInt_ofInt_of_le (by omega) (by omega)]
  have e0 : (lN 0).toInt = 0 := by decide +kernel
  by_cases h : (a : Int) - b - c < 0
  · rw [if_pos (Int64.lt_iff_toInt_lt.mpr (by rw [et, e0]; exact h))]
    rw [show a - b - c = 0 by omega]
  · rw [if_neg (fun q => h (by have := Int64.lt_iff_toInt_lt.mp q; rw [et, e0] at this; exact this))]
    rw [e, lN_ofInt]
    congr 1
    omega
end SPEC1B
