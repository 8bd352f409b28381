/-! SPEC2: what the class's large methods compute -/
section SPEC2
def sfs (sec sp : Nat → Nat) (stt : Nat → Option Nat) (b : Nat) : Nat := sec b - (stt (sp b)).getD 0
abbrev TkS : Type := (Nat → Nat) × (Nat → Bool) × (Nat → Option Nat) × (Nat → Nat) × (Nat → Nat) × (Nat → Nat)
/-- one submission b of the person x is taken -/
def tkF (gr nw sp sq sec : Nat → Nat) (rt : Nat → Bool) (stt : Nat → Option Nat) (x b : Nat) (u : TkS) : TkS :=
  if u.2.1 (sq b) = true then u
  else if rt b = false then (va_up u.1 (sq b) (u.1 (sq b) + 1), u.2)
  else if nw 3 < sfs sec sp stt b then (u.1, va_up u.2.1 (sq b) true, u.2.2)
  else (u.1, va_up u.2.1 (sq b) true, va_up u.2.2.1 (sq b) (some (wth nw (gr (sq b)) (sfs sec sp stt b) (u.1 (sq b)))), va_up u.2.2.2.1 x (u.2.2.2.1 x + wth nw (gr (sq b)) (sfs sec sp stt b) (u.1 (sq b))), va_up u.2.2.2.2.1 x (u.2.2.2.2.1 x + sfs sec sp stt b), va_up u.2.2.2.2.2 x (u.2.2.2.2.2 x + 1))
def woG (gr nw sp sq sec it : Nat → Nat) (rt : Nat → Bool) (stt : Nat → Option Nat) (x : Nat) : Nat → Nat → TkS → TkS
  | 0, _, u => u
  | n + 1, i, u => woG gr nw sp sq sec it rt stt x n (i + 1) (if sp (it i) = x then tkF gr nw sp sq sec rt stt x (it i) u else u)
def woF (gr nw sp sq sec it : Nat → Nat) (rt : Nat → Bool) (stt : Nat → Option Nat) (ns x : Nat) (u : TkS) : TkS :=
  woG gr nw sp sq sec it rt stt x ns 0 (upK 0 20 u.1, upK false 20 u.2.1, upK none 20 u.2.2.1, va_up u.2.2.2.1 x 0, va_up u.2.2.2.2.1 x 0, va_up u.2.2.2.2.2 x 0)
def waF (gr nw sp sq sec it : Nat → Nat) (rt : Nat → Bool) (stt : Nat → Option Nat) (ns : Nat) : Nat → TkS → TkS
  | 0, u => u
  | k + 1, u => woF gr nw sp sq sec it rt stt ns k (waF gr nw sp sq sec it rt stt ns k u)
/-- what each method may rely on, of puzzles, persons, submissions and rules -/
def IS (np ne ns : Nat) (gr nw sp sq sec it ans : Nat → Nat) (stt : Nat → Option Nat) : Prop :=
  np ≤ 20 ∧ ne ≤ 20 ∧ ns ≤ 300 ∧ (∀ i, i < 20 → gr i ≤ 100) ∧ (∀ i, i < 5 → nw i ≤ 9999) ∧ (∀ i, i < ns → sp i < ne) ∧ (∀ i, i < ns → sq i < np) ∧ (∀ i, i < 300 → sec i ≤ 1000000) ∧ (∀ i, i < ns → it i < ns) ∧ (∀ i, i < 300 → ans i < 2 ^ 31) ∧ (∀ i, i < ns → ∃ z, stt (sp i) = some z ∧ z ≤ sec i) ∧ (∀ i z, i < 20 → stt i = some z → z ≤ 1000000) ∧ (∀ i, i < 300 → sp i < 20 ∧ sq i < 20)
theorem tk_wr {gr nw sp sq sec : Nat → Nat} {rt : Nat → Bool} {stt : Nat → Option Nat} {x b : Nat} {u : TkS} {k : Nat} (h : ∀ j, j < 20 → u.1 j ≤ k) : ∀ j, j < 20 → (tkF gr nw sp sq sec rt stt x b u).1 j ≤ k + 1 := by
  intro j hj
  have h1 := h j hj
  unfold tkF
  split
  · omega
  · split
    · simp only [va_up]
      split
      · subst_vars
        omega
      · omega
    · split <;> (dsimp only; omega)
def inG (tw : Nat → Option Nat) (sec : Nat → Nat) (a k : Nat) : Nat → Nat → Nat → Option Nat × Nat
  | 0, _, c => (none, c)
  | n + 1, b, c => match tw b with
    | none => inG tw sec a k n (b + 1) c
    | some o => if 60 < dst (sec a) (sec o) then inG tw sec a k n (b + 1) c else if c = k then (some o, c) else inG tw sec a k n (b + 1) (c + 1)
def suG (sp sq sec ans : Nat → Nat) (rt : Nat → Bool) (ne ns k : Nat) : Nat → Nat → Nat → (Nat → Option Nat) → Option (Nat × Nat) × (Nat → Option Nat)
  | 0, _, _, tw => (none, tw)
  | n + 1, a, c, tw => if rt a = true then suG sp sq sec ans rt ne ns k n (a + 1) c tw else
    match inG (twG sp sq ans rt a ns 0 (upK none 20 tw)) sec a k (ne - (sp a + 1)) (sp a + 1) c with
    | (some o, _) => (some (a, o), twG sp sq ans rt a ns 0 (upK none 20 tw))
    | (none, c') => suG sp sq sec ans rt ne ns k n (a + 1) c' (twG sp sq ans rt a ns 0 (upK none 20 tw))
def letF (u : Nat) : Option Nat := if u = 80 then some 0 else if u = 70 then some 1 else if u = 87 then some 2 else if u = 68 then some 3 else if u = 84 then some 4 else none
def eoF (un : Nat → Nat) (tl f : Nat) : Nat := eodG un tl (f + 1) 5 (f + 1)
def nuF (un : Nat → Nat) (tl f : Nat) : Nat := numG un (eoF un tl f - (f + 1)) (f + 1) 0
/-- a text of rules, read from place 'a' on: how many, or (none) the place of refusal; what was told so far -/
def rdG (un : Nat → Nat) (tl : Nat) : Nat → Nat → Nat → (Nat → Nat) → (Nat ⊕ Nat) × (Nat → Nat)
  | 0, c, _, td => (.inl c, td)
  | n + 1, c, a, td => if tl ≤ a then (.inl c, td) else
    match letF (un a) with
    | none => (.inr a, td)
    | some z =>
      if eoF un tl a = a + 1 then (.inr (a + 1), td)
      else if z = 4 ∧ 1 < nuF un tl a then (.inr (eoF un tl a - 1), td)
      else if tl ≤ eoF un tl a ∨ un (eoF un tl a) ≠ 59 then (.inr (eoF un tl a), td)
      else rdG un tl n (c + 1) (eoF un tl a + 1) (va_up td z (nuF un tl a))
end SPEC2
