/-! SPEC3: pairs told, bounds of twins -/
section SPEC3
def tlF (sp sq sec : Nat → Nat) (a b w : Nat) : Nat := if w = 0 then sp a else if w = 1 then sp b else if w = 2 then sq a else dst (sec a) (sec b)
theorem twG_lt (sp sq ans : Nat → Nat) (rt : Nat → Bool) (a : Nat) : ∀ (n i : Nat) (tw : Nat → Option Nat) (N : Nat), i + n ≤ N → (∀ x z, x < 20 → tw x = some z → z < N) → ∀ x z, x < 20 → twG sp sq ans rt a n i tw x = some z → z < N
  | 0, _, _, _, _, h => h
  | n + 1, i, tw, N, hN, h => by
    intro x z hx hz
    unfold twG at hz
    refine twG_lt sp sq ans rt a n (i + 1) _ N (by omega) ?_ x z hx hz
    intro x' z' hx' hz'
    split at hz'
    · by_cases q : x' = sp i
      · subst q; rw [va_up_self] at hz'; cases hz'; omega
      · rw [va_up_ne _ _ q] at hz'; exact h x' z' hx' hz'
    · exact h x' z' hx' hz'
theorem dst_le {x y : Nat} (hx : x ≤ 1000000) (hy : y ≤ 1000000) : dst x y ≤ 1000000 := by unfold dst; split <;> omega
theorem tk_eta (u : TkS) : (u.1, u.2.1, u.2.2.1, u.2.2.2.1, u.2.2.2.2.1, u.2.2.2.2.2) = u := rfl
end SPEC3
