/-! SPEC5: more of the reference's functions -/
section SPEC5
theorem fwF_lt {sp sq ans : Nat → Nat} {rt : Nat → Bool} {ns a b z : Nat} (h : fwF sp sq ans rt ns a b = some z) : z < ns := by
  unfold fwF at h
  by_cases q : rt a = true
  · rw [if_pos q] at h; cases h
  · rw [if_neg q] at h
    have := fstG_lt _ _ _ _ h
    omega
theorem rrB_le {un : Nat → Nat} {tl f p : Nat} (h : rrB un tl f = some p) : p ≤ f + 5 := by
  have h1 := eod_le un tl (f + 1) 5 (f + 1) (by omega)
  have e : eoF un tl f = eodG un tl (f + 1) 5 (f + 1) := rfl
  unfold rrB at h
  split at h
  · cases h; omega
  · split at h
    · cases h; omega
    · split at h
      · cases h; omega
      · split at h
        · cases h; omega
        · cases h
theorem rrM_le {un : Nat → Nat} {tl f p : Nat} (h : rrM un tl f none = some p) : p ≤ f + 5 := by
  unfold rrM at h
  split at h
  · rename_i q hq; cases h; exact rrB_le hq
  · cases h
theorem rr_step {un : Nat → Nat} {tl n c j : Nat} {f : Nat → Nat} {R : (Nat ⊕ Nat) × (Nat → Nat)} (hj : j < tl) (h : rdG un tl (n + 1) c j f = R) : (rrM un tl j none = none ∧ rdG un tl n (c + 1) (eoF un tl j + 1) (rrT un tl j f) = R) ∨ (∃ q, rrM un tl j none = some q ∧ R = (.inr q, rrT un tl j f)) := by
  rw [rdG_step un tl n c j f hj] at h
  unfold rrM
  cases hb : rrB un tl j with
  | none => rw [hb] at h; exact Or.inl ⟨rfl, h⟩
  | some q =>
    rw [hb] at h
    right
    refine ⟨q, rfl, ?_⟩
    rw [← h, rrT, hb]
def bdM (r : (Nat ⊕ Nat) × (Nat → Nat)) : Option Nat := match r.1 with
  | .inl _ => none
  | .inr p => some p
def nwM (r : (Nat ⊕ Nat) × (Nat → Nat)) (nw : Nat → Nat) : Nat → Nat := match r.1 with
  | .inl _ => upG r.2 5 nw
  | .inr _ => nw
end SPEC5
