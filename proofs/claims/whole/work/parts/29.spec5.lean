/-! SPEC5: more of the reference's functions -/
section SPEC5
theorem fwF_lt {sp sq ans : Nat → Nat} {rt : Nat → Bool} {ns a b z : Nat} (h : fwF sp sq ans rt ns a b = some z) : z < ns := by
  unfold fwF at h
  by_cases q : rt a = true
  · rw [if_pos q] at h; cases h
  · rw [if_neg q] at h
    have := fstG_lt _ _ _ _ h
    omega
end SPEC5
