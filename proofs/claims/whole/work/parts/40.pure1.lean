/-! PURE1: counting, insertion, orders -/
section PURE1
theorem cntF_congr {P R : Nat → Bool} : ∀ n, (∀ i, i < n → P i = R i) → cntF P n = cntF R n
  | 0, _ => rfl
  | n + 1, h => by
    unfold cntF
    rw [cntF_congr n (fun i hi => h i (by omega)), h n (by omega)]
theorem sumF_congr {f g : Nat → Nat} : ∀ n, (∀ i, i < n → f i = g i) → sumF f n = sumF g n
  | 0, _ => rfl
  | n + 1, h => by
    unfold sumF
    rw [sumF_congr n (fun i hi => h i (by omega)), h n (by omega)]
theorem fstG_congr {P R : Nat → Bool} : ∀ n i, (∀ k, i ≤ k → k < i + n → P k = R k) → fstG P n i = fstG R n i
  | 0, _, _ => rfl
  | n + 1, i, h => by
    unfold fstG
    rw [h i (by omega) (by omega), fstG_congr n (i + 1) (fun k h1 h2 => h k (by omega) (by omega))]
theorem cntF_lt {P : Nat → Bool} : ∀ n q, q < n → P q = false → cntF P n < n
  | 0, q, h, _ => absurd h (Nat.not_lt_zero _)
  | n + 1, q, h, hq => by
    unfold cntF
    by_cases e : q = n
    · subst e
      have := cntF_le P q
      rw [hq]; simp; omega
    · have := cntF_lt n q (by omega) hq
      split <;> omega
theorem cntF_pos {P : Nat → Bool} : ∀ n, 0 < cntF P n → ∃ q, q < n ∧ P q = true
  | 0, h => by unfold cntF at h; omega
  | n + 1, h => by
    unfold cntF at h
    by_cases e : P n = true
    · exact ⟨n, by omega, e⟩
    · rw [if_neg e] at h
      obtain ⟨q, h1, h2⟩ := cntF_pos n (by omega)
      exact ⟨q, by omega, h2⟩
theorem cntF_one {P : Nat → Bool} : ∀ n q, q < n → P q = true → 0 < cntF P n
  | 0, q, h, _ => absurd h (Nat.not_lt_zero _)
  | n + 1, q, h, hq => by
    unfold cntF
    by_cases e : q = n
    · subst e; rw [if_pos hq]; omega
    · have := cntF_one n q (by omega) hq
      omega
/-- where the insertion puts v -/
theorem insG_form (lt : Nat → Nat → Bool) (v : Nat) : ∀ (k : Nat) (f : Nat → Nat), ∃ p, p ≤ k ∧ (∀ i, i < p → insG lt v k f i = f i) ∧ insG lt v k f p = v ∧ (∀ i, p < i → i ≤ k → insG lt v k f i = f (i - 1)) ∧ (∀ i, k < i → insG lt v k f i = f i) ∧ (∀ i, p ≤ i → i < k → lt (f i) v = true) ∧ (p = 0 ∨ lt (f (p - 1)) v = false)
  | 0, f => ⟨0, Nat.le_refl 0, fun i h => absurd h (Nat.not_lt_zero _), va_up_self _ _ _, fun i h1 h2 => by omega, fun i h => va_up_ne _ _ (by omega), fun i h1 h2 => by omega, Or.inl rfl⟩
  | k + 1, f => by
    by_cases h : lt (f k) v = true
    · obtain ⟨p, h1, h2, h3, h4, h5, h6, h7⟩ := insG_form lt v k (va_up f (k + 1) (f k))
      have e : insG lt v (k + 1) f = insG lt v k (va_up f (k + 1) (f k)) := by rw [insG, if_pos h]
      refine ⟨p, by omega, fun i hi => ?_, ?_, fun i hi1 hi2 => ?_, fun i hi => ?_, fun i hi1 hi2 => ?_, ?_⟩
      · rw [e, h2 i hi, va_up_ne _ _ (by omega)]
      · rw [e, h3]
      · rw [e]
        by_cases q : i = k + 1
        · subst q
          rw [h5 _ (by omega), va_up_self]
          rfl
        · rw [h4 i hi1 (by omega), va_up_ne _ _ (by omega)]
      · rw [e, h5 i (by omega), va_up_ne _ _ (by omega)]
      · by_cases q : i = k
        · subst q; exact h
        · have := h6 i hi1 (by omega)
          rwa [va_up_ne _ _ (by omega)] at this
      · rcases h7 with q | q
        · exact Or.inl q
        · right
          rwa [va_up_ne _ _ (by omega)] at q
    · have hf : lt (f k) v = false := by simpa using h
      refine ⟨k + 1, Nat.le_refl _, fun i hi => ?_, ?_, fun i h1 h2 => by omega, fun i hi => ?_, fun i h1 h2 => by omega, Or.inr hf⟩
      · rw [insG, if_neg h, va_up_ne _ _ (by omega)]
      · rw [insG, if_neg h, va_up_self]
      · rw [insG, if_neg h, va_up_ne _ _ (by omega)]
/-- an order of 0 .. n - 1 by B -/
def ordB (B : Nat → Nat → Prop) (n : Nat) (f : Nat → Nat) : Prop := (∀ i, i < n → f i < n) ∧ (∀ i j, i < j → j < n → B (f i) (f j)) ∧ ∀ Q : Nat → Bool, cntF (fun j => Q (f j)) n = cntF Q n
theorem ordB_0 {B : Nat → Nat → Prop} {f : Nat → Nat} : ordB B 0 f := ⟨fun i h => absurd h (Nat.not_lt_zero _), fun i j _ h => absurd h (Nat.not_lt_zero _), fun _ => rfl⟩
theorem ordB.surj {B : Nat → Nat → Prop} {n : Nat} {f : Nat → Nat} (h : ordB B n f) {r : Nat} (hr : r < n) : ∃ j, j < n ∧ f j = r := by
  have h1 := h.2.2 (fun q => decide (q = r))
  have h2 := cntF_one (P := fun q => decide (q = r)) n r hr (by simp)
  obtain ⟨j, h3, h4⟩ := cntF_pos (P := fun j => decide (f j = r)) n (by rw [h1]; exact h2)
  exact ⟨j, h3, by simpa using h4⟩
theorem cnt_ins (Q : Nat → Bool) (f g : Nat → Nat) (v p : Nat) (n : Nat) (hp : p ≤ n) (h1 : ∀ i, i < p → g i = f i) (h2 : g p = v) (h3 : ∀ i, p < i → i ≤ n → g i = f (i - 1)) : cntF (fun j => Q (g j)) (n + 1) = cntF (fun j => Q (f j)) n + (if Q v = true then 1 else 0) := by
  have key : ∀ m, p ≤ m → m ≤ n → cntF (fun j => Q (g j)) (m + 1) = cntF (fun j => Q (f j)) m + (if Q v = true then 1 else 0) := by
    intro m
    induction m with
    | zero =>
      intro hm _
      have : p = 0 := by omega
      subst this
      simp [cntF, h2]
    | succ m ih =>
      intro hm hn
      by_cases q : p = m + 1
      · subst q
        show cntF (fun j => Q (g j)) (m + 1) + (if Q (g (m + 1)) = true then 1 else 0) = _
        rw [h2, cntF_congr (R := fun j => Q (f j)) (m + 1) (fun i hi => by rw [h1 i (by omega)])]
      · show cntF (fun j => Q (g j)) (m + 1) + (if Q (g (m + 1)) = true then 1 else 0) = cntF (fun j => Q (f j)) m + (if Q (f m) = true then 1 else 0) + _
        rw [ih (by omega) (by omega), h3 (m + 1) (by omega) (by omega)]
        simp only [Nat.add_sub_cancel]
        omega
  exact key n hp (Nat.le_refl n)
/-- the new number n is put in its place -/
theorem ordB_ins {B : Nat → Nat → Prop} {n : Nat} {f : Nat → Nat} {lt : Nat → Nat → Bool} (h : ordB B n f) (ht : ∀ a b c, B a b → B b c → B a c) (h1 : ∀ a, a < n → lt a n = true → B n a) (h2 : ∀ a, a < n → lt a n = false → B a n) : ordB B (n + 1) (insG lt n n f) := by
  obtain ⟨p, p1, p2, p3, p4, p5, p6, p7⟩ := insG_form lt n n f
  have hlow : ∀ i, i < p → B (f i) n := by
    intro i hi
    rcases p7 with q | q
    · omega
    · have hb := h2 (f (p - 1)) (h.1 _ (by omega)) q
      by_cases e : i = p - 1
      · rw [e]; exact hb
      · exact ht _ _ _ (h.2.1 i (p - 1) (by omega) (by omega)) hb
  refine ⟨fun i hi => ?_, fun i j hij hj => ?_, fun Q => ?_⟩
  · rcases Nat.lt_trichotomy i p with q | q | q
    · rw [p2 i q]; have := h.1 i (by omega); omega
    · rw [q, p3]; omega
    · rw [p4 i q (by omega)]; have := h.1 (i - 1) (by omega); omega
  · rcases Nat.lt_trichotomy j p with q | q | q
    · rw [p2 i (by omega), p2 j q]; exact h.2.1 i j hij (by omega)
    · subst q
      rw [p2 i hij, p3]; exact hlow i hij
    · rw [p4 j q (by omega)]
      rcases Nat.lt_trichotomy i p with z | z | z
      · rw [p2 i z]
        by_cases e : i < j - 1
        · exact h.2.1 i (j - 1) e (by omega)
        · omega
      · rw [z, p3]; exact h1 _ (h.1 _ (by omega)) (p6 (j - 1) (by omega) (by omega))
      · rw [p4 i z (by omega)]; exact h.2.1 (i - 1) (j - 1) (by omega) (by omega)
  · rw [cnt_ins Q f _ n p n p1 p2 p3 p4, h.2.2 Q]
    rfl
/-- orders agree on what they compare -/
theorem ordB_congr {B C : Nat → Nat → Prop} {n : Nat} {f : Nat → Nat} (h : ordB B n f) (hbc : ∀ a b, a < n → b < n → B a b → C a b) : ordB C n f := ⟨h.1, fun i j h1 h2 => hbc _ _ (h.1 i (by omega)) (h.1 j h2) (h.2.1 i j h1 h2), h.2.2⟩
def bfD (gr : Nat → Nat) (a b : Nat) : Prop := gr b < gr a ∨ (gr a = gr b ∧ a < b)
def bfT (sec : Nat → Nat) (a b : Nat) : Prop := sec a < sec b ∨ (sec a = sec b ∧ a < b)
theorem ordD_ins {gr fa : Nat → Nat} {n g : Nat} (h : ordB (bfD gr) n fa) : ordB (bfD (va_up gr n g)) (n + 1) (insG (ltD (va_up gr n g)) n n fa) := by
  have h' : ordB (bfD (va_up gr n g)) n fa := ordB_congr h (fun a b ha hb q => by
    unfold bfD at *
    rw [va_up_ne _ _ (by omega), va_up_ne _ _ (by omega)]; exact q)
  refine ordB_ins h' (fun a b c q1 q2 => by unfold bfD at *; omega) (fun a ha q => ?_) (fun a ha q => ?_)
  · unfold ltD at q; unfold bfD; simp at q; omega
  · unfold ltD at q; unfold bfD; simp at q; omega
theorem ordT_ins {sec it : Nat → Nat} {n g : Nat} (h : ordB (bfT sec) n it) : ordB (bfT (va_up sec n g)) (n + 1) (insG (ltT (va_up sec n g)) n n it) := by
  have h' : ordB (bfT (va_up sec n g)) n it := ordB_congr h (fun a b ha hb q => by
    unfold bfT at *
    rw [va_up_ne _ _ (by omega), va_up_ne _ _ (by omega)]; exact q)
  refine ordB_ins h' (fun a b c q1 q2 => by unfold bfT at *; omega) (fun a ha q => ?_) (fun a ha q => ?_)
  · unfold ltT at q; unfold bfT; simp at q; omega
  · unfold ltT at q; unfold bfT; simp at q; omega
end PURE1
