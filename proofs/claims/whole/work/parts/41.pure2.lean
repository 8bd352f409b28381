/-! PURE2: the class's walk in time gives the reference's counting -/
section PURE2
theorem sumF_one {f g : Nat → Nat} : ∀ (n y : Nat), y < n → (∀ i, i < n → i ≠ y → g i = f i) → sumF g n + f y = sumF f n + g y
  | 0, y, h, _ => absurd h (Nat.not_lt_zero _)
  | n + 1, y, h, hg => by
    unfold sumF
    by_cases q : y = n
    · subst q
      rw [sumF_congr (f := g) (g := f) y (fun i hi => hg i (by omega) (by omega))]
      omega
    · have h1 := sumF_one n y (by omega) (fun i hi hn => hg i (by omega) hn)
      have h2 := hg n (by omega) (fun e => q e.symm)
      omega
def b01 (b : Bool) : Nat := if b = true then 1 else 0
theorem cntF_sum (P : Nat → Bool) : ∀ n, cntF P n = sumF (fun i => b01 (P i)) n
  | 0 => rfl
  | n + 1 => by unfold cntF sumF; rw [cntF_sum P n]; rfl
variable (gr nw sp sq sec it : Nat → Nat) (rt : Nat → Bool) (stt : Nat → Option Nat) (x : Nat)
def pF (y : Nat) : Nat → Nat × Option Nat
  | 0 => (0, none)
  | i + 1 => if sp (it i) = x ∧ sq (it i) = y ∧ (pF y i).2 = none then (if rt (it i) = true then ((pF y i).1, some (it i)) else ((pF y i).1 + 1, none)) else pF y i
def gaO (y : Nat) (st : Nat × Option Nat) : Option Nat := match st.2 with
  | none => none
  | some b => if nw 3 < sfs sec sp stt b then none else some (wth nw (gr y) (sfs sec sp stt b) st.1)
def tmO (st : Nat × Option Nat) : Nat := match st.2 with
  | none => 0
  | some b => if nw 3 < sfs sec sp stt b then 0 else sfs sec sp stt b
def Wk (np i : Nat) (u : TkS) : Prop :=
  (∀ y, y < 20 → u.1 y = (pF sp sq it rt x y i).1 ∧ u.2.1 y = (pF sp sq it rt x y i).2.isSome ∧ u.2.2.1 y = gaO gr nw sp sec stt y (pF sp sq it rt x y i)) ∧
  u.2.2.2.1 x = sumF (fun y => (gaO gr nw sp sec stt y (pF sp sq it rt x y i)).getD 0) np ∧ u.2.2.2.2.1 x = sumF (fun y => tmO nw sp sec stt (pF sp sq it rt x y i)) np ∧ u.2.2.2.2.2 x = sumF (fun y => b01 (gaO gr nw sp sec stt y (pF sp sq it rt x y i)).isSome) np
theorem pF_ne {y i : Nat} (h : ¬ (sp (it i) = x ∧ sq (it i) = y ∧ (pF sp sq it rt x y i).2 = none)) : pF sp sq it rt x y (i + 1) = pF sp sq it rt x y i := by rw [pF, if_neg h]
theorem Wk_same {np i : Nat} {u : TkS} (h : Wk gr nw sp sq sec it rt stt x np i u) (hn : ∀ y, y < 20 → pF sp sq it rt x y (i + 1) = pF sp sq it rt x y i) (hnp : np ≤ 20) : Wk gr nw sp sq sec it rt stt x np (i + 1) u := by
  obtain ⟨h1, h2, h3, h4⟩ := h
  refine ⟨fun y hy => by rw [hn y hy]; exact h1 y hy, ?_, ?_, ?_⟩
  · rw [h2]; exact sumF_congr np (fun y hy => by rw [hn y (by omega)])
  · rw [h3]; exact sumF_congr np (fun y hy => by rw [hn y (by omega)])
  · rw [h4]; exact sumF_congr np (fun y hy => by rw [hn y (by omega)])
theorem Wk_step {np i : Nat} {u : TkS} (hnp : np ≤ 20) (hq : sq (it i) < np) (h : Wk gr nw sp sq sec it rt stt x np i u) : Wk gr nw sp sq sec it rt stt x np (i + 1) (if sp (it i) = x then tkF gr nw sp sq sec rt stt x (it i) u else u) := by
  by_cases hx : sp (it i) = x
  · rw [if_pos hx]
    obtain ⟨a1, a2, a3⟩ := h.1 (sq (it i)) (by omega)
    unfold tkF
    by_cases c1 : u.2.1 (sq (it i)) = true
    · rw [if_pos c1]
      refine Wk_same gr nw sp sq sec it rt stt x h (fun y hy => pF_ne sp sq it rt x ?_) hnp
      rintro ⟨_, e, e2⟩
      rw [e] at a2 c1
      rw [a2, e2] at c1
      cases c1
    · rw [if_neg c1]
      have hn : (pF sp sq it rt x (sq (it i)) i).2 = none := by
        rw [a2] at c1
        simpa using c1
      have hoth : ∀ y, y ≠ sq (it i) → pF sp sq it rt x y (i + 1) = pF sp sq it rt x y i := fun y hy => pF_ne sp sq it rt x (fun z => hy z.2.1.symm)
      have hown : pF sp sq it rt x (sq (it i)) (i + 1) = if rt (it i) = true then ((pF sp sq it rt x (sq (it i)) i).1, some (it i)) else ((pF sp sq it rt x (sq (it i)) i).1 + 1, none) := by rw [pF, if_pos ⟨hx, rfl, hn⟩]
      have hga0 : gaO gr nw sp sec stt (sq (it i)) (pF sp sq it rt x (sq (it i)) i) = none := by unfold gaO; rw [hn]
      have htm0 : tmO nw sp sec stt (pF sp sq it rt x (sq (it i)) i) = 0 := by unfold tmO; rw [hn]
      obtain ⟨h1, h2, h3, h4⟩ := h
      by_cases c2 : rt (it i) = false
      · rw [if_pos c2]
        rw [if_neg (by rw [c2]; decide)] at hown
        have hga1 : gaO gr nw sp sec stt (sq (it i)) (pF sp sq it rt x (sq (it i)) (i + 1)) = none := by rw [hown]; rfl
        have htm1 : tmO nw sp sec stt (pF sp sq it rt x (sq (it i)) (i + 1)) = 0 := by rw [hown]; rfl
        have hgs : ∀ y, gaO gr nw sp sec stt y (pF sp sq it rt x y (i + 1)) = gaO gr nw sp sec stt y (pF sp sq it rt x y i) := fun y => by
          by_cases e : y = sq (it i)
          · rw [e, hga1, hga0]
          · rw [hoth y e]
        have hts : ∀ y, tmO nw sp sec stt (pF sp sq it rt x y (i + 1)) = tmO nw sp sec stt (pF sp sq it rt x y i) := fun y => by
          by_cases e : y = sq (it i)
          · rw [e, htm1, htm0]
          · rw [hoth y e]
        refine ⟨fun y hy => ?_, ?_, ?_, ?_⟩
        · by_cases e : y = sq (it i)
          · subst e
            refine ⟨?_, ?_, ?_⟩
            · show va_up u.1 _ _ _ = _
              rw [va_up_self, hown, a1]
            · show u.2.1 _ = _
              rw [hown, a2, hn]
            · show u.2.2.1 _ = _
              rw [a3, hgs]
          · refine ⟨?_, ?_, ?_⟩
            · show va_up u.1 _ _ _ = _
              rw [va_up_ne _ _ e, hoth y e]; exact (h1 y hy).1
            · show u.2.1 _ = _
              rw [hoth y e]; exact (h1 y hy).2.1
            · show u.2.2.1 _ = _
              rw [hoth y e]; exact (h1 y hy).2.2
        · show u.2.2.2.1 x = _
          rw [h2]; exact sumF_congr np (fun y _ => by rw [hgs])
        · show u.2.2.2.2.1 x = _
          rw [h3]; exact sumF_congr np (fun y _ => by rw [hts])
        · show u.2.2.2.2.2 x = _
          rw [h4]; exact sumF_congr np (fun y _ => by rw [hgs])
      · rw [if_neg c2]
        have hr : rt (it i) = true := by simpa using c2
        rw [if_pos hr] at hown
        by_cases c3 : nw 3 < sfs sec sp stt (it i)
        · rw [if_pos c3]
          have hga1 : gaO gr nw sp sec stt (sq (it i)) (pF sp sq it rt x (sq (it i)) (i + 1)) = none := by rw [hown]; unfold gaO; exact if_pos c3
          have htm1 : tmO nw sp sec stt (pF sp sq it rt x (sq (it i)) (i + 1)) = 0 := by rw [hown]; unfold tmO; exact if_pos c3
          have hgs : ∀ y, gaO gr nw sp sec stt y (pF sp sq it rt x y (i + 1)) = gaO gr nw sp sec stt y (pF sp sq it rt x y i) := fun y => by
            by_cases e : y = sq (it i)
            · rw [e, hga1, hga0]
            · rw [hoth y e]
          have hts : ∀ y, tmO nw sp sec stt (pF sp sq it rt x y (i + 1)) = tmO nw sp sec stt (pF sp sq it rt x y i) := fun y => by
            by_cases e : y = sq (it i)
            · rw [e, htm1, htm0]
            · rw [hoth y e]
          refine ⟨fun y hy => ?_, ?_, ?_, ?_⟩
          · by_cases e : y = sq (it i)
            · subst e
              refine ⟨?_, ?_, ?_⟩
              · show u.1 _ = _
                rw [hown, a1]
              · show va_up u.2.1 _ _ _ = _
                rw [va_up_self, hown]; rfl
              · show u.2.2.1 _ = _
                rw [a3, hgs]
            · refine ⟨?_, ?_, ?_⟩
              · show u.1 _ = _
                rw [hoth y e]; exact (h1 y hy).1
              · show va_up u.2.1 _ _ _ = _
                rw [va_up_ne _ _ e, hoth y e]; exact (h1 y hy).2.1
              · show u.2.2.1 _ = _
                rw [hoth y e]; exact (h1 y hy).2.2
          · show u.2.2.2.1 x = _
            rw [h2]; exact sumF_congr np (fun y _ => by rw [hgs])
          · show u.2.2.2.2.1 x = _
            rw [h3]; exact sumF_congr np (fun y _ => by rw [hts])
          · show u.2.2.2.2.2 x = _
            rw [h4]; exact sumF_congr np (fun y _ => by rw [hgs])
        · rw [if_neg c3]
          have hga1 : gaO gr nw sp sec stt (sq (it i)) (pF sp sq it rt x (sq (it i)) (i + 1)) = some (wth nw (gr (sq (it i))) (sfs sec sp stt (it i)) (u.1 (sq (it i)))) := by rw [hown, a1]; unfold gaO; exact if_neg c3
          have htm1 : tmO nw sp sec stt (pF sp sq it rt x (sq (it i)) (i + 1)) = sfs sec sp stt (it i) := by rw [hown]; unfold tmO; exact if_neg c3
          refine ⟨fun y hy => ?_, ?_, ?_, ?_⟩
          · by_cases e : y = sq (it i)
            · subst e
              refine ⟨?_, ?_, ?_⟩
              · show u.1 _ = _
                rw [hown, a1]
              · show va_up u.2.1 _ _ _ = _
                rw [va_up_self, hown]; rfl
              · show va_up u.2.2.1 _ _ _ = _
                rw [va_up_self, hga1]
            · refine ⟨?_, ?_, ?_⟩
              · show u.1 _ = _
                rw [hoth y e]; exact (h1 y hy).1
              · show va_up u.2.1 _ _ _ = _
                rw [va_up_ne _ _ e, hoth y e]; exact (h1 y hy).2.1
              · show va_up u.2.2.1 _ _ _ = _
                rw [va_up_ne _ _ e, hoth y e]; exact (h1 y hy).2.2
          · show va_up u.2.2.2.1 x _ x = _
            rw [va_up_self, h2]
            have := sumF_one (f := fun y => (gaO gr nw sp sec stt y (pF sp sq it rt x y i)).getD 0) (g := fun y => (gaO gr nw sp sec stt y (pF sp sq it rt x y (i + 1))).getD 0) np (sq (it i)) hq (fun y _ e => by rw [hoth y e])
            try dsimp only at this
            rw [hga0, hga1] at this
            simpa using this.symm
          · show va_up u.2.2.2.2.1 x _ x = _
            rw [va_up_self, h3]
            have := sumF_one (f := fun y => tmO nw sp sec stt (pF sp sq it rt x y i)) (g := fun y => tmO nw sp sec stt (pF sp sq it rt x y (i + 1))) np (sq (it i)) hq (fun y _ e => by rw [hoth y e])
            try dsimp only at this
            rw [htm0, htm1] at this
            simpa using this.symm
          · show va_up u.2.2.2.2.2 x _ x = _
            rw [va_up_self, h4]
            have := sumF_one (f := fun y => b01 (gaO gr nw sp sec stt y (pF sp sq it rt x y i)).isSome) (g := fun y => b01 (gaO gr nw sp sec stt y (pF sp sq it rt x y (i + 1))).isSome) np (sq (it i)) hq (fun y _ e => by rw [hoth y e])
            try dsimp only at this
            rw [hga0, hga1] at this
            simpa [b01] using this.symm
  · rw [if_neg hx]
    exact Wk_same gr nw sp sq sec it rt stt x h (fun y hy => pF_ne sp sq it rt x (fun z => hx z.1)) hnp
theorem Wk_all {np ns : Nat} (hnp : np ≤ 20) (hq : ∀ i, i < ns → sq (it i) < np) : ∀ (n i : Nat) (u : TkS), i + n = ns → Wk gr nw sp sq sec it rt stt x np i u → Wk gr nw sp sq sec it rt stt x np ns (woG gr nw sp sq sec it rt stt x n i u)
  | 0, i, u, hi, h => by
    have : i = ns := by omega
    subst this; exact h
  | n + 1, i, u, hi, h => Wk_all hnp hq n (i + 1) _ (by omega) (Wk_step gr nw sp sq sec it rt stt x hnp (hq i (by omega)) h)
theorem sumF_zero : ∀ n, sumF (fun _ => 0) n = 0
  | 0 => rfl
  | n + 1 => by unfold sumF; rw [sumF_zero n]
theorem Wk_woF {np ns : Nat} (hnp : np ≤ 20) (hq : ∀ i, i < ns → sq (it i) < np) (u : TkS) : Wk gr nw sp sq sec it rt stt x np ns (woF gr nw sp sq sec it rt stt ns x u) := by
  refine Wk_all gr nw sp sq sec it rt stt x hnp hq ns 0 _ (by omega) ⟨fun y hy => ⟨?_, ?_, ?_⟩, ?_, ?_, ?_⟩
  · show upK 0 20 u.1 y = 0
    exact upK_lt _ _ _ _ hy
  · show upK false 20 u.2.1 y = false
    exact upK_lt _ _ _ _ hy
  · show upK none 20 u.2.2.1 y = none
    exact upK_lt _ _ _ _ hy
  · show va_up u.2.2.2.1 x 0 x = _
    rw [va_up_self]; exact (sumF_zero np).symm
  · show va_up u.2.2.2.2.1 x 0 x = _
    rw [va_up_self]; exact (sumF_zero np).symm
  · show va_up u.2.2.2.2.2 x 0 x = _
    rw [va_up_self]; exact (sumF_zero np).symm
/-- the first right one in time -/
def pSp (y i : Nat) (st : Nat × Option Nat) : Prop := match st.2 with
  | none => (∀ j, j < i → ¬ (sp (it j) = x ∧ sq (it j) = y ∧ rt (it j) = true)) ∧ st.1 = cntF (fun j => decide (sp (it j) = x ∧ sq (it j) = y ∧ rt (it j) = false)) i
  | some b => ∃ j0, j0 < i ∧ b = it j0 ∧ (sp (it j0) = x ∧ sq (it j0) = y ∧ rt (it j0) = true) ∧ (∀ j, j < j0 → ¬ (sp (it j) = x ∧ sq (it j) = y ∧ rt (it j) = true)) ∧ st.1 = cntF (fun j => decide (sp (it j) = x ∧ sq (it j) = y ∧ rt (it j) = false)) j0
theorem pF_spec (y : Nat) : ∀ i, pSp sp sq it rt x y i (pF sp sq it rt x y i)
  | 0 => ⟨fun j h => absurd h (Nat.not_lt_zero _), rfl⟩
  | i + 1 => by
    have ih := pF_spec y i
    unfold pSp at ih
    rw [pF]
    unfold pSp
    by_cases hc : sp (it i) = x ∧ sq (it i) = y ∧ (pF sp sq it rt x y i).2 = none
    · rw [hc.2.2] at ih
      by_cases hr : rt (it i) = true
      · rw [if_pos hc, if_pos hr]
        exact ⟨i, by omega, rfl, ⟨hc.1, hc.2.1, hr⟩, ih.1, ih.2⟩
      · rw [if_pos hc, if_neg hr]
        refine ⟨fun j hj => ?_, ?_⟩
        · by_cases e : j = i
          · subst e; exact fun z => hr z.2.2
          · exact ih.1 j (by omega)
        · show _ + 1 = cntF _ i + _
          rw [ih.2, if_pos (by simp [hc.1, hc.2.1]; simpa using hr)]
    · rw [if_neg hc]
      cases hb : (pF sp sq it rt x y i).2 with
      | none =>
        rw [hb] at ih
        dsimp only
        have hno : ¬ (sp (it i) = x ∧ sq (it i) = y) := fun z => hc ⟨z.1, z.2, hb⟩
        refine ⟨fun j hj => ?_, ?_⟩
        · by_cases e : j = i
          · subst e; exact fun z => hno ⟨z.1, z.2.1⟩
          · exact ih.1 j (by omega)
        · show _ = cntF _ i + _
          rw [ih.2, if_neg (by simp; intro a b; exact absurd ⟨a, b⟩ hno), Nat.add_zero]
      | some b =>
        rw [hb] at ih
        obtain ⟨j0, h1, h2⟩ := ih
        exact ⟨j0, by omega, h2⟩
def Bst (y i : Nat) (b : Option Nat) : Prop := match b with
  | none => ∀ k, k < i → ¬ (ofM sp sq x y k = true ∧ rt k = true)
  | some z => z < i ∧ (ofM sp sq x y z = true ∧ rt z = true) ∧ ∀ k, k < i → (ofM sp sq x y k = true ∧ rt k = true) → k = z ∨ ahM sec z k = true
theorem ahM_t {a b : Nat} : ahM sec a b = true ↔ sec a < sec b ∨ (sec a = sec b ∧ a < b) := by unfold ahM; simp
theorem Bst_all (y : Nat) : ∀ (n i : Nat) (b : Option Nat), Bst sp sq sec rt x y i b → Bst sp sq sec rt x y (i + n) (bsG sp sq sec rt x y n i b)
  | 0, i, b, h => h
  | n + 1, i, b, h => by
    rw [bsG, show i + (n + 1) = i + 1 + n by omega]
    apply Bst_all y n (i + 1)
    by_cases hc : ofM sp sq x y i = true ∧ rt i = true ∧ (b = none ∨ ahM sec i (b.getD 0) = true)
    · rw [if_pos hc]
      refine ⟨by omega, ⟨hc.1, hc.2.1⟩, fun k hk hR => ?_⟩
      by_cases e : k = i
      · exact Or.inl e
      · right
        cases b with
        | none => exact absurd hR (h k (by omega))
        | some z =>
          rcases hc.2.2 with q | q
          · cases q
          · simp only [Option.getD_some] at q
            rcases h.2.2 k (by omega) hR with e2 | e2
            · rw [e2]; exact q
            · rw [ahM_t] at q e2 ⊢; omega
    · rw [if_neg hc]
      cases b with
      | none =>
        intro k hk hR
        by_cases e : k = i
        · subst e; exact hc ⟨hR.1, hR.2, Or.inl rfl⟩
        · exact h k (by omega) hR
      | some z =>
        refine ⟨by have := h.1; omega, h.2.1, fun k hk hR => ?_⟩
        by_cases e : k = i
        · subst e
          right
          have h1 : ¬ ahM sec k z = true := fun q => hc ⟨hR.1, hR.2, Or.inr q⟩
          have h2 := h.1
          rw [ahM_t] at h1 ⊢; omega
        · exact h.2.2 k (by omega) hR
theorem Bst_uniq {y n : Nat} {b c : Option Nat} (h1 : Bst sp sq sec rt x y n b) (h2 : Bst sp sq sec rt x y n c) : b = c := by
  cases b with
  | none =>
    cases c with
    | none => rfl
    | some z => exact absurd h2.2.1 (h1 z h2.1)
  | some w =>
    cases c with
    | none => exact absurd h1.2.1 (h2 w h1.1)
    | some z =>
      rcases h1.2.2 z h2.1 h2.2.1 with e | e
      · rw [e]
      · rcases h2.2.2 w h1.1 h1.2.1 with e2 | e2
        · rw [e2]
        · rw [ahM_t] at e e2; omega
theorem cntF_take {P : Nat → Bool} {k : Nat} : ∀ n, k ≤ n → cntF (fun j => P j && decide (j < k)) n = cntF P k
  | 0, h => by
    have : k = 0 := by omega
    subst this; rfl
  | n + 1, h => by
    by_cases e : k = n + 1
    · subst e
      exact cntF_congr _ (fun i hi => by simp [hi])
    · show cntF _ n + _ = _
      rw [cntF_take n (by omega), if_neg (by simp; intro _; omega)]
      rfl
theorem pF_bsG {y ns : Nat} (ho : ordB (bfT sec) ns it) : (pF sp sq it rt x y ns).2 = bsG sp sq sec rt x y ns 0 none := by
  have h0 := Bst_all sp sq sec rt x y ns 0 none (fun k hk => absurd hk (Nat.not_lt_zero _))
  rw [Nat.zero_add] at h0
  refine Bst_uniq sp sq sec rt x ?_ h0
  have hs := pF_spec sp sq it rt x y ns
  unfold pSp at hs
  cases hb : (pF sp sq it rt x y ns).2 with
  | none =>
    rw [hb] at hs
    intro k hk hR
    obtain ⟨j, h1, h2⟩ := ho.surj hk
    refine hs.1 j h1 ?_
    rw [h2]
    have := hR.1
    unfold ofM at this
    simp at this
    exact ⟨this.1, this.2, hR.2⟩
  | some b =>
    rw [hb] at hs
    obtain ⟨j0, h1, h2, h3, h4, -⟩ := hs
    refine ⟨by rw [h2]; exact ho.1 j0 h1, ⟨by unfold ofM; rw [h2]; simp [h3.1, h3.2.1], by rw [h2]; exact h3.2.2⟩, fun k hk hR => ?_⟩
    obtain ⟨j, g1, g2⟩ := ho.surj hk
    have hM : sp (it j) = x ∧ sq (it j) = y ∧ rt (it j) = true := by
      rw [g2]
      have := hR.1
      unfold ofM at this
      simp at this
      exact ⟨this.1, this.2, hR.2⟩
    rcases Nat.lt_trichotomy j j0 with q | q | q
    · exact absurd hM (h4 j q)
    · left; rw [← g2, h2, q]
    · right; rw [← g2, h2, ahM_t]; exact ho.2.1 j0 j q g1
theorem pF_cnt {y ns b : Nat} (ho : ordB (bfT sec) ns it) (hb : (pF sp sq it rt x y ns).2 = some b) : (pF sp sq it rt x y ns).1 = cntF (wrM sp sq sec rt x y b) ns := by
  have hs := pF_spec sp sq it rt x y ns
  unfold pSp at hs
  rw [hb] at hs
  obtain ⟨j0, h1, h2, h3, h4, h5⟩ := hs
  rw [h5, ← ho.2.2 (wrM sp sq sec rt x y b), ← cntF_take (P := fun j => decide (sp (it j) = x ∧ sq (it j) = y ∧ rt (it j) = false)) (k := j0) ns (by omega)]
  refine cntF_congr ns (fun j hj => ?_)
  have e : ahM sec (it j) b = decide (j < j0) := by
    rw [h2]
    by_cases q : j < j0
    · rw [decide_eq_true q, ahM_t]; exact ho.2.1 j j0 q h1
    · rw [decide_eq_false q]
      by_cases e : j = j0
      · rw [e]; unfold ahM; simp
      · have := ho.2.1 j0 j (by omega) hj
        unfold ahM; unfold bfT at this; simp; omega
  unfold wrM ofM
  rw [e]
  by_cases q : j < j0 <;> simp [q, Bool.and_assoc]
theorem gaO_ct {y ns : Nat} (ho : ordB (bfT sec) ns it) : gaO gr nw sp sec stt y (pF sp sq it rt x y ns) = (ctF nw sp sq sec rt stt ns x y).map (ptV gr nw sp sq sec rt stt ns x y) := by
  unfold gaO ctF
  rw [← pF_bsG sp sq sec it rt x ho]
  cases hb : (pF sp sq it rt x y ns).2 with
  | none => rfl
  | some b =>
    dsimp only
    by_cases q : nw 3 < sfs sec sp stt b
    · rw [if_pos q, if_pos q]; rfl
    · rw [if_neg q, if_neg q, pF_cnt sp sq sec it rt x ho hb]; rfl
theorem tmO_ct {y ns : Nat} (ho : ordB (bfT sec) ns it) : tmO nw sp sec stt (pF sp sq it rt x y ns) = tiM nw sp sq sec rt stt ns x y := by
  unfold tmO tiM ctF
  rw [← pF_bsG sp sq sec it rt x ho]
  cases hb : (pF sp sq it rt x y ns).2 with
  | none => rfl
  | some b =>
    dsimp only
    by_cases q : nw 3 < sfs sec sp stt b
    · rw [if_pos q, if_pos q]
    · rw [if_neg q, if_neg q]
end PURE2
