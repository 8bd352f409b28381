/-! PURE4: sets, halves, texts, what every call keeps -/
section PURE4
theorem lsG_congr {ss sc ss' sc' : Nat → Nat} : ∀ (n i b : Nat), i + n ≤ 6 → b < 6 → (∀ j, j < 6 → ss j = ss' j) → (∀ j, j < 6 → sc j = sc' j) → lsG ss sc n i b = lsG ss' sc' n i b
  | 0, _, _, _, _, _, _ => rfl
  | n + 1, i, b, h, hb, h1, h2 => by
    rw [lsG, lsG, h1 i (by omega), h1 b hb, h2 i (by omega), h2 b hb]
    exact lsG_congr n (i + 1) _ (by omega) (by split <;> omega) h1 h2
theorem lsF_congr {ss sc ss' sc' : Nat → Nat} {k : Nat} (hk : 1 ≤ k ∧ k ≤ 6) (h1 : ∀ j, j < 6 → ss j = ss' j) (h2 : ∀ j, j < 6 → sc j = sc' j) : lsF ss sc k = lsF ss' sc' k := lsG_congr (k - 1) 1 0 (by omega) (by omega) h1 h2
def nBs (gr : Nat → Nat) (ip : Nat → Bool) (i : Nat) (b : Option Nat) : Prop := match b with
  | none => ∀ k, k < i → ip k = true
  | some z => z < i ∧ ip z = false ∧ ∀ k, k < i → ip k = false → k = z ∨ bfD gr z k
theorem nBs_all (gr : Nat → Nat) (ip : Nat → Bool) : ∀ (n i : Nat) (b : Option Nat), nBs gr ip i b → nBs gr ip (i + n) (nxG gr ip n i b)
  | 0, _, _, h => h
  | n + 1, i, b, h => by
    rw [nxG, show i + (n + 1) = i + 1 + n by omega]
    apply nBs_all gr ip n (i + 1)
    by_cases hc : ip i = false ∧ (b = none ∨ gr (b.getD 0) < gr i)
    · rw [if_pos hc]
      refine ⟨by omega, hc.1, fun k hk hp => ?_⟩
      by_cases e : k = i
      · exact Or.inl e
      · right
        cases b with
        | none => have := h k (by omega); rw [hp] at this; cases this
        | some z =>
          rcases hc.2 with q | q
          · cases q
          · simp only [Option.getD_some] at q
            unfold bfD
            rcases h.2.2 k (by omega) hp with e2 | e2
            · rw [e2]; omega
            · unfold bfD at e2; omega
    · rw [if_neg hc]
      cases b with
      | none =>
        intro k hk
        by_cases e : k = i
        · subst e
          cases hz : ip k with
          | true => rfl
          | false => exact absurd ⟨hz, Or.inl rfl⟩ hc
        · exact h k (by omega)
      | some z =>
        refine ⟨by have := h.1; omega, h.2.1, fun k hk hp => ?_⟩
        by_cases e : k = i
        · subst e
          right
          have h1 : ¬ gr z < gr k := fun q => hc ⟨hp, Or.inr q⟩
          have h2 := h.1
          unfold bfD; omega
        · exact h.2.2 k (by omega) hp
theorem nx_eq {gr fa : Nat → Nat} {ip : Nat → Bool} {np i : Nat} (ho : ordB (bfD gr) np fa) (hi : i < np) (hp : ∀ j, j < np → (ip j = true ↔ ∃ t, t < i ∧ fa t = j)) : nxF gr ip np = some (fa i) := by
  have h0 := nBs_all gr ip np 0 none (fun k hk => absurd hk (Nat.not_lt_zero _))
  rw [Nat.zero_add] at h0
  have hfi : ip (fa i) = false := by
    cases hz : ip (fa i) with
    | false => rfl
    | true =>
      obtain ⟨t, h1, h2⟩ := (hp _ (ho.1 i hi)).mp hz
      have := ho.2.1 t i h1 hi
      rw [h2] at this
      unfold bfD at this; omega
  have hbest : ∀ k, k < np → ip k = false → k = fa i ∨ bfD gr (fa i) k := by
    intro k hk hz
    obtain ⟨t, h1, h2⟩ := ho.surj hk
    rcases Nat.lt_trichotomy t i with q | q | q
    · have := (hp k hk).mpr ⟨t, q, h2⟩
      rw [hz] at this; cases this
    · left; rw [← h2, q]
    · right; rw [← h2]; exact ho.2.1 i t q h1
  show nxG gr ip np 0 none = some (fa i)
  cases hn : nxG gr ip np 0 none with
  | none =>
    rw [hn] at h0
    have := h0 (fa i) (ho.1 i hi)
    rw [hfi] at this; cases this
  | some z =>
    rw [hn] at h0
    rcases h0.2.2 (fa i) (ho.1 i hi) hfi with e | e
    · rw [e]
    · rcases hbest z h0.1 h0.2.1 with e2 | e2
      · rw [e2]
      · unfold bfD at e e2; omega
theorem ev_set {gr fa : Nat → Nat} {np k q : Nat} (hk : 1 ≤ k ∧ k ≤ 6) (hq : q < np) (ho : ordB (bfD gr) np fa) : ∀ (n i m t : Nat) (ss sc ss' sc' : Nat → Nat) (ip : Nat → Bool), i + n = np → n < m → (∀ j, j < 6 → ss j = ss' j) → (∀ j, j < 6 → sc j = sc' j) → (∀ j, j < np → (ip j = true ↔ ∃ t, t < i ∧ fa t = j)) → ip q = false → (setG gr fa k q n i ss sc).1 = some (evG gr np k q m t ss' sc' ip).1
  | 0, i, m, t, ss, sc, ss', sc', ip, hi, hm, h1, h2, h3, h4 => by
    obtain ⟨j, g1, g2⟩ := ho.surj hq
    have := (h3 q hq).mpr ⟨j, by omega, g2⟩
    rw [h4] at this; cases this
  | n + 1, i, m + 1, t, ss, sc, ss', sc', ip, hi, hm, h1, h2, h3, h4 => by
    have hnx := nx_eq ho (by omega) h3
    have hls := lsF_congr hk h1 h2
    rw [setG, evG, if_neg (show ¬ ip q = true by rw [h4]; decide), hnx, hls]
    simp only [Option.getD_some]
    by_cases e : fa i = q
    · rw [if_pos e, e]
      cases m with
      | zero => omega
      | succ m => rw [evG, if_pos (va_up_self _ _ _)]
    · rw [if_neg e]
      refine ev_set hk hq ho n (i + 1) m _ _ _ _ _ _ (by omega) (by omega) (fun j hj => ?_) (fun j hj => ?_) (fun j hj => ?_) ?_
      · have hl := lsF_lt (ss := ss') (sc := sc') hk.1
        unfold va_up
        split
        · rw [h1 _ (by omega)]
        · exact h1 j hj
      · have hl := lsF_lt (ss := ss') (sc := sc') hk.1
        unfold va_up
        split
        · rw [h2 _ (by omega)]
        · exact h2 j hj
      · by_cases z : j = fa i
        · subst z
          rw [va_up_self]
          exact ⟨fun _ => ⟨i, by omega, rfl⟩, fun _ => rfl⟩
        · rw [va_up_ne _ _ z, h3 j hj]
          constructor
          · rintro ⟨t, a, b⟩; exact ⟨t, by omega, b⟩
          · rintro ⟨t, a, b⟩
            refine ⟨t, ?_, b⟩
            rcases Nat.lt_or_ge t i with w | w
            · exact w
            · exfalso
              apply z
              rw [← b, show t = i by omega]
      · rw [va_up_ne _ _ (fun z => e z.symm)]; exact h4
theorem ev_eq {gr fa ss sc ss' sc' : Nat → Nat} {ip : Nat → Bool} {np k q : Nat} (hk : 1 ≤ k ∧ k ≤ 6) (hq : q < np) (hn : np ≤ 20) (ho : ordB (bfD gr) np fa) : (setF gr fa ss sc np k q).1 = some (evG gr np k q 21 0 (upK 0 6 ss') (upK 0 6 sc') (upK false 20 ip)).1 := by
  refine ev_set hk hq ho np 0 21 0 _ _ _ _ _ (by omega) (by omega) (fun j hj => by rw [upK_lt _ _ _ _ hj, upK_lt _ _ _ _ hj]) (fun j hj => by rw [upK_lt _ _ _ _ hj, upK_lt _ _ _ _ hj]) (fun j hj => ?_) (upK_lt _ _ _ _ (by omega))
  rw [upK_lt _ _ _ _ (by omega)]
  constructor
  · intro h; cases h
  · rintro ⟨t, h, -⟩; omega
/-! halves -/
theorem cbG_form {g : Nat} (hg : 1 ≤ g) : ∀ (k : Nat) (f : Nat → Bool) (v : Nat), cbG g k f v = if g ≤ v ∧ v ≤ k then (f v || f (v - g)) else f v
  | 0, f, v => by rw [cbG, if_neg (by omega)]
  | k + 1, f, v => by
    rw [cbG]
    by_cases h : k + 1 < g
    · rw [if_pos h, if_neg (by omega)]
    · rw [if_neg h, cbG_form hg k]
      by_cases q : g ≤ v ∧ v ≤ k
      · rw [if_pos q, if_pos (by omega), va_up_ne _ _ (by omega), va_up_ne _ _ (by omega)]
      · rw [if_neg q]
        by_cases e : v = k + 1
        · subst e
          rw [va_up_self, if_pos (by omega)]
        · rw [va_up_ne _ _ e, if_neg (by omega)]
theorem rchG_form {g : Nat} (hg : 1 ≤ g) : ∀ (k : Nat) (f : Nat → Bool) (v : Nat), rchG g k f v = if g ≤ v ∧ v ≤ k then (f v || f (v - g)) else f v
  | 0, f, v => by rw [rchG, if_neg (by omega)]
  | k + 1, f, v => by
    rw [rchG]
    by_cases h : k + 1 < g
    · rw [if_pos h, if_neg (by omega)]
    · rw [if_neg h, rchG_form hg k]
      have e1 : ∀ w, w ≠ k + 1 → (if f (k + 1 - g) = true then va_up f (k + 1) true else f) w = f w := fun w hw => by
        split
        · exact va_up_ne _ _ hw
        · rfl
      by_cases q : g ≤ v ∧ v ≤ k
      · rw [if_pos q, if_pos (show g ≤ v ∧ v ≤ k + 1 by omega), e1 _ (by omega), e1 _ (by omega)]
      · rw [if_neg q]
        by_cases e : v = k + 1
        · subst e
          rw [if_pos (show g ≤ k + 1 ∧ k + 1 ≤ k + 1 by omega)]
          by_cases z : f (k + 1 - g) = true
          · rw [if_pos z, va_up_self, z, Bool.or_true]
          · rw [if_neg z]
            have : f (k + 1 - g) = false := by simpa using z
            rw [this, Bool.or_false]
        · rw [e1 _ e, if_neg (show ¬ (g ≤ v ∧ v ≤ k + 1) by omega)]
theorem cbA_congr {gr gr' : Nat → Nat} : ∀ (n : Nat) (f f' : Nat → Bool), (∀ i, i < n → gr i = gr' i ∧ 1 ≤ gr i) → (∀ v, v ≤ 2000 → f v = f' v) → ∀ v, v ≤ 2000 → cbA gr n f v = cbA gr' n f' v
  | 0, _, _, _, h => h
  | n + 1, f, f', hg, h => by
    intro v hv
    have ih := cbA_congr n f f' (fun i hi => hg i (by omega)) h
    rw [cbA, cbA, cbG_form (hg n (by omega)).2, ← (hg n (by omega)).1, cbG_form (hg n (by omega)).2, ih v hv, ih (v - gr n) (by omega)]
theorem lowG_congr {f f' : Nat → Bool} : ∀ k, (∀ v, v ≤ k → f v = f' v) → lowG f k = lowG f' k
  | 0, _ => rfl
  | k + 1, h => by rw [lowG, lowG, h (k + 1) (by omega), lowG_congr k (fun v hv => h v (by omega))]
def z0 (v : Nat) : Bool := decide (v = 0)
def reOk (gr : Nat → Nat) (np : Nat) (re : Nat → Bool) : Prop := (np = 0 → ∀ v, v ≤ 1000 → re v = false) ∧ (0 < np → ∀ v, v ≤ 1000 → re v = cbA gr np z0 v)
theorem reOk_add {gr : Nat → Nat} {np g : Nat} {re : Nat → Bool} (h : reOk gr np re) (hg : 1 ≤ g) (hgr : ∀ i, i < np → 1 ≤ gr i) : reOk (va_up gr np g) (np + 1) (rchG g 1000 (va_up re 0 true)) := by
  have hb : ∀ v, v ≤ 1000 → va_up re 0 true v = cbA (va_up gr np g) np z0 v := by
    intro v hv
    have hc : cbA (va_up gr np g) np z0 v = cbA gr np z0 v := cbA_congr np z0 z0 (fun i hi => by rw [va_up_ne _ _ (by omega)]; exact ⟨rfl, hgr i hi⟩) (fun _ _ => rfl) v (by omega)
    rw [hc]
    by_cases q : np = 0
    · subst q
      by_cases e : v = 0
      · subst e; rw [va_up_self]; rfl
      · rw [va_up_ne _ _ e, h.1 rfl v hv]
        show false = decide (v = 0)
        simp [e]
    · by_cases e : v = 0
      · subst e
        rw [va_up_self, cbA_0 gr np z0 hgr]; rfl
      · rw [va_up_ne _ _ e, h.2 (by omega) v hv]
  refine ⟨fun e => by omega, fun _ v hv => ?_⟩
  rw [rchG_form hg, cbA, va_up_self, cbG_form hg, hb v hv]
  by_cases q : g ≤ v ∧ v ≤ 1000
  · rw [if_pos q, if_pos (by omega), hb (v - g) (by omega)]
  · rw [if_neg q, if_neg (by omega)]
theorem ap_eq {gr : Nat → Nat} {np : Nat} {re mcb : Nat → Bool} (h : reOk gr np re) (h0 : 0 < np) (hn : np ≤ 20) (hgr : ∀ i, i < np → 1 ≤ gr i ∧ gr i ≤ 100) : lowG re (sumF gr np / 2) = lowG (cbA gr np (upG (fun v => decide (v = 0)) 2001 mcb)) (sumF gr np / 2) := by
  have hs := sumF_le gr 100 np (fun i hi => (hgr i hi).2)
  refine lowG_congr _ (fun v hv => ?_)
  rw [h.2 h0 v (by omega)]
  exact cbA_congr np z0 _ (fun i hi => ⟨rfl, (hgr i hi).1⟩) (fun w hw => by rw [upG_lt _ _ _ _ (by omega)]; rfl) v (by omega)
/-! texts -/
theorem rd_congr {un : Nat → Nat} {tl : Nat} : ∀ (n c a : Nat) (td td' : Nat → Nat), (∀ i, i < 5 → td i = td' i) → (rdG un tl n c a td).1 = (rdG un tl n c a td').1 ∧ ∀ i, i < 5 → (rdG un tl n c a td).2 i = (rdG un tl n c a td').2 i
  | 0, _, _, _, _, h => ⟨rfl, h⟩
  | n + 1, c, a, td, td', h => by
    by_cases ha : tl ≤ a
    · rw [rdG, if_pos ha, rdG, if_pos ha]; exact ⟨rfl, h⟩
    · rw [rdG_step un tl n c a td (by omega), rdG_step un tl n c a td' (by omega)]
      unfold rrT
      cases hb : rrB un tl a with
      | some p => exact ⟨rfl, h⟩
      | none =>
        refine rd_congr n (c + 1) _ _ _ (fun i hi => ?_)
        show va_up td _ _ i = va_up td' _ _ i
        unfold va_up
        split
        · rfl
        · exact h i hi
theorem rd_le {un : Nat → Nat} {tl : Nat} : ∀ (n c a : Nat) (td : Nat → Nat), (∀ i, i < 5 → td i ≤ 9999) → ∀ i, i < 5 → (rdG un tl n c a td).2 i ≤ 9999
  | 0, _, _, _, h => h
  | n + 1, c, a, td, h => by
    by_cases ha : tl ≤ a
    · rw [rdG, if_pos ha]; exact h
    · rw [rdG_step un tl n c a td (by omega)]
      unfold rrT
      cases hb : rrB un tl a with
      | some p => exact h
      | none =>
        refine rd_le n (c + 1) _ _ (fun i hi => ?_)
        show va_up td _ _ i ≤ 9999
        unfold va_up
        split
        · exact nuF_le
        · exact h i hi
theorem ru_eq {un nw td mtd : Nat → Nat} {tl : Nat} : (rdG un tl 101 0 0 (cpyN 5 nw td)).1 = (rdG un tl 101 0 0 (upG nw 5 mtd)).1 ∧ nwC (rdG un tl 101 0 0 (cpyN 5 nw td)) nw = nwM (rdG un tl 101 0 0 (upG nw 5 mtd)) nw := by
  obtain ⟨h1, h2⟩ := rd_congr (un := un) (tl := tl) 101 0 0 (cpyN 5 nw td) (upG nw 5 mtd) (fun i hi => by rw [upG_lt _ _ _ _ hi]; unfold cpyN; rw [if_pos hi])
  refine ⟨h1, ?_⟩
  unfold nwC nwM
  rw [← h1]
  cases (rdG un tl 101 0 0 (cpyN 5 nw td)).1 with
  | inr p => rfl
  | inl c =>
    funext i
    show cpyN 5 _ nw i = upG _ 5 nw i
    unfold cpyN
    by_cases hi : i < 5
    · rw [if_pos hi, upG_lt _ _ _ _ hi]; exact h2 i hi
    · rw [if_neg hi, upG_ge _ _ _ _ (by omega)]
theorem nwC_le {un nw td : Nat → Nat} {tl : Nat} (h : ∀ i, i < 5 → nw i ≤ 9999) : ∀ i, i < 5 → nwC (rdG un tl 101 0 0 (cpyN 5 nw td)) nw i ≤ 9999 := by
  intro i hi
  have h2 := rd_le (un := un) (tl := tl) 101 0 0 (cpyN 5 nw td) (fun j hj => by unfold cpyN; rw [if_pos hj]; exact h j hj) i hi
  unfold nwC
  cases (rdG un tl 101 0 0 (cpyN 5 nw td)).1 with
  | inr p => exact h i hi
  | inl c =>
    show cpyN 5 _ nw i ≤ 9999
    unfold cpyN
    rw [if_pos hi]; exact h2
/-! what the calls keep -/
variable {gr nw sp sq sec it ans : Nat → Nat} {stt : Nat → Option Nat} {np ne ns : Nat}
theorem is_id (h : IS np ne ns gr nw sp sq sec it ans stt) : IS np ne ns gr nw sp sq sec (fun i => i) ans stt := by
  obtain ⟨z1, z2, z3, z4, z5, z6, z7, z8, z9, z10, z11, z12, z13⟩ := h
  exact ⟨z1, z2, z3, z4, z5, z6, z7, z8, fun i h => h, z10, z11, z12, z13⟩
theorem is_puzzle {g : Nat} (h : IS np ne ns gr nw sp sq sec it ans stt) (hn : np < 20) (hg : g ≤ 100) : IS (np + 1) ne ns (va_up gr np g) nw sp sq sec it ans stt := by
  obtain ⟨z1, z2, z3, z4, z5, z6, z7, z8, z9, z10, z11, z12, z13⟩ := h
  exact ⟨by omega, z2, z3, fun i hi => by have := z4 i hi; unfold va_up; split <;> omega, z5, z6, fun i hi => by have := z7 i hi; omega, z8, z9, z10, z11, z12, z13⟩
theorem is_person (h : IS np ne ns gr nw sp sq sec it ans stt) (hn : ne < 20) : IS np (ne + 1) ns gr nw sp sq sec it ans (va_up stt ne none) := by
  obtain ⟨z1, z2, z3, z4, z5, z6, z7, z8, z9, z10, z11, z12, z13⟩ := h
  refine ⟨z1, by omega, z3, z4, z5, fun i hi => by have := z6 i hi; omega, z7, z8, z9, z10, fun i hi => ?_, fun i z hi hz => ?_, z13⟩
  · have := z6 i hi
    rw [va_up_ne _ _ (by omega)]; exact z11 i hi
  · by_cases e : i = ne
    · subst e; rw [va_up_self] at hz; cases hz
    · rw [va_up_ne _ _ e] at hz; exact z12 i z hi hz
theorem any_false {P : Nat → Bool} : ∀ n i, anyG P n i = false → ∀ k, i ≤ k → k < i + n → P k = false
  | 0, i, _, k, h1, h2 => by omega
  | n + 1, i, h, k, h1, h2 => by
    rw [anyG] at h
    by_cases q : P i = true
    · rw [if_pos q] at h; cases h
    · rw [if_neg q] at h
      by_cases e : k = i
      · rw [e]; simpa using q
      · exact any_false n (i + 1) h k (by omega) (by omega)
theorem is_start {x y : Nat} (h : IS np ne ns gr nw sp sq sec it ans stt) (hy : y ≤ 1000000) (ha : anyG (fun i => decide (sp i = x ∧ sec i < y)) ns 0 = false) : IS np ne ns gr nw sp sq sec it ans (va_up stt x (some y)) := by
  obtain ⟨z1, z2, z3, z4, z5, z6, z7, z8, z9, z10, z11, z12, z13⟩ := h
  refine ⟨z1, z2, z3, z4, z5, z6, z7, z8, z9, z10, fun i hi => ?_, fun i z hi hz => ?_, z13⟩
  · by_cases e : sp i = x
    · rw [e, va_up_self]
      have := any_false ns 0 ha i (by omega) (by omega)
      simp at this
      exact ⟨y, rfl, by have := this e; omega⟩
    · rw [va_up_ne _ _ e]; exact z11 i hi
  · by_cases e : i = x
    · rw [e, va_up_self] at hz; cases hz; exact hy
    · rw [va_up_ne _ _ e] at hz; exact z12 i z hi hz
theorem is_submit {x y t w s0 : Nat} (h : IS np ne ns gr nw sp sq sec it ans stt) (hn : ns < 300) (hx : x < ne) (hy : y < np) (hw : w < 2 ^ 31) (hs : stt x = some s0) (ht : s0 ≤ t ∧ t ≤ 1000000) (hit : ∀ i, i < ns + 1 → insG (ltT (va_up sec ns t)) ns ns it i < ns + 1) : IS np ne (ns + 1) gr nw (va_up sp ns x) (va_up sq ns y) (va_up sec ns t) (insG (ltT (va_up sec ns t)) ns ns it) (va_up ans ns w) stt := by
  obtain ⟨z1, z2, z3, z4, z5, z6, z7, z8, z9, z10, z11, z12, z13⟩ := h
  refine ⟨z1, z2, by omega, z4, z5, fun i hi => ?_, fun i hi => ?_, fun i hi => ?_, hit, fun i hi => ?_, fun i hi => ?_, z12, fun i hi => ?_⟩
  · unfold va_up; split
    · exact hx
    · exact z6 i (by omega)
  · unfold va_up; split
    · exact hy
    · exact z7 i (by omega)
  · unfold va_up; split
    · omega
    · exact z8 i hi
  · unfold va_up; split
    · exact hw
    · exact z10 i hi
  · by_cases e : i = ns
    · subst e; rw [va_up_self, va_up_self]; exact ⟨s0, hs, ht.1⟩
    · rw [va_up_ne _ _ e, va_up_ne _ _ e]; exact z11 i (by omega)
  · have := z13 i hi
    unfold va_up
    constructor <;> split <;> omega
theorem is_rules {nw' : Nat → Nat} (h : IS np ne ns gr nw sp sq sec it ans stt) (hn : ∀ i, i < 5 → nw' i ≤ 9999) : IS np ne ns gr nw' sp sq sec it ans stt := by
  obtain ⟨z1, z2, z3, z4, z5, z6, z7, z8, z9, z10, z11, z12, z13⟩ := h
  exact ⟨z1, z2, z3, z4, hn, z6, z7, z8, z9, z10, z11, z12, z13⟩
end PURE4
