/-! SPEC4: what the reference's methods compute -/
section SPEC4
def ahM (sec : Nat → Nat) (a b : Nat) : Bool := decide (sec a < sec b ∨ (sec a = sec b ∧ a < b))
def ofM (sp sq : Nat → Nat) (x y r : Nat) : Bool := decide (sp r = x ∧ sq r = y)
def bsG (sp sq sec : Nat → Nat) (rt : Nat → Bool) (x y : Nat) : Nat → Nat → Option Nat → Option Nat
  | 0, _, b => b
  | n + 1, i, b => bsG sp sq sec rt x y n (i + 1) (if ofM sp sq x y i = true ∧ rt i = true ∧ (b = none ∨ ahM sec i (b.getD 0) = true) then some i else b)
theorem bsG_lt (sp sq sec : Nat → Nat) (rt : Nat → Bool) (x y : Nat) : ∀ (n i : Nat) (b : Option Nat) (N : Nat), i + n ≤ N → (∀ z, b = some z → z < N) → ∀ z, bsG sp sq sec rt x y n i b = some z → z < N
  | 0, _, _, _, _, h => h
  | n + 1, i, b, N, hN, h => by
    intro z hz
    unfold bsG at hz
    refine bsG_lt sp sq sec rt x y n (i + 1) _ N (by omega) ?_ z hz
    intro w hw
    split at hw
    · cases hw; omega
    · exact h w hw
def ctF (nw sp sq sec : Nat → Nat) (rt : Nat → Bool) (stt : Nat → Option Nat) (ns x y : Nat) : Option Nat :=
  match bsG sp sq sec rt x y ns 0 none with
  | none => none
  | some b => if nw 3 < sfs sec sp stt b then none else some b
theorem ctF_lt {nw sp sq sec : Nat → Nat} {rt : Nat → Bool} {stt : Nat → Option Nat} {ns x y c : Nat} (h : ctF nw sp sq sec rt stt ns x y = some c) : c < ns := by
  unfold ctF at h
  split at h
  · cases h
  · rename_i b hb
    split at h
    · cases h
    · cases h
      exact bsG_lt sp sq sec rt x y ns 0 none ns (by omega) (fun z hz => by cases hz) _ hb
def wrM (sp sq sec : Nat → Nat) (rt : Nat → Bool) (x y c r : Nat) : Bool := decide (ofM sp sq x y r = true ∧ rt r = false ∧ ahM sec r c = true)
def ptV (gr nw sp sq sec : Nat → Nat) (rt : Nat → Bool) (stt : Nat → Option Nat) (ns x y c : Nat) : Nat := wth nw (gr y) (sfs sec sp stt c) (cntF (wrM sp sq sec rt x y c) ns)
def sumF (f : Nat → Nat) : Nat → Nat
  | 0 => 0
  | k + 1 => sumF f k + f k
def scM (gr nw sp sq sec : Nat → Nat) (rt : Nat → Bool) (stt : Nat → Option Nat) (ns x y : Nat) : Nat := match ctF nw sp sq sec rt stt ns x y with
  | none => 0
  | some c => ptV gr nw sp sq sec rt stt ns x y c
def tiM (nw sp sq sec : Nat → Nat) (rt : Nat → Bool) (stt : Nat → Option Nat) (ns x y : Nat) : Nat := match ctF nw sp sq sec rt stt ns x y with
  | none => 0
  | some c => sfs sec sp stt c
def hsM (nw sp sq sec : Nat → Nat) (rt : Nat → Bool) (stt : Nat → Option Nat) (ns x y : Nat) : Bool := (ctF nw sp sq sec rt stt ns x y).isSome
def upG {α : Type} (g : Nat → α) : Nat → (Nat → α) → Nat → α
  | 0, f => f
  | k + 1, f => va_up (upG g k f) k (g k)
theorem upG_lt {α : Type} (g : Nat → α) : ∀ (n : Nat) (f : Nat → α) (i : Nat), i < n → upG g n f i = g i
  | 0, _, _, h => absurd h (Nat.not_lt_zero _)
  | n + 1, f, i, h => by
    unfold upG va_up
    by_cases q : i = n
    · rw [if_pos q, q]
    · rw [if_neg q]; exact upG_lt g n f i (by omega)
theorem upG_ge {α : Type} (g : Nat → α) : ∀ (n : Nat) (f : Nat → α) (i : Nat), n ≤ i → upG g n f i = f i
  | 0, _, _, _ => rfl
  | n + 1, f, i, h => by
    unfold upG va_up
    rw [if_neg (by omega)]; exact upG_ge g n f i (by omega)
abbrev scA (gr nw sp sq sec : Nat → Nat) (rt : Nat → Bool) (stt : Nat → Option Nat) (ns np x : Nat) : Nat := sumF (scM gr nw sp sq sec rt stt ns x) np
abbrev tiA (nw sp sq sec : Nat → Nat) (rt : Nat → Bool) (stt : Nat → Option Nat) (ns np x : Nat) : Nat := sumF (tiM nw sp sq sec rt stt ns x) np
def hmM (sco tim : Nat → Nat) (ne : Nat) (t : Bool) (x : Nat) : Nat := cntF (fun q => ahd sco tim t q x || (decide (q < x) && alk sco tim t q x)) ne
def fwM (sp sq ans : Nat → Nat) (rt : Nat → Bool) (x y w r : Nat) : Bool := decide (ofM sp sq x y r = true ∧ rt r = false ∧ ans r = w)
def imG (fw : Nat → Option Nat) (sec : Nat → Nat) (a k : Nat) : Nat → Nat → Nat → Option (Nat × Nat) × Nat
  | 0, _, c => (none, c)
  | n + 1, b, c => match fw b with
    | none => imG fw sec a k n (b + 1) c
    | some o => if 60 < dst (sec a) (sec o) then imG fw sec a k n (b + 1) c else if c = k then (some (b, o), c) else imG fw sec a k n (b + 1) (c + 1)
abbrev fwF (sp sq ans : Nat → Nat) (rt : Nat → Bool) (ns a b : Nat) : Option Nat := if rt a = true then none else fstG (fwM sp sq ans rt b (sq a) (ans a)) ns 0
def smG (sp sq sec ans : Nat → Nat) (rt : Nat → Bool) (ne ns k : Nat) : Nat → Nat → Nat → Option (Nat × Nat × Nat)
  | 0, _, _ => none
  | n + 1, a, c => match imG (fwF sp sq ans rt ns a) sec a k (ne - (sp a + 1)) (sp a + 1) c with
    | (some q, _) => some (a, q)
    | (none, c') => smG sp sq sec ans rt ne ns k n (a + 1) c'
def tlM (sp sq : Nat → Nat) (a b f w : Nat) : Nat := if w = 0 then sp a else if w = 1 then b else if w = 2 then sq a else f
theorem fstG_lt (P : Nat → Bool) : ∀ (n i : Nat) (z : Nat), fstG P n i = some z → i ≤ z ∧ z < i + n
  | 0, _, _, h => by cases h
  | n + 1, i, z, h => by
    unfold fstG at h
    split at h
    · cases h; omega
    · have := fstG_lt P n (i + 1) z h; omega
def nxG (gr : Nat → Nat) (ip : Nat → Bool) : Nat → Nat → Option Nat → Option Nat
  | 0, _, b => b
  | n + 1, k, b => nxG gr ip n (k + 1) (if ip k = false ∧ (b = none ∨ gr (b.getD 0) < gr k) then some k else b)
theorem nxG_lt (gr : Nat → Nat) (ip : Nat → Bool) : ∀ (n i : Nat) (b : Option Nat) (N : Nat), i + n ≤ N → (∀ z, b = some z → z < N ∧ ip z = false) → ∀ z, nxG gr ip n i b = some z → z < N ∧ ip z = false
  | 0, _, _, _, _, h => h
  | n + 1, i, b, N, hN, h => by
    intro z hz
    unfold nxG at hz
    refine nxG_lt gr ip n (i + 1) _ N (by omega) ?_ z hz
    intro w hw
    split at hw
    · rename_i hc; cases hw; exact ⟨by omega, hc.1⟩
    · exact h w hw
theorem nxG_some (gr : Nat → Nat) (ip : Nat → Bool) : ∀ (n i : Nat) (b : Option Nat), (b ≠ none ∨ ∃ k, i ≤ k ∧ k < i + n ∧ ip k = false) → nxG gr ip n i b ≠ none
  | 0, i, b, h => by
    rcases h with h | ⟨k, h1, h2, _⟩
    · exact h
    · omega
  | n + 1, i, b, h => by
    unfold nxG
    apply nxG_some gr ip n (i + 1)
    split
    · left; simp
    · rename_i hc
      rcases h with h | ⟨k, h1, h2, h3⟩
      · left; exact h
      · by_cases q : k = i
        · subst q
          left
          intro hb
          exact hc ⟨h3, Or.inl hb⟩
        · right; exact ⟨k, by omega, by omega, h3⟩
abbrev nxF (gr : Nat → Nat) (ip : Nat → Bool) (np : Nat) : Option Nat := nxG gr ip np 0 none
def evG (gr : Nat → Nat) (np sets q : Nat) : Nat → Nat → (Nat → Nat) → (Nat → Nat) → (Nat → Bool) → Nat × (Nat → Nat) × (Nat → Nat) × (Nat → Bool)
  | 0, t, ss, sc, ip => (t, ss, sc, ip)
  | n + 1, t, ss, sc, ip => if ip q = true then (t, ss, sc, ip) else
    evG gr np sets q n (lsF ss sc sets) (va_up ss (lsF ss sc sets) (ss (lsF ss sc sets) + gr ((nxF gr ip np).getD 0))) (va_up sc (lsF ss sc sets) (sc (lsF ss sc sets) + 1)) (va_up ip ((nxF gr ip np).getD 0) true)
theorem cnt_put (ip : Nat → Bool) (k : Nat) (hk : ip k = false) : ∀ n, k < n → cntF (fun j => !(va_up ip k true j)) n + 1 = cntF (fun j => !(ip j)) n
  | 0, h => absurd h (Nat.not_lt_zero _)
  | n + 1, h => by
    unfold cntF
    by_cases q : k = n
    · subst q
      have e : ∀ m, m ≤ k → cntF (fun j => !(va_up ip k true j)) m = cntF (fun j => !(ip j)) m := by
        intro m
        induction m with
        | zero => intro _; rfl
        | succ m ih =>
          intro hm
          unfold cntF
          rw [ih (by omega), va_up_ne _ _ (by omega)]
      rw [e k (Nat.le_refl k), va_up_self, hk]
      simp
    · have := cnt_put ip k hk n (by omega)
      rw [va_up_ne _ _ (fun e => q e.symm)]
      omega
theorem cnt_ip {ip : Nat → Bool} {k n : Nat} (hk : ip k = false) (h : k < n) : 0 < cntF (fun j => !(ip j)) n := by
  have := cnt_put ip k hk n h
  omega
def cbG (g : Nat) : Nat → (Nat → Bool) → Nat → Bool
  | 0, f => f
  | v + 1, f => if v + 1 < g then f else cbG g v (va_up f (v + 1) (f (v + 1) || f (v + 1 - g)))
def cbA (gr : Nat → Nat) : Nat → (Nat → Bool) → Nat → Bool
  | 0, f => f
  | k + 1, f => cbG (gr k) 2000 (cbA gr k f)
theorem cbG_0 (g : Nat) (hg : 1 ≤ g) : ∀ (v : Nat) (f : Nat → Bool), cbG g v f 0 = f 0
  | 0, _ => rfl
  | v + 1, f => by
    unfold cbG
    split
    · rfl
    · rw [cbG_0 g hg v, va_up_ne _ _ (by omega)]
theorem cbA_0 (gr : Nat → Nat) : ∀ (n : Nat) (f : Nat → Bool), (∀ i, i < n → 1 ≤ gr i) → cbA gr n f 0 = f 0
  | 0, _, _ => rfl
  | n + 1, f, h => by
    unfold cbA
    rw [cbG_0 _ (h n (by omega)), cbA_0 gr n f (fun i hi => h i (by omega))]
theorem sumF_le (f : Nat → Nat) (m : Nat) : ∀ n, (∀ i, i < n → f i ≤ m) → sumF f n ≤ m * n
  | 0, _ => by simp [sumF]
  | n + 1, h => by
    have h1 := sumF_le f m n (fun i hi => h i (by omega))
    have h2 := h n (by omega)
    unfold sumF
    rw [Nat.mul_succ]
    omega
def rdR (r : Nat ⊕ Nat) : Int32 := match r with
  | .inl c => nI c
  | .inr p => (-1) - nI p
/-- one rule, read from place f on: the place of refusal, or none -/
def rrB (un : Nat → Nat) (tl f : Nat) : Option Nat := match letF (un f) with
  | none => some f
  | some z => if eoF un tl f = f + 1 then some (f + 1) else if z = 4 ∧ 1 < nuF un tl f then some (eoF un tl f - 1) else if tl ≤ eoF un tl f ∨ un (eoF un tl f) ≠ 59 then some (eoF un tl f) else none
def rrT (un : Nat → Nat) (tl f : Nat) (td : Nat → Nat) : Nat → Nat := match rrB un tl f with
  | some _ => td
  | none => va_up td ((letF (un f)).getD 0) (nuF un tl f)
theorem rdG_step (un : Nat → Nat) (tl n c a : Nat) (td : Nat → Nat) (h : a < tl) : rdG un tl (n + 1) c a td = match rrB un tl a with
  | some p => (.inr p, td)
  | none => rdG un tl n (c + 1) (eoF un tl a + 1) (rrT un tl a td) := by
  conv => lhs; rw [rdG]
  unfold rrT rrB
  rw [if_neg (by omega)]
  cases hl : letF (un a) with
  | none => rfl
  | some z =>
    dsimp only
    by_cases h1 : eoF un tl a = a + 1
    · simp only [if_pos h1]
    · simp only [if_neg h1]
      by_cases h2 : z = 4 ∧ 1 < nuF un tl a
      · simp only [if_pos h2]
      · simp only [if_neg h2]
        by_cases h3 : tl ≤ eoF un tl a ∨ un (eoF un tl a) ≠ 59
        · simp only [if_pos h3]
        · simp only [if_neg h3]; rfl
theorem eod_ge (un : Nat → Nat) (tl fr : Nat) : ∀ n e, e ≤ eodG un tl fr n e
  | 0, _ => Nat.le_refl _
  | n + 1, e => by
    unfold eodG
    split
    · have := eod_ge un tl fr n (e + 1); omega
    · exact Nat.le_refl _
theorem eod_le (un : Nat → Nat) (tl fr : Nat) : ∀ n e, e ≤ fr + 4 → eodG un tl fr n e ≤ fr + 4
  | 0, _, h => h
  | n + 1, e, h => by
    unfold eodG
    split
    · rename_i q; exact eod_le un tl fr n (e + 1) (by omega)
    · exact h
theorem eod_dig (un : Nat → Nat) (tl fr : Nat) : ∀ n e i, e ≤ i → i < eodG un tl fr n e → i < tl ∧ 48 ≤ un i ∧ un i ≤ 57
  | 0, e, i, h1, h2 => by unfold eodG at h2; omega
  | n + 1, e, i, h1, h2 => by
    unfold eodG at h2
    split at h2
    · rename_i q
      by_cases z : i = e
      · subst z; omega
      · exact eod_dig un tl fr n (e + 1) i (by omega) h2
    · omega
theorem num_snoc (un : Nat → Nat) : ∀ n i v, numG un (n + 1) i v = numG un n i v * 10 + (un (i + n) - 48)
  | 0, i, v => rfl
  | n + 1, i, v => by
    show numG un (n + 1) (i + 1) (v * 10 + (un i - 48)) = numG un n (i + 1) (v * 10 + (un i - 48)) * 10 + _
    rw [num_snoc un n (i + 1), show i + 1 + n = i + (n + 1) by omega]
theorem let_lt {u z : Nat} (h : letF u = some z) : z < 5 := by
  unfold letF at h
  split at h
  · cases h; omega
  · split at h
    · cases h; omega
    · split at h
      · cases h; omega
      · split at h
        · cases h; omega
        · split at h
          · cases h; omega
          · cases h
theorem let_none {u : Nat} (h : u ≠ 68 ∧ u ≠ 70 ∧ u ≠ 80 ∧ u ≠ 84 ∧ u ≠ 87) : letF u = none := by
  unfold letF
  rw [if_neg (by omega), if_neg (by omega), if_neg (by omega), if_neg (by omega), if_neg (by omega)]
def rrM (un : Nat → Nat) (tl f : Nat) (bd : Option Nat) : Option Nat := match rrB un tl f with
  | some p => some p
  | none => bd
theorem num_le (un : Nat → Nat) : ∀ n i, (∀ j, i ≤ j → j < i + n → un j ≤ 57) → numG un n i 0 < 10 ^ n
  | 0, _, _ => Nat.zero_lt_one
  | n + 1, i, h => by
    rw [num_snoc]
    have h1 := num_le un n i (fun j a b => h j a (by omega))
    have h2 := h (i + n) (by omega) (by omega)
    rw [Nat.pow_succ]
    omega
theorem nuF_le {un : Nat → Nat} {tl f : Nat} : nuF un tl f ≤ 9999 := by
  have h1 := eod_ge un tl (f + 1) 5 (f + 1)
  have h2 := eod_le un tl (f + 1) 5 (f + 1) (by omega)
  have h3 := num_le un (eoF un tl f - (f + 1)) (f + 1) (fun j a b => (eod_dig un tl (f + 1) 5 (f + 1) j a (by unfold eoF at b; omega)).2.2)
  have h4 : eoF un tl f - (f + 1) ≤ 4 := by unfold eoF; omega
  have h5 : 10 ^ (eoF un tl f - (f + 1)) ≤ 10 ^ 4 := Nat.pow_le_pow_right (by decide) h4
  unfold nuF
  omega
theorem wth_ge {nw : Nat → Nat} {g x w : Nat} (hg : g ≤ 100) (hx : x ≤ 1000000) (hw : w ≤ 300) (h0 : nw 0 ≤ 9999) (h1 : nw 1 ≤ 9999) (h2 : nw 2 ≤ 9999) : (lN (g * nw 0) - lN (g * nw 1 * (x / 60)) - lN (nw 2 * w)).toInt = ((g * nw 0 : Nat) : Int) - (g * nw 1 * (x / 60) : Nat) - (nw 2 * w : Nat) := by
  have b1 : g * nw 0 ≤ 100 * 9999 := Nat.mul_le_mul hg h0
  have b2 : g * nw 1 * (x / 60) ≤ 100 * 9999 * 16667 := mul_le3 hg h1 (by omega)
  have b3 : nw 2 * w ≤ 9999 * 300 := Nat.mul_le_mul h2 hw
  generalize g * nw 0 = a at *
  generalize g * nw 1 * (x / 60) = b at *
  generalize nw 2 * w = c at *
  rw [show (lN a - lN b - lN c) = Int64.ofInt ((a : Int) - b - c) by rw [lN_ofInt, lN_ofInt, lN_ofInt, Int64.ofInt_sub, Int64.ofInt_sub], Int64.toInt_ofInt_of_le (by omega) (by omega)]
theorem wth_pos {nw : Nat → Nat} {g x w : Nat} (hg : g ≤ 100) (hx : x ≤ 1000000) (hw : w ≤ 300) (h0 : nw 0 ≤ 9999) (h1 : nw 1 ≤ 9999) (h2 : nw 2 ≤ 9999) (h : 0 ≤ (lN (g * nw 0) - lN (g * nw 1 * (x / 60)) - lN (nw 2 * w)).toInt) : lN (g * nw 0) - lN (g * nw 1 * (x / 60)) - lN (nw 2 * w) = lN (wth nw g x w) := by
  have e := wth_max hg hx hw h0 h1 h2
  rw [if_neg (fun q => by have := Int64.lt_iff_toInt_lt.mp q; rw [show (lN 0).toInt = 0 by decide +kernel] at this; omega)] at e
  exact e
theorem wth_neg {nw : Nat → Nat} {g x w : Nat} (hg : g ≤ 100) (hx : x ≤ 1000000) (hw : w ≤ 300) (h0 : nw 0 ≤ 9999) (h1 : nw 1 ≤ 9999) (h2 : nw 2 ≤ 9999) (h : (lN (g * nw 0) - lN (g * nw 1 * (x / 60)) - lN (nw 2 * w)).toInt < 0) : lN 0 = lN (wth nw g x w) := by
  have e := wth_max hg hx hw h0 h1 h2
  rw [if_pos (Int64.lt_iff_toInt_lt.mpr (by rw [show (lN 0).toInt = 0 by decide +kernel]; exact h))] at e
  exact e
end SPEC4
