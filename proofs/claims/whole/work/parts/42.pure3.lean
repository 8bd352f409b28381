/-! PURE3: sums, places, pairs -/
section PURE3
variable {gr nw sp sq sec it ans : Nat → Nat} {rt : Nat → Bool} {stt : Nat → Option Nat} {np ne ns : Nat}
theorem is_sqit (hI : IS np ne ns gr nw sp sq sec it ans stt) : ∀ i, i < ns → sq (it i) < np := fun i hi => by
  obtain ⟨z1, z2, z3, z4, z5, z6, z7, z8, z9, z10, z11, z12, z13⟩ := hI
  exact z7 _ (z9 i hi)
theorem wo_ga (hI : IS np ne ns gr nw sp sq sec it ans stt) (ho : ordB (bfT sec) ns it) (x : Nat) (u : TkS) {y : Nat} (hy : y < 20) : (woF gr nw sp sq sec it rt stt ns x u).2.2.1 y = (ctF nw sp sq sec rt stt ns x y).map (ptV gr nw sp sq sec rt stt ns x y) := by
  rw [((Wk_woF gr nw sp sq sec it rt stt x hI.1 (is_sqit hI) u).1 y hy).2.2]
  exact gaO_ct gr nw sp sq sec it rt stt x ho
theorem sc_ga {x y : Nat} : ((ctF nw sp sq sec rt stt ns x y).map (ptV gr nw sp sq sec rt stt ns x y)).getD 0 = scM gr nw sp sq sec rt stt ns x y := by
  unfold scM
  cases ctF nw sp sq sec rt stt ns x y <;> rfl
theorem wo_sco (hI : IS np ne ns gr nw sp sq sec it ans stt) (ho : ordB (bfT sec) ns it) (x : Nat) (u : TkS) : (woF gr nw sp sq sec it rt stt ns x u).2.2.2.1 x = scA gr nw sp sq sec rt stt ns np x := by
  rw [(Wk_woF gr nw sp sq sec it rt stt x hI.1 (is_sqit hI) u).2.1]
  exact sumF_congr np (fun y _ => by rw [gaO_ct gr nw sp sq sec it rt stt x ho]; exact sc_ga)
theorem wo_tim (hI : IS np ne ns gr nw sp sq sec it ans stt) (ho : ordB (bfT sec) ns it) (x : Nat) (u : TkS) : (woF gr nw sp sq sec it rt stt ns x u).2.2.2.2.1 x = tiA nw sp sq sec rt stt ns np x := by
  rw [(Wk_woF gr nw sp sq sec it rt stt x hI.1 (is_sqit hI) u).2.2.1]
  exact sumF_congr np (fun y _ => tmO_ct nw sp sq sec it rt stt x ho)
theorem wo_cnt (hI : IS np ne ns gr nw sp sq sec it ans stt) (ho : ordB (bfT sec) ns it) (x : Nat) (u : TkS) : (woF gr nw sp sq sec it rt stt ns x u).2.2.2.2.2 x = cntF (hsM nw sp sq sec rt stt ns x) np := by
  rw [(Wk_woF gr nw sp sq sec it rt stt x hI.1 (is_sqit hI) u).2.2.2, cntF_sum]
  exact sumF_congr np (fun y _ => by
    rw [gaO_ct gr nw sp sq sec it rt stt x ho]
    unfold hsM
    cases ctF nw sp sq sec rt stt ns x y <;> rfl)
theorem tk_other {x b i : Nat} (hi : i ≠ x) (u : TkS) : (tkF gr nw sp sq sec rt stt x b u).2.2.2.1 i = u.2.2.2.1 i ∧ (tkF gr nw sp sq sec rt stt x b u).2.2.2.2.1 i = u.2.2.2.2.1 i := by
  unfold tkF
  split
  · exact ⟨rfl, rfl⟩
  · split
    · exact ⟨rfl, rfl⟩
    · split
      · exact ⟨rfl, rfl⟩
      · exact ⟨va_up_ne _ _ hi, va_up_ne _ _ hi⟩
theorem wg_other {x i : Nat} (hi : i ≠ x) : ∀ (n j : Nat) (u : TkS), (woG gr nw sp sq sec it rt stt x n j u).2.2.2.1 i = u.2.2.2.1 i ∧ (woG gr nw sp sq sec it rt stt x n j u).2.2.2.2.1 i = u.2.2.2.2.1 i
  | 0, _, _ => ⟨rfl, rfl⟩
  | n + 1, j, u => by
    rw [woG]
    have h := wg_other hi n (j + 1) (if sp (it j) = x then tkF gr nw sp sq sec rt stt x (it j) u else u)
    rw [h.1, h.2]
    split
    · exact tk_other hi u
    · exact ⟨rfl, rfl⟩
theorem wo_other {x i : Nat} (hi : i ≠ x) (u : TkS) : (woF gr nw sp sq sec it rt stt ns x u).2.2.2.1 i = u.2.2.2.1 i ∧ (woF gr nw sp sq sec it rt stt ns x u).2.2.2.2.1 i = u.2.2.2.2.1 i := by
  have h := wg_other (gr := gr) (nw := nw) (sp := sp) (sq := sq) (sec := sec) (it := it) (rt := rt) (stt := stt) hi ns 0 (upK 0 20 u.1, upK false 20 u.2.1, upK none 20 u.2.2.1, va_up u.2.2.2.1 x 0, va_up u.2.2.2.2.1 x 0, va_up u.2.2.2.2.2 x 0)
  unfold woF
  rw [h.1, h.2]
  exact ⟨va_up_ne _ _ hi, va_up_ne _ _ hi⟩
theorem wa_all (hI : IS np ne ns gr nw sp sq sec it ans stt) (ho : ordB (bfT sec) ns it) (u : TkS) : ∀ k i, (waF gr nw sp sq sec it rt stt ns k u).2.2.2.1 i = (if i < k then scA gr nw sp sq sec rt stt ns np i else u.2.2.2.1 i) ∧ (waF gr nw sp sq sec it rt stt ns k u).2.2.2.2.1 i = (if i < k then tiA nw sp sq sec rt stt ns np i else u.2.2.2.2.1 i)
  | 0, i => ⟨rfl, rfl⟩
  | k + 1, i => by
    have ih := wa_all hI ho u k i
    rw [waF]
    by_cases q : i = k
    · subst q
      rw [wo_sco hI ho, wo_tim hI ho, if_pos (by omega), if_pos (by omega)]
      exact ⟨rfl, rfl⟩
    · rw [(wo_other q _).1, (wo_other q _).2, ih.1, ih.2]
      by_cases z : i < k
      · rw [if_pos z, if_pos (by omega), if_pos z, if_pos (by omega)]; exact ⟨rfl, rfl⟩
      · rw [if_neg z, if_neg (by omega), if_neg z, if_neg (by omega)]; exact ⟨rfl, rfl⟩
theorem wth_le {g s w : Nat} : wth nw g s w ≤ g * nw 0 := by unfold wth; omega
theorem scA_le (hI : IS np ne ns gr nw sp sq sec it ans stt) (x : Nat) : scA gr nw sp sq sec rt stt ns np x ≤ 20000000 := by
  obtain ⟨z1, z2, z3, z4, z5, -⟩ := hI
  have h1 := sumF_le (scM gr nw sp sq sec rt stt ns x) (100 * 9999) np (fun y hy => by
    unfold scM
    split
    · omega
    · unfold ptV
      exact Nat.le_trans wth_le (Nat.mul_le_mul (z4 y (by omega)) (z5 0 (by omega))))
  have h2 : 100 * 9999 * np ≤ 100 * 9999 * 20 := Nat.mul_le_mul_left _ z1
  unfold scA
  omega
theorem tiA_le (hI : IS np ne ns gr nw sp sq sec it ans stt) (x : Nat) : tiA nw sp sq sec rt stt ns np x ≤ 20000000 := by
  obtain ⟨z1, z2, z3, z4, z5, z6, z7, z8, -⟩ := hI
  have h1 := sumF_le (tiM nw sp sq sec rt stt ns x) 1000000 np (fun y hy => by
    unfold tiM
    split
    · omega
    · rename_i c hc
      have := ctF_lt hc
      have := z8 c (by omega)
      unfold sfs
      omega)
  have h2 : 1000000 * np ≤ 1000000 * 20 := Nat.mul_le_mul_left _ z1
  unfold tiA
  omega
theorem cntF_or {P R : Nat → Bool} : ∀ n, (∀ i, i < n → ¬ (P i = true ∧ R i = true)) → cntF (fun i => P i || R i) n = cntF P n + cntF R n
  | 0, _ => rfl
  | n + 1, h => by
    have h1 := cntF_or n (fun i hi => h i (by omega))
    have h2 := h n (by omega)
    unfold cntF
    rw [h1]
    by_cases a : P n = true <;> by_cases b : R n = true
    · exact absurd ⟨a, b⟩ h2
    · simp [a, b]; omega
    · simp [a, b]; omega
    · simp [a, b]
theorem hm_eq {sco tim : Nat → Nat} {t : Bool} {x : Nat} (hx : x ≤ ne) : hmM sco tim ne t x = hmb sco tim ne t x := by
  unfold hmM hmb
  rw [cntF_or ne (fun i _ => ?_)]
  · congr 1
    rw [← cntF_take (P := fun k => alk sco tim t k x) ne hx]
    exact cntF_congr ne (fun i _ => by rw [Bool.and_comm])
  · rintro ⟨a, b⟩
    simp only [Bool.and_eq_true, decide_eq_true_eq] at b
    unfold ahd at a
    unfold alk at b
    simp only [decide_eq_true_eq] at a b
    rcases a with q | ⟨q1, q2, q3⟩
    · omega
    · have := b.2.2 q2
      omega
theorem ahd_congr {sco tim sco' tim' : Nat → Nat} {t : Bool} {a b : Nat} (h1 : sco a = sco' a) (h2 : sco b = sco' b) (h3 : tim a = tim' a) (h4 : tim b = tim' b) : ahd sco tim t a b = ahd sco' tim' t a b := by unfold ahd; rw [h1, h2, h3, h4]
theorem alk_congr {sco tim sco' tim' : Nat → Nat} {t : Bool} {a b : Nat} (h1 : sco a = sco' a) (h2 : sco b = sco' b) (h3 : tim a = tim' a) (h4 : tim b = tim' b) : alk sco tim t a b = alk sco' tim' t a b := by unfold alk; rw [h1, h2, h3, h4]
theorem rank_congr {sco tim sco' tim' : Nat → Nat} {t : Bool} {x : Nat} (hx : x < ne) (h1 : ∀ i, i < ne → sco i = sco' i) (h2 : ∀ i, i < ne → tim i = tim' i) : cntF (fun k => ahd sco tim t k x) ne = cntF (fun k => ahd sco' tim' t k x) ne :=
  cntF_congr ne (fun i hi => ahd_congr (h1 i hi) (h1 x hx) (h2 i hi) (h2 x hx))
theorem hmb_congr {sco tim sco' tim' : Nat → Nat} {t : Bool} {x : Nat} (hx : x < ne) (h1 : ∀ i, i < ne → sco i = sco' i) (h2 : ∀ i, i < ne → tim i = tim' i) : hmb sco tim ne t x = hmb sco' tim' ne t x := by
  unfold hmb
  rw [rank_congr hx h1 h2, cntF_congr x (fun i hi => alk_congr (h1 i (by omega)) (h1 x hx) (h2 i (by omega)) (h2 x hx))]
theorem hmM_lt {sco tim : Nat → Nat} {t : Bool} {x : Nat} (hx : x < ne) : hmM sco tim ne t x < ne := by
  unfold hmM
  refine cntF_lt ne x hx ?_
  simp [ahd]
/-! pairs -/
theorem fstG_true (P : Nat → Bool) : ∀ n i z, fstG P n i = some z → P z = true
  | 0, _, _, h => by cases h
  | n + 1, i, z, h => by
    unfold fstG at h
    split at h
    · rename_i q; cases h; exact q
    · exact fstG_true P n (i + 1) z h
def orO (o p : Option Nat) : Option Nat := match o with
  | some z => some z
  | none => p
theorem twG_eq (a b : Nat) : ∀ (n i : Nat) (tw : Nat → Option Nat), twG sp sq ans rt a n i tw b = orO (tw b) (fstG (fun r => decide (sp r = b) && twn sq ans rt a r) n i)
  | 0, i, tw => by unfold twG fstG; cases tw b <;> rfl
  | n + 1, i, tw => by
    rw [twG, twG_eq a b n (i + 1)]
    by_cases hb : sp i = b
    · subst hb
      by_cases ht : twn sq ans rt a i = true
      · cases hz : tw (sp i) with
        | none =>
          rw [if_pos ⟨rfl, ht⟩, va_up_self, fstG, if_pos (by simp [ht])]
          rfl
        | some z =>
          rw [if_neg (by simp), hz]
          rfl
      · rw [if_neg (fun q => ht q.2)]
        cases hz : tw (sp i) with
        | none =>
          conv => rhs; rw [fstG, if_neg (by simp [ht])]
        | some z => rfl
    · have e : (if tw (sp i) = none ∧ twn sq ans rt a i = true then va_up tw (sp i) (some i) else tw) b = tw b := by
        split
        · exact va_up_ne _ _ (fun q => hb q.symm)
        · rfl
      rw [e]
      cases hz : tw b with
      | none =>
        conv => rhs; rw [fstG, if_neg (by simp [hb])]
      | some z => rfl
theorem fw_tw {a b : Nat} (hr : rt a = false) (tw : Nat → Option Nat) (hb : b < 20) : twG sp sq ans rt a ns 0 (upK none 20 tw) b = fwF sp sq ans rt ns a b := by
  rw [twG_eq, upK_lt _ _ _ _ hb]
  unfold fwF
  rw [if_neg (by rw [hr]; decide)]
  refine fstG_congr ns 0 (fun k _ _ => ?_)
  unfold fwM ofM twn
  by_cases h1 : sp k = b <;> by_cases h2 : sq k = sq a <;> by_cases h3 : ans k = ans a <;> cases rt k <;> simp [h1, h2, h3]
theorem in_im {tw fw : Nat → Option Nat} (a k : Nat) : ∀ (n b c : Nat), (∀ j, b ≤ j → j < b + n → tw j = fw j) → inG tw sec a k n b c = ((imG fw sec a k n b c).1.map Prod.snd, (imG fw sec a k n b c).2)
  | 0, _, _, _ => rfl
  | n + 1, b, c, h => by
    have ih := fun c' => in_im (tw := tw) (fw := fw) a k n (b + 1) c' (fun j h1 h2 => h j (by omega) (by omega))
    rw [inG, imG, h b (by omega) (by omega)]
    cases fw b with
    | none => exact ih c
    | some o =>
      dsimp only
      by_cases q : 60 < dst (sec a) (sec o)
      · rw [if_pos q, if_pos q]; exact ih c
      · rw [if_neg q, if_neg q]
        by_cases z : c = k
        · rw [if_pos z, if_pos z]; rfl
        · rw [if_neg z, if_neg z]; exact ih (c + 1)
theorem im_none {fw : Nat → Option Nat} (a k : Nat) : ∀ (n b c : Nat), (∀ j, b ≤ j → j < b + n → fw j = none) → imG fw sec a k n b c = (none, c)
  | 0, _, _, _ => rfl
  | n + 1, b, c, h => by
    rw [imG, h b (by omega) (by omega)]
    exact im_none a k n (b + 1) c (fun j h1 h2 => h j (by omega) (by omega))
theorem im_fw {fw : Nat → Option Nat} (a k : Nat) : ∀ (n b c : Nat) (q : Nat × Nat), (imG fw sec a k n b c).1 = some q → fw q.1 = some q.2
  | 0, _, _, _, h => by cases h
  | n + 1, b, c, q, h => by
    rw [imG] at h
    cases hb : fw b with
    | none => rw [hb] at h; exact im_fw a k n (b + 1) c q h
    | some o =>
      rw [hb] at h
      dsimp only at h
      split at h
      · exact im_fw a k n (b + 1) c q h
      · split at h
        · cases h; exact hb
        · exact im_fw a k n (b + 1) (c + 1) q h
theorem su_sm (k : Nat) (hne : ne ≤ 20) : ∀ (n a c : Nat) (tw : Nat → Option Nat), (suG sp sq sec ans rt ne ns k n a c tw).1 = (smG sp sq sec ans rt ne ns k n a c).map (fun q => (q.1, q.2.2)) ∧ ∀ q, smG sp sq sec ans rt ne ns k n a c = some q → sp q.2.2 = q.2.1
  | 0, _, _, _ => ⟨rfl, fun q h => by cases h⟩
  | n + 1, a, c, tw => by
    rw [suG, smG]
    by_cases hr : rt a = true
    · rw [if_pos hr, im_none a k _ _ c (fun j _ _ => by unfold fwF; rw [if_pos hr])]
      exact su_sm k hne n (a + 1) c tw
    · have hf : rt a = false := by simpa using hr
      rw [if_neg hr, in_im (fw := fwF sp sq ans rt ns a) a k _ _ c (fun j h1 h2 => fw_tw hf tw (by omega))]
      cases hi : imG (fwF sp sq ans rt ns a) sec a k (ne - (sp a + 1)) (sp a + 1) c with
      | mk r c' =>
        cases r with
        | none => exact su_sm k hne n (a + 1) c' _
        | some q =>
          refine ⟨rfl, fun q' h' => ?_⟩
          cases h'
          have h1 := im_fw (fw := fwF sp sq ans rt ns a) a k _ _ c q (by rw [hi])
          unfold fwF at h1
          rw [if_neg hr] at h1
          have h2 := fstG_true _ _ _ _ h1
          unfold fwM ofM at h2
          simp at h2
          exact h2.1.1
theorem su_eq (k w : Nat) (hne : ne ≤ 20) (tw : Nat → Option Nat) : (suG sp sq sec ans rt ne ns k ns 0 0 tw).1.map (fun q => tlF sp sq sec q.1 q.2 w) = (smG sp sq sec ans rt ne ns k ns 0 0).map (fun q => tlM sp sq q.1 q.2.1 (dst (sec q.1) (sec q.2.2)) w) := by
  obtain ⟨h1, h2⟩ := su_sm (sp := sp) (sq := sq) (sec := sec) (ans := ans) (rt := rt) (ns := ns) k hne ns 0 0 tw
  rw [h1]
  cases hs : smG sp sq sec ans rt ne ns k ns 0 0 with
  | none => rfl
  | some q =>
    have := h2 q hs
    show some (tlF sp sq sec q.1 q.2.2 w) = some (tlM sp sq q.1 q.2.1 _ w)
    unfold tlF tlM
    rw [this]
end PURE3
