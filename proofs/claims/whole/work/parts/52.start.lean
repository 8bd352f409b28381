theorem ky_Top : Cond.instantiable "ContestRows" 9 ∈ TBL := TBL_t (List.mem_append_left _ (List.mem_of_getElem? (i := 16) rfl)) rfl
theorem ky_Model : Cond.instantiable "ContestRowsModel" 22 ∈ TBL := TBL_t (List.mem_append_right _ (List.mem_append_right _ (List.mem_of_getElem? (i := 12) rfl))) rfl
theorem kx_Law_7 : Cond.classLink "ContestRowsLaw" 7 "ContestRows" ∈ TBL := TBL_t (List.mem_append_left _ (List.mem_of_getElem? (i := 15) rfl)) rfl
theorem kx_Law_10 : Cond.classLink "ContestRowsLaw" 10 "ContestRowsModel" ∈ TBL := TBL_t (List.mem_append_right _ (List.mem_append_right _ (List.mem_of_getElem? (i := 11) rfl))) rfl
theorem kb_Top_init : Cond.code y_Top_init b_Top_init 1 none ∈ TBL := TBL_t (List.mem_append_left _ (List.mem_of_getElem? (i := 19) rfl)) rfl
theorem km_Law_9 : Cond.methodLink "ContestRowsLaw" 9 y_Top_init ∈ TBL := TBL_t (List.mem_append_left _ (List.mem_of_getElem? (i := 17) rfl)) rfl
theorem ki_Top_init : Cond.instanceMethod y_Top_init ∈ TBL := TBL_t (List.mem_append_left _ (List.mem_of_getElem? (i := 18) rfl)) rfl
theorem cw_Law_9 : Cw "ContestRowsLaw" 9 y_Top_init b_Top_init 1 none 0 := ⟨kb_Top_init, kn_Top, km_Law_9, by decide +kernel⟩
theorem kb_Model_init : Cond.code y_Model_init b_Model_init 1 none ∈ TBL := TBL_t (List.mem_append_right _ (List.mem_append_right _ (List.mem_of_getElem? (i := 15) rfl))) rfl
theorem km_Law_12 : Cond.methodLink "ContestRowsLaw" 12 y_Model_init ∈ TBL := TBL_t (List.mem_append_right _ (List.mem_append_right _ (List.mem_of_getElem? (i := 13) rfl))) rfl
theorem ki_Model_init : Cond.instanceMethod y_Model_init ∈ TBL := TBL_t (List.mem_append_right _ (List.mem_append_right _ (List.mem_of_getElem? (i := 14) rfl))) rfl
theorem cw_Law_12 : Cw "ContestRowsLaw" 12 y_Model_init b_Model_init 1 none 0 := ⟨kb_Model_init, kn_Model, km_Law_12, by decide +kernel⟩
theorem nw0_eq : ((va_up (va_up (va_up (va_up (va_up (fun _ => 0) 0 100) 1 0) 2 0) 3 3600) 4 1) : Nat → Nat) = (va_up (va_up (va_up (fun _ => 0) 0 100) 3 3600) 4 1) := by
  funext j
  by_cases h4 : j = 4
  · subst h4; rfl
  by_cases h3 : j = 3
  · subst h3; rfl
  by_cases h2 : j = 2
  · subst h2; rfl
  by_cases h1 : j = 1
  · subst h1; rfl
  simp only [va_up, h4, h3, h2, h1, if_false]
theorem nw0_le : ∀ i, i < 5 → ((va_up (va_up (va_up (fun _ => 0) 0 100) 3 3600) 4 1) : Nat → Nat) i ≤ 9999 := by decide +kernel
theorem sumF_0 : ∀ n, sumF (fun _ => 0) n = 0
  | 0 => rfl
  | n + 1 => by show sumF _ n + 0 = 0; rw [sumF_0 n]
theorem InvW0 (h hm : Nat → Nat) (cI cZ cJ : ClassId) : InvW h hm cI cZ cJ (w_All h cI cZ cJ (fun _ => 0) (fun _ => false) (fun _ => some 0) (fun _ => some 0) 0 0 (fun _ => 0) (fun _ => 0) (fun _ => false) (fun _ => 0) (fun _ => 0) 0 (fun _ => some 0) (fun _ => 0) (fun _ => 0) (fun _ => 0) 0 (fun _ => 0) (fun _ => 0) (fun _ => 0) (fun _ => false) (fun _ => 0) (fun _ => 0) 0 (fun _ => 0) (va_up (va_up (va_up (va_up (va_up (fun _ => 0) 0 100) 1 0) 2 0) 3 3600) 4 1) (va_up (va_up (va_up (va_up (va_up (fun _ => 0) 0 100) 1 0) 2 0) 3 3600) 4 1)) (w_M hm cI cZ cJ 0 0 0 0 0 (some 0) (fun _ => 0) (fun _ => some 0) (fun _ => 0) (fun _ => 0) (fun _ => 0) (fun _ => 0) (fun _ => false) (va_up (va_up (va_up (fun _ => 0) 0 100) 3 3600) 4 1) (fun _ => 0) (fun _ => 0) (fun _ => 0) (fun _ => 0) (fun _ => false) (fun _ => false) (fun _ => 0) (fun _ => 0)) := by
  rw [nw0_eq]
  refine ⟨_, _, _, _, _, _, _, _, _, _, _, _, _, _, _, _, _, _, _, _, _, _, _, _, _, _, _, _, _, _, _, _, _, _, _, _, rfl, rfl, ?_⟩
  refine ⟨⟨Nat.zero_le _, Nat.zero_le _, Nat.zero_le _, fun _ _ => Nat.zero_le _, nw0_le, fun i h => absurd h (Nat.not_lt_zero _), fun i h => absurd h (Nat.not_lt_zero _), fun _ _ => Nat.zero_le _, fun i h => absurd h (Nat.not_lt_zero _), fun _ _ => Nat.two_pow_pos _, fun i h => absurd h (Nat.not_lt_zero _), fun i z _ h => by cases h; exact Nat.zero_le _, fun _ _ => ⟨Nat.zero_lt_succ 19, Nat.zero_lt_succ 19⟩⟩, ordB_0, ordB_0, ⟨fun _ _ _ => rfl, fun h => absurd h (Nat.lt_irrefl _)⟩, rfl, fun i h => absurd h (Nat.not_lt_zero _), Nat.zero_le _, fun _ _ => Nat.zero_le _, fun _ _ => Nat.two_pow_pos _, fun _ _ => Nat.two_pow_pos _, fun _ _ => Nat.two_pow_pos _, fun _ _ => Nat.two_pow_pos _⟩
theorem arr_of {args : Array Value} {s : State} {ty : FieldType} (hp : ∀ C, ty ≠ .object C) (h : (Cond.arrayClass ty).before args s = true) : ∃ cA : ClassId, ArrOfT s cA ty ∧ va_RA s cA ty := by
  obtain ⟨cA, kA, comp, h1, h2, h3⟩ := Cond.arrayClass_spec h
  refine ⟨cA, fun n z => ⟨fun k h => (by cases h), kA, h2, comp, h3⟩, ?_⟩
  cases ty with
  | object C => exact absurd rfl (hp C)
  | _ => exact h1
/-- the string constant and the JDK's static, at the start -/
theorem start_J {s : State} {b : Nat} (hts : ∀ w ∈ lw_tbl, w.before #[Value.ref b] s = true) (hgv : (Jvm.Cond.and given_1 narrow_1).before #[Value.ref b] s = true) : ∃ aK aV : Nat, JX aK aV (fun q : Nat => s.heap.size ≤ q) s := by
  have hfl := flat_of_before _ hgv
  have hA : ∀ a : Nat, a < s.heap.size → ¬ (fun q : Nat => s.heap.size ≤ q) a := fun a h q => absurd h (Nat.not_lt.mpr q)
  obtain ⟨adK, adV, hS, hev⟩ := vk_Sof (args := #[Value.ref b]) (s := s) (N := 1) (tm := fun _ => Term.string "ContestRows$RuleText" 22) (len := [5]) (byt := [[80, 70, 87, 68, 84]]) (A := (fun q : Nat => s.heap.size ≤ q))
    (fun i hi => by have h0 : i = 0 := by omega
                    subst h0; decide)
    (fun i hi => hfl (.exactly (Term.string "ContestRows$RuleText" 22) "java/lang/String") (by decide +kernel))
    (fun i hi => hfl (.eq (.field (Term.string "ContestRows$RuleText" 22) "java/lang/String" "coder" "B") (.int 0)) (by decide +kernel))
    (fun i hi => hfl (.arrayOf (Term.field (Term.string "ContestRows$RuleText" 22) "java/lang/String" "value" "[B") .byte) (by decide +kernel))
    (fun i hi => by
      have h0 : i = 0 := by omega
      subst h0
      exact hfl (.eq (.length (Term.field (Term.string "ContestRows$RuleText" 22) "java/lang/String" "value" "[B")) (.int 5)) (by decide +kernel))
    (fun i hi j hj => by
      have h0 : i = 0 := by omega
      subst h0
      have hj5 : j < 5 := hj
      rcases (show j = 0 ∨ j = 1 ∨ j = 2 ∨ j = 3 ∨ j = 4 by omega) with rfl | rfl | rfl | rfl | rfl
      · exact hfl (.eq (.elem (Term.field (Term.string "ContestRows$RuleText" 22) "java/lang/String" "value" "[B") (.int 0)) (.int 80)) (by decide +kernel)
      · exact hfl (.eq (.elem (Term.field (Term.string "ContestRows$RuleText" 22) "java/lang/String" "value" "[B") (.int 1)) (.int 70)) (by decide +kernel)
      · exact hfl (.eq (.elem (Term.field (Term.string "ContestRows$RuleText" 22) "java/lang/String" "value" "[B") (.int 2)) (.int 87)) (by decide +kernel)
      · exact hfl (.eq (.elem (Term.field (Term.string "ContestRows$RuleText" 22) "java/lang/String" "value" "[B") (.int 3)) (.int 68)) (by decide +kernel)
      · exact hfl (.eq (.elem (Term.field (Term.string "ContestRows$RuleText" 22) "java/lang/String" "value" "[B") (.int 4)) (.int 84)) (by decide +kernel))
    (fun i j hi hj h => absurd (show i = j by omega) h) hA
  refine ⟨adK 0, adV 0, vk_R.of (hts (Cond.stringRef "ContestRows$RuleText" 22 "PFWDT") (List.mem_append_right _ (List.mem_append_left _ (List.mem_of_getElem? (i := 217) rfl)))) (hev 0 (by decide)), ⟨fun i hi => ?_, fun i j hi hj _ => by omega⟩, ?_⟩
  · have h0 : i = 0 := by omega
    subst h0
    exact hS.1 0 hi
  · exact va_Zof (hts (Cond.laysStatic "java/lang/String" "COMPACT_STRINGS" "Z") (List.mem_append_right _ (List.mem_append_left _ (List.mem_of_getElem? (i := 231) rfl)))) (hts (Cond.initialized "java/lang/String") (List.mem_append_right _ (List.mem_append_left _ (List.mem_of_getElem? (i := 9) rfl)))) (va_eqi (hfl (.eq (.static "java/lang/String" "COMPACT_STRINGS" "Z") (.int 1)) (by decide +kernel))) hA
theorem start_NX {s : State} {b : Nat} (hts : ∀ w ∈ lw_tbl, w.before #[Value.ref b] s = true) : NX s := ⟨va_Nw.of rfl (hts (Cond.methodLinkNest "ContestRows" 9 y_Puzzles_init "ContestRows") (List.mem_append_right _ (List.mem_append_left _ (List.mem_of_getElem? (i := 25) rfl)))), va_Nw.of rfl (hts (Cond.methodLinkNest "ContestRows" 18 y_Persons_init "ContestRows") (List.mem_append_right _ (List.mem_append_left _ (List.mem_of_getElem? (i := 56) rfl)))), va_Nw.of rfl (hts (Cond.methodLinkNest "ContestRows" 25 y_Submissions_init "ContestRows") (List.mem_append_right _ (List.mem_append_left _ (List.mem_of_getElem? (i := 84) rfl)))), va_Nw.of rfl (hts (Cond.methodLinkNest "ContestRows" 32 y_RuleText_init "ContestRows") (List.mem_append_right _ (List.mem_append_left _ (List.mem_of_getElem? (i := 118) rfl)))), va_Nw.of rfl (hts (Cond.methodLinkNest "ContestRows" 39 y_Rules_init "ContestRows") (List.mem_append_right _ (List.mem_append_left _ (List.mem_of_getElem? (i := 131) rfl))))⟩
/-- the classes' numbers, at the start -/
theorem start_K {s : State} {b : Nat} (htb : ∀ w ∈ TBL, w.before #[Value.ref b] s = true) : ∃ (G : va_G) (cI cZ cJ : ClassId), va_K G vwCl (tyL cI cZ cJ) s := by
  obtain ⟨c0, iS0, hKn0⟩ := u_known (C := "ContestRows$Persons") (T := F_Persons) (N := 5) (n := 5) htb i_Persons (htb _ ky_Persons)
  obtain ⟨c1, iS1, hKn1⟩ := u_known (C := "ContestRows$Puzzles") (T := F_Puzzles) (N := 7) (n := 7) htb i_Puzzles (htb _ ky_Puzzles)
  obtain ⟨c2, iS2, hKn2⟩ := u_known (C := "ContestRows$RuleText") (T := F_RuleText) (N := 2) (n := 2) htb i_RuleText (htb _ ky_RuleText)
  obtain ⟨c3, iS3, hKn3⟩ := u_known (C := "ContestRows$Rules") (T := F_Rules) (N := 2) (n := 2) htb i_Rules (htb _ ky_Rules)
  obtain ⟨c4, iS4, hKn4⟩ := u_known (C := "ContestRows$Submissions") (T := F_Submissions) (N := 7) (n := 7) htb i_Submissions (htb _ ky_Submissions)
  obtain ⟨c5, iS5, hKn5⟩ := u_known (C := "ContestRows") (T := F_Top) (N := 9) (n := 9) htb i_Top (htb _ ky_Top)
  obtain ⟨c6, iS6, hKn6⟩ := u_known (C := "ContestRowsModel") (T := F_Model) (N := 22) (n := 22) htb i_Model (htb _ ky_Model)
  obtain ⟨dC, dI, hKc⟩ : ∃ (dC : Nat → ClassId) (dI : Nat → Nat → Nat), ∀ (k : Nat) (q : vw_C), vwCl[k]? = some q → u_Kn s q.1 q.2.1 q.2.2 (dC k) (dI k) := by
    refine ⟨fun k => if k = 0 then c0 else if k = 1 then c1 else if k = 2 then c2 else if k = 3 then c3 else if k = 4 then c4 else if k = 5 then c5 else c6, fun k => if k = 0 then iS0 else if k = 1 then iS1 else if k = 2 then iS2 else if k = 3 then iS3 else if k = 4 then iS4 else if k = 5 then iS5 else iS6, ?_⟩
    intro k q hq
    match k, hq with
    | 0, hq => cases hq; exact hKn0
    | 1, hq => cases hq; exact hKn1
    | 2, hq => cases hq; exact hKn2
    | 3, hq => cases hq; exact hKn3
    | 4, hq => cases hq; exact hKn4
    | 5, hq => cases hq; exact hKn5
    | 6, hq => cases hq; exact hKn6
    | k + 7, hq => simp [vwCl] at hq
  obtain ⟨cI, hI⟩ := arr_of (ty := .int) (fun C h => by cases h) (htb _ ka_I)
  obtain ⟨cZ, hZ⟩ := arr_of (ty := .boolean) (fun C h => by cases h) (htb _ ka_Z)
  obtain ⟨cJ, hJ⟩ := arr_of (ty := .long) (fun C h => by cases h) (htb _ ka_J)
  refine ⟨(dC, dI), cI, cZ, cJ, hKc, ?_⟩
  intro k q hq
  match k, hq with
  | 0, hq => cases hq; exact hI
  | 1, hq => cases hq; exact hZ
  | 2, hq => cases hq; exact hJ
  | k + 3, hq => simp at hq
set_option maxHeartbeats 4000000 in
set_option maxRecDepth 100000 in
/-- THE LAW, from its entry -/
theorem whole_start {p : Program} {e : Env} {s : State} {m : MethodId} {below : List Frame} {meth : Method} {c : Code} (l : Launch) {b L : Nat} {xs : Nat → Int32} (hL : L ≤ 3072) (C0 : lw_At p s m meth c b L xs) : W p l e room_1 s m #[Value.ref b] below meth c s.heap [] 0 0 (lw_Z below #[Value.ref b] s) (entryFrame m ([Value.ref b] : List Value).toArray 4) := by
  obtain ⟨hx, hb, hr, hml, hown, hts, hX, hbl, hlocks, hgv⟩ := id C0
  have htb : ∀ w ∈ TBL, w.before #[Value.ref b] s = true := fun w h => hts w (List.mem_filter.mp h).1
  obtain ⟨G, cI, cZ, cJ, hK⟩ := start_K htb
  obtain ⟨aK, aV, hE⟩ := start_J hts hgv
  have hN := start_NX hts
  have X : Fx p m c code 4 s #[Value.ref b] "ContestRowsLaw" G (tyL cI cZ cJ) (fun q : Nat => s.heap.size ≤ q) := ⟨⟨hx, hb, hml, hown, htb⟩, hK, fun _ h => h⟩
  have hW : Wr G (fun q : Nat => s.heap.size ≤ q) s.heap [] s.heap [] := ⟨fun k q h => by simp at h, ⟨fun i j p q h => by simp at h, fun k q h => by simp at h⟩, va_S.rf⟩
  have hl := lv_entry ([.ref b]) (n := 4) (Nat.le_of_ble_eq_true rfl)
  rw [lg_entry_eq]
  generalize (lg_sl ([.ref b]) ++ List.replicate (4 - (lg_sl ([.ref b])).length) Slot.unset).toArray = ls at hl ⊢
  have hl : lv_has ls 4 [(0, .ref b)] := hl
  refine R_new (ci := 5) (fs := [.null, .null, .null, .null, .null, .null, .null, .null, .null]) X hW i_Top rfl t_Top t_Top_ok kx_Law_7 ky_Top kn_Top (fun j hj => by rcases (show j = 0 ∨ j = 1 ∨ j = 2 ∨ j = 3 ∨ j = 4 ∨ j = 5 ∨ j = 6 ∨ j = 7 ∨ j = 8 by omega) with rfl | rfl | rfl | rfl | rfl | rfl | rfl | rfl | rfl <;> rfl) (Nat.le_of_ble_eq_true rfl) (Nat.le_of_ble_eq_true rfl) d_Law_law_0 (fun q0 H hW => ?_)
  refine lv_dup hx hb d_Law_law_3 rfl ?_
  refine R_init (wr := []) NX_ok hN (ctr_Top l G cI cZ cJ q0) X hW cw_Law_9 rfl ki_Top_init ⟨rfl, rfl⟩ ⟨by decide, by decide⟩ ⟨Nat.le_of_ble_eq_true rfl, Nat.le_of_ble_eq_true rfl⟩ [0] [] rfl rfl rfl rfl (by decide) hl.1 (Nat.le_of_ble_eq_true rfl) d_Law_law_4 (fun wv H locs hpost hW => ?_)
  obtain ⟨h, h0, rfl⟩ := hpost
  rw [← h0]
  refine lv_astore_n (lv' := [(1, .ref (h 0)), (0, .ref b)]) hx hb d_Law_law_7 rfl hl (by decide) rfl (fun ls hl => ?_)
  refine R_new (ci := 6) (fs := [.int 0, .int 0, .int 0, .int 0, .null, .null, .null, .null, .null, .null, .null, .null, .null, .int 0, .null, .int 0, .null, .null, .null, .null, .null, .null]) X hW i_Model rfl t_Model t_Model_ok kx_Law_10 ky_Model kn_Model (fun j hj => by rcases (show j = 0 ∨ j = 1 ∨ j = 2 ∨ j = 3 ∨ j = 4 ∨ j = 5 ∨ j = 6 ∨ j = 7 ∨ j = 8 ∨ j = 9 ∨ j = 10 ∨ j = 11 ∨ j = 12 ∨ j = 13 ∨ j = 14 ∨ j = 15 ∨ j = 16 ∨ j = 17 ∨ j = 18 ∨ j = 19 ∨ j = 20 ∨ j = 21 by omega) with rfl | rfl | rfl | rfl | rfl | rfl | rfl | rfl | rfl | rfl | rfl | rfl | rfl | rfl | rfl | rfl | rfl | rfl | rfl | rfl | rfl | rfl <;> rfl) (Nat.le_of_ble_eq_true rfl) (Nat.le_of_ble_eq_true rfl) d_Law_law_8 (fun q1 H hW => ?_)
  refine lv_dup hx hb d_Law_law_11 rfl ?_
  refine R_init (wr := (w_All h cI cZ cJ (fun _ => 0) (fun _ => false) (fun _ => some 0) (fun _ => some 0) 0 0 (fun _ => 0) (fun _ => 0) (fun _ => false) (fun _ => 0) (fun _ => 0) 0 (fun _ => some 0) (fun _ => 0) (fun _ => 0) (fun _ => 0) 0 (fun _ => 0) (fun _ => 0) (fun _ => 0) (fun _ => false) (fun _ => 0) (fun _ => 0) 0 (fun _ => 0) (va_up (va_up (va_up (va_up (va_up (fun _ => 0) 0 100) 1 0) 2 0) 3 3600) 4 1) (va_up (va_up (va_up (va_up (va_up (fun _ => 0) 0 100) 1 0) 2 0) 3 3600) 4 1))) EOk_T trivial (ctr_Model l (fun _ => True) G cI cZ cJ q1) X hW cw_Law_12 rfl ki_Model_init ⟨rfl, rfl⟩ ⟨by decide, by decide⟩ ⟨Nat.le_of_ble_eq_true rfl, Nat.le_of_ble_eq_true rfl⟩ [28] (List.range 28) rfl rfl rfl rfl (by decide) hl.1 (Nat.le_of_ble_eq_true rfl) d_Law_law_12 (fun wv H locs hpost hW => ?_)
  obtain ⟨hm, hm0, rfl⟩ := hpost
  rw [← hm0]
  refine W.widen (k := 45) (n := 6900) (Nat.le_of_ble_eq_true rfl) (Nat.le_of_ble_eq_true rfl) ?_
  refine lv_astore_n (lv' := [(2, .ref (hm 0)), (1, .ref (h 0)), (0, .ref b)]) hx hb d_Law_law_15 rfl hl (by decide) rfl (fun ls hl => ?_)
  refine lv_iconst (v := nI 0) hx hb d_Law_law_16 (by decide +kernel) ?_
  refine lv_istore_n (lv' := [(3, .int (nI 0)), (2, .ref (hm 0)), (1, .ref (h 0)), (0, .ref b)]) hx hb d_Law_law_17 rfl hl (by decide) rfl (fun ls hl => ?_)
  exact law_loop hL X hX hbl hE hr hlocks (L + 7) 0 (Nat.zero_le _) (by omega) _ _ H locs ls (InvW0 h hm cI cZ cJ) hW (lv_sub hl [3, 2, 1, 0] rfl)
