theorem kf_Puzzles_28 : Cond.fieldLink "ContestRows$Puzzles" 28 "ContestRows$Puzzles" "many" "I" ∈ TBL := TBL_t (List.mem_append_left _ (List.mem_of_getElem? (i := 31) rfl)) rfl
set_option maxHeartbeats 4000000 in
set_option maxRecDepth 100000 in
theorem c_Puzzles_has (l : Launch) (G : va_G) (cI cZ cJ : ClassId) (h : Nat → Nat) (np : Nat) (tot : Nat) (gr : Nat → Nat) (fa : Nat → Nat) (re : Nat → Bool) (ss : Nat → Nat) (sc : Nat → Nat) (x : Int32) (hn : np ≤ 300) : Ct l G (tyL cI cZ cJ) y_Puzzles_has b_Puzzles_has 2 (some .boolean) (rmL 0) [.ref (h 5), .int x] (w_Puz h cI cZ cJ np tot gr fa re ss sc) (some (.int (bI (inB x np)))) (w_Puz h cI cZ cJ np tot gr fa re ss sc) := by
  refine M_start (by decide) (Nat.le_of_ble_eq_true rfl) ?_
  intro p e s m args below meth c A Q ls X Y hW hl
  have hx := X.1.1
  have hb := X.1.2.1
  have hl : lv_has ls 2 [(0, .ref (h 5)), (1, .int x)] := hl
  refine lv_iload_n hx hb d_Puzzles_has_0 rfl (lv_at hl 1 rfl) ?_
  refine N_if_lt_R hx hb  (tgt := 16) d_Puzzles_has_1 (by decide) (fun c1 => ?_) (fun c1 => ?_)
  · refine lv_iconst (v := (nI 0)) hx hb d_Puzzles_has_16 (by decide +kernel) ?_
    exact R_zret X Y hW rfl false (by decide +kernel) (by rw [inB_f (by omega)]) d_Puzzles_has_17
  · refine lv_iload_n hx hb d_Puzzles_has_4 rfl (lv_at hl 1 rfl) ?_
    refine lv_aload_n hx hb d_Puzzles_has_5 rfl (lv_at hl 0 rfl) ?_
    refine R_get X hW i_Puzzles rfl 1 (by decide) kf_Puzzles_28 0 rfl rfl d_Puzzles_has_6 ?_
    refine N_icmp_ge_RN hx hb (by omega) (tgt := 16) d_Puzzles_has_9 (by decide) (fun c9 => ?_) (fun c9 => ?_)
    · refine lv_iconst (v := (nI 0)) hx hb d_Puzzles_has_16 (by decide +kernel) ?_
      exact R_zret X Y hW rfl false (by decide +kernel) (by rw [inB_f (by omega)]) d_Puzzles_has_17
    · refine lv_iconst (v := (nI 1)) hx hb d_Puzzles_has_12 (by decide +kernel) ?_
      refine lv_goto (tgt := 17) hx hb d_Puzzles_has_13 (by decide) ?_
      exact R_zret X Y hW rfl true (by decide +kernel) (by rw [inB_t (by omega)]) d_Puzzles_has_17

theorem kf_Puzzles_15 : Cond.fieldLink "ContestRows$Puzzles" 15 "ContestRows$Puzzles" "falling" "[I" ∈ TBL := TBL_t (List.mem_append_left _ (List.mem_of_getElem? (i := 32) rfl)) rfl
theorem kf_Puzzles_11 : Cond.fieldLink "ContestRows$Puzzles" 11 "ContestRows$Puzzles" "grades" "[I" ∈ TBL := TBL_t (List.mem_append_left _ (List.mem_of_getElem? (i := 29) rfl)) rfl
set_option maxHeartbeats 4000000 in
set_option maxRecDepth 100000 in
theorem c_Puzzles_putFalling (l : Launch) (G : va_G) (cI cZ cJ : ClassId) (h : Nat → Nat) (np : Nat) (tot : Nat) (gr : Nat → Nat) (fa : Nat → Nat) (re : Nat → Bool) (ss : Nat → Nat) (sc : Nat → Nat) (v : Nat) (hv : v < 20) (hfa : ∀ i, i < v → fa i < 20) (hgr : ∀ i, i < 20 → gr i < 2 ^ 31) : Ct l G (tyL cI cZ cJ) y_Puzzles_putFalling b_Puzzles_putFalling 3 none (rmL 0) [.ref (h 5), .int (nI v)] (w_Puz h cI cZ cJ np tot gr fa re ss sc) none (w_Puz h cI cZ cJ np tot gr (insG (ltD gr) v v fa) re ss sc) := by
  refine M_start (by decide) (Nat.le_of_ble_eq_true rfl) ?_
  intro p e s m args below meth c A Q ls X Y hW hl
  have hx := X.1.1
  have hb := X.1.2.1
  have hl : lv_has ls 3 [(0, .ref (h 5)), (1, .int (nI v))] := hl
  refine lv_iload_n hx hb d_Puzzles_putFalling_0 rfl (lv_at hl 1 rfl) ?_
  refine lv_istore_n (lv' := [(2, .int (nI v)), (0, .ref (h 5)), (1, .int (nI v))]) hx hb d_Puzzles_putFalling_1 rfl hl (by decide) rfl (fun ls hl => ?_)
  have L2 : ∀ (k : Nat) (f : Nat → Nat) (hk : k ≤ v) (hf : ∀ i, i < k → f i < 20) (he : insG (ltD gr) v k f = insG (ltD gr) v v fa) (H : Heap) (locs : List Loc) (hW : Wr G A s.heap (w_Puz h cI cZ cJ np tot gr f re ss sc) H locs) (ls : Array Slot) (hl : lv_has ls 3 [(0, .ref (h 5)), (1, .int (nI v)), (2, .int (nI k))]), W p l e (rmL 0) s m args below meth c H locs 0 0 Q (F0 m 2 ls []) := by
    intro k
    induction k with
    | zero =>
      intro f hk hf he H locs hW ls hl
      refine lv_iload_n hx hb d_Puzzles_putFalling_2 rfl (lv_at hl 2 rfl) ?_
      refine N_if_le_N hx hb (by omega) (tgt := 48) d_Puzzles_putFalling_3 (by decide) (fun c3 => ?_) (fun c3 => ?_)
      · refine lv_aload_n hx hb d_Puzzles_putFalling_48 rfl (lv_at hl 0 rfl) ?_
        refine R_get X hW i_Puzzles rfl 2 (by decide) kf_Puzzles_15 0 rfl rfl d_Puzzles_putFalling_49 ?_
        refine lv_iload_n hx hb d_Puzzles_putFalling_52 rfl (lv_at hl 2 rfl) ?_
        refine lv_iload_n hx hb d_Puzzles_putFalling_53 rfl (lv_at hl 1 rfl) ?_
        refine R_iast X hW (t0 := 0) rfl 2 rfl (k := 0) (by omega) (by decide) v rfl d_Puzzles_putFalling_54 (fun H locs hW => ?_)
        have hW : Wr G A s.heap (w_Puz h cI cZ cJ np tot gr (va_up f 0 v) re ss sc) H locs := hW
        exact R_vret X Y hW (by rw [← he]; rfl) rfl d_Puzzles_putFalling_55
      · exfalso; omega
    | succ k ih2 =>
      intro f hk hf he H locs hW ls hl
      refine lv_iload_n hx hb d_Puzzles_putFalling_2 rfl (lv_at hl 2 rfl) ?_
      refine N_if_le_N hx hb (by omega) (tgt := 48) d_Puzzles_putFalling_3 (by decide) (fun c3 => ?_) (fun c3 => ?_)
      · exfalso; omega
      · have q1 := hf k (by omega)
        have q2 := hgr (f k) q1
        have q3 := hgr v hv
        refine lv_aload_n hx hb d_Puzzles_putFalling_6 rfl (lv_at hl 0 rfl) ?_
        refine R_get X hW i_Puzzles rfl 0 (by decide) kf_Puzzles_11 0 rfl rfl d_Puzzles_putFalling_7 ?_
        refine lv_aload_n hx hb d_Puzzles_putFalling_10 rfl (lv_at hl 0 rfl) ?_
        refine R_get X hW i_Puzzles rfl 2 (by decide) kf_Puzzles_15 0 rfl rfl d_Puzzles_putFalling_11 ?_
        refine lv_iload_n hx hb d_Puzzles_putFalling_14 rfl (lv_at hl 2 rfl) ?_
        refine lv_iconst (v := (nI 1)) hx hb d_Puzzles_putFalling_15 (by decide +kernel) ?_
        refine N_isub (r := k) hx hb (by omega) (by omega) d_Puzzles_putFalling_16 ?_
        refine R_iald X hW (t0 := 0) rfl 2 rfl (k := k) (by omega) (by decide) d_Puzzles_putFalling_17 ?_
        refine R_iald X hW (t0 := 0) rfl 1 rfl (k := (f k)) (by omega) (by decide) d_Puzzles_putFalling_18 ?_
        refine lv_aload_n hx hb d_Puzzles_putFalling_19 rfl (lv_at hl 0 rfl) ?_
        refine R_get X hW i_Puzzles rfl 0 (by decide) kf_Puzzles_11 0 rfl rfl d_Puzzles_putFalling_20 ?_
        refine lv_iload_n hx hb d_Puzzles_putFalling_23 rfl (lv_at hl 1 rfl) ?_
        refine R_iald X hW (t0 := 0) rfl 1 rfl (k := v) (by omega) (by decide) d_Puzzles_putFalling_24 ?_
        refine N_icmp_ge_NN hx hb (by omega) (by omega) (tgt := 48) d_Puzzles_putFalling_25 (by decide) (fun c25 => ?_) (fun c25 => ?_)
        · refine lv_aload_n hx hb d_Puzzles_putFalling_48 rfl (lv_at hl 0 rfl) ?_
          refine R_get X hW i_Puzzles rfl 2 (by decide) kf_Puzzles_15 0 rfl rfl d_Puzzles_putFalling_49 ?_
          refine lv_iload_n hx hb d_Puzzles_putFalling_52 rfl (lv_at hl 2 rfl) ?_
          refine lv_iload_n hx hb d_Puzzles_putFalling_53 rfl (lv_at hl 1 rfl) ?_
          refine R_iast X hW (t0 := 0) rfl 2 rfl (k := (k + 1)) (by omega) (by decide) v rfl d_Puzzles_putFalling_54 (fun H locs hW => ?_)
          have hW : Wr G A s.heap (w_Puz h cI cZ cJ np tot gr (va_up f (k + 1) v) re ss sc) H locs := hW
          exact R_vret X Y hW (by rw [← he, insG, if_neg (by simp [ltD]; omega)]) rfl d_Puzzles_putFalling_55
        · refine lv_aload_n hx hb d_Puzzles_putFalling_28 rfl (lv_at hl 0 rfl) ?_
          refine R_get X hW i_Puzzles rfl 2 (by decide) kf_Puzzles_15 0 rfl rfl d_Puzzles_putFalling_29 ?_
          refine lv_iload_n hx hb d_Puzzles_putFalling_32 rfl (lv_at hl 2 rfl) ?_
          refine lv_aload_n hx hb d_Puzzles_putFalling_33 rfl (lv_at hl 0 rfl) ?_
          refine R_get X hW i_Puzzles rfl 2 (by decide) kf_Puzzles_15 0 rfl rfl d_Puzzles_putFalling_34 ?_
          refine lv_iload_n hx hb d_Puzzles_putFalling_37 rfl (lv_at hl 2 rfl) ?_
          refine lv_iconst (v := (nI 1)) hx hb d_Puzzles_putFalling_38 (by decide +kernel) ?_
          refine N_isub (r := k) hx hb (by omega) (by omega) d_Puzzles_putFalling_39 ?_
          refine R_iald X hW (t0 := 0) rfl 2 rfl (k := k) (by omega) (by decide) d_Puzzles_putFalling_40 ?_
          refine R_iast X hW (t0 := 0) rfl 2 rfl (k := (k + 1)) (by omega) (by decide) (f k) rfl d_Puzzles_putFalling_41 (fun H locs hW => ?_)
          have hW : Wr G A s.heap (w_Puz h cI cZ cJ np tot gr (va_up f (k + 1) (f k)) re ss sc) H locs := hW
          refine lv_iinc (v := (nI k)) (lv' := [(2, .int (nI k)), (0, .ref (h 5)), (1, .int (nI v))]) hx hb d_Puzzles_putFalling_42 hl (k := 2) rfl (N_dec (r := k) (by omega) (by omega)) (by decide) rfl (fun ls hl => ?_)
          refine lv_goto (tgt := 2) hx hb d_Puzzles_putFalling_45 (by decide) ?_
          exact ih2 (va_up f (k + 1) (f k)) (by omega) (fun i hi => by rw [va_up_ne _ _ (by omega)]; exact hf i (by omega)) (by rw [← he, insG, if_pos (show ltD gr (f k) v = true from decide_eq_true c25)]) _ _ hW ls (lv_sub hl [1, 2, 0] rfl)
  exact L2 v fa (Nat.le_refl v) hfa rfl _ _ hW ls (lv_sub hl [1, 2, 0] rfl)

theorem kf_Puzzles_18 : Cond.fieldLink "ContestRows$Puzzles" 18 "ContestRows$Puzzles" "reached" "[Z" ∈ TBL := TBL_t (List.mem_append_left _ (List.mem_of_getElem? (i := 33) rfl)) rfl
set_option maxHeartbeats 4000000 in
set_option maxRecDepth 100000 in
theorem c_Puzzles_reachWith (l : Launch) (G : va_G) (cI cZ cJ : ClassId) (h : Nat → Nat) (np : Nat) (tot : Nat) (gr : Nat → Nat) (fa : Nat → Nat) (re : Nat → Bool) (ss : Nat → Nat) (sc : Nat → Nat) (g : Nat) (hg : 1 ≤ g ∧ g ≤ 100) : Ct l G (tyL cI cZ cJ) y_Puzzles_reachWith b_Puzzles_reachWith 3 none (rmL 0) [.ref (h 5), .int (nI g)] (w_Puz h cI cZ cJ np tot gr fa re ss sc) none (w_Puz h cI cZ cJ np tot gr fa (rchG g 1000 (va_up re 0 true)) ss sc) := by
  refine M_start (by decide) (Nat.le_of_ble_eq_true rfl) ?_
  intro p e s m args below meth c A Q ls X Y hW hl
  have hx := X.1.1
  have hb := X.1.2.1
  have hl : lv_has ls 3 [(0, .ref (h 5)), (1, .int (nI g))] := hl
  refine lv_aload_n hx hb d_Puzzles_reachWith_0 rfl (lv_at hl 0 rfl) ?_
  refine R_get X hW i_Puzzles rfl 3 (by decide) kf_Puzzles_18 0 rfl rfl d_Puzzles_reachWith_1 ?_
  refine lv_iconst (v := (nI 0)) hx hb d_Puzzles_reachWith_4 (by decide +kernel) ?_
  refine lv_iconst (v := (nI 1)) hx hb d_Puzzles_reachWith_5 (by decide +kernel) ?_
  refine R_zast X hW (t0 := 1) rfl 3 rfl (k := 0) (by omega) (by decide) true (by decide +kernel) d_Puzzles_reachWith_6 (fun H locs hW => ?_)
  have hW : Wr G A s.heap (w_Puz h cI cZ cJ np tot gr fa (va_up re 0 true) ss sc) H locs := hW
  refine lv_sipush (v := (nI 1000)) hx hb d_Puzzles_reachWith_7 (by decide +kernel) ?_
  refine lv_istore_n (lv' := [(2, .int (nI 1000)), (0, .ref (h 5)), (1, .int (nI g))]) hx hb d_Puzzles_reachWith_10 rfl hl (by decide) rfl (fun ls hl => ?_)
  have L11 : ∀ (k : Nat) (f : Nat → Bool) (hk : k ≤ 1000) (he : rchG g k f = rchG g 1000 (va_up re 0 true)) (H : Heap) (locs : List Loc) (hW : Wr G A s.heap (w_Puz h cI cZ cJ np tot gr fa f ss sc) H locs) (ls : Array Slot) (hl : lv_has ls 3 [(0, .ref (h 5)), (1, .int (nI g)), (2, .int (nI k))]), W p l e (rmL 0) s m args below meth c H locs 0 0 Q (F0 m 11 ls []) := by
    intro k
    induction k with
    | zero =>
      intro f hk he H locs hW ls hl
      refine lv_iload_n hx hb d_Puzzles_reachWith_11 rfl (lv_at hl 2 rfl) ?_
      refine lv_iload_n hx hb d_Puzzles_reachWith_12 rfl (lv_at hl 1 rfl) ?_
      refine N_icmp_lt_NN hx hb (by decide) (by omega) (tgt := 40) d_Puzzles_reachWith_13 (by decide) (fun c13 => ?_) (fun c13 => ?_)
      · exact R_vret X Y hW (by rw [← he]; rfl) rfl d_Puzzles_reachWith_40
      · exfalso; omega
    | succ k ih11 =>
      intro f hk he H locs hW ls hl
      refine lv_iload_n hx hb d_Puzzles_reachWith_11 rfl (lv_at hl 2 rfl) ?_
      refine lv_iload_n hx hb d_Puzzles_reachWith_12 rfl (lv_at hl 1 rfl) ?_
      refine N_icmp_lt_NN hx hb (by omega) (by omega) (tgt := 40) d_Puzzles_reachWith_13 (by decide) (fun c13 => ?_) (fun c13 => ?_)
      · exact R_vret X Y hW (by rw [← he, rchG, if_pos c13]) rfl d_Puzzles_reachWith_40
      · refine lv_aload_n hx hb d_Puzzles_reachWith_16 rfl (lv_at hl 0 rfl) ?_
        refine R_get X hW i_Puzzles rfl 3 (by decide) kf_Puzzles_18 0 rfl rfl d_Puzzles_reachWith_17 ?_
        refine lv_iload_n hx hb d_Puzzles_reachWith_20 rfl (lv_at hl 2 rfl) ?_
        refine lv_iload_n hx hb d_Puzzles_reachWith_21 rfl (lv_at hl 1 rfl) ?_
        refine N_isub (r := (k + 1) - g) hx hb (by omega) (by omega) d_Puzzles_reachWith_22 ?_
        refine R_zald X hW (t0 := 1) rfl 3 rfl (k := ((k + 1) - g)) (by omega) (by decide) d_Puzzles_reachWith_23 ?_
        refine N_if_eq_B hx hb  (tgt := 34) d_Puzzles_reachWith_24 (by decide) (fun c24 => ?_) (fun c24 => ?_)
        · refine lv_iinc (v := (nI k)) (lv' := [(2, .int (nI k)), (0, .ref (h 5)), (1, .int (nI g))]) hx hb d_Puzzles_reachWith_34 hl (k := 2) rfl (N_dec (r := k) (by omega) (by omega)) (by decide) rfl (fun ls hl => ?_)
          refine lv_goto (tgt := 11) hx hb d_Puzzles_reachWith_37 (by decide) ?_
          exact ih11 f (by omega) (by rw [← he, rchG, if_neg (by omega), if_neg (by simp [c24])]) _ _ hW ls (lv_sub hl [1, 2, 0] rfl)
        · refine lv_aload_n hx hb d_Puzzles_reachWith_27 rfl (lv_at hl 0 rfl) ?_
          refine R_get X hW i_Puzzles rfl 3 (by decide) kf_Puzzles_18 0 rfl rfl d_Puzzles_reachWith_28 ?_
          refine lv_iload_n hx hb d_Puzzles_reachWith_31 rfl (lv_at hl 2 rfl) ?_
          refine lv_iconst (v := (nI 1)) hx hb d_Puzzles_reachWith_32 (by decide +kernel) ?_
          refine R_zast X hW (t0 := 1) rfl 3 rfl (k := (k + 1)) (by omega) (by decide) true (by decide +kernel) d_Puzzles_reachWith_33 (fun H locs hW => ?_)
          have hW : Wr G A s.heap (w_Puz h cI cZ cJ np tot gr fa (va_up f (k + 1) true) ss sc) H locs := hW
          refine lv_iinc (v := (nI k)) (lv' := [(2, .int (nI k)), (0, .ref (h 5)), (1, .int (nI g))]) hx hb d_Puzzles_reachWith_34 hl (k := 2) rfl (N_dec (r := k) (by omega) (by omega)) (by decide) rfl (fun ls hl => ?_)
          refine lv_goto (tgt := 11) hx hb d_Puzzles_reachWith_37 (by decide) ?_
          exact ih11 (va_up f (k + 1) true) (by omega) (by rw [← he, rchG, if_neg (by omega), if_pos c24]) _ _ hW ls (lv_sub hl [1, 2, 0] rfl)
  exact L11 1000 (va_up re 0 true) (by omega) rfl _ _ hW ls (lv_sub hl [1, 2, 0] rfl)

set_option maxHeartbeats 4000000 in
set_option maxRecDepth 100000 in
theorem c_Puzzles_leastDifference_none (l : Launch) (G : va_G) (cI cZ cJ : ClassId) (h : Nat → Nat) (np : Nat) (tot : Nat) (gr : Nat → Nat) (fa : Nat → Nat) (re : Nat → Bool) (ss : Nat → Nat) (sc : Nat → Nat)  (hn : np = 0) : Ct l G (tyL cI cZ cJ) y_Puzzles_leastDifference b_Puzzles_leastDifference 2 (some .int) (rmL 0) [.ref (h 5)] (w_Puz h cI cZ cJ np tot gr fa re ss sc) (some (.int (-1))) (w_Puz h cI cZ cJ np tot gr fa re ss sc) := by
  refine M_start (by decide) (Nat.le_of_ble_eq_true rfl) ?_
  intro p e s m args below meth c A Q ls X Y hW hl
  have hx := X.1.1
  have hb := X.1.2.1
  have hl : lv_has ls 2 [(0, .ref (h 5))] := hl
  refine lv_aload_n hx hb d_Puzzles_leastDifference_0 rfl (lv_at hl 0 rfl) ?_
  refine R_get X hW i_Puzzles rfl 1 (by decide) kf_Puzzles_28 0 rfl rfl d_Puzzles_leastDifference_1 ?_
  refine N_if_ne_N hx hb (by omega) (tgt := 9) d_Puzzles_leastDifference_4 (by decide) (fun c4 => ?_) (fun c4 => ?_)
  · exfalso; omega
  · refine lv_iconst (v := (-1)) hx hb d_Puzzles_leastDifference_7 (by decide +kernel) ?_
    exact R_iret X Y hW rfl rfl d_Puzzles_leastDifference_8

theorem kf_Puzzles_39 : Cond.fieldLink "ContestRows$Puzzles" 39 "ContestRows$Puzzles" "total" "I" ∈ TBL := TBL_t (List.mem_append_left _ (List.mem_of_getElem? (i := 34) rfl)) rfl
set_option maxHeartbeats 4000000 in
set_option maxRecDepth 100000 in
theorem c_Puzzles_leastDifference_some (l : Launch) (G : va_G) (cI cZ cJ : ClassId) (h : Nat → Nat) (np : Nat) (tot : Nat) (gr : Nat → Nat) (fa : Nat → Nat) (re : Nat → Bool) (ss : Nat → Nat) (sc : Nat → Nat)  (hn : 0 < np ∧ np ≤ 20) (ht : tot ≤ 2000) : Ct l G (tyL cI cZ cJ) y_Puzzles_leastDifference b_Puzzles_leastDifference 2 (some .int) (rmL 0) [.ref (h 5)] (w_Puz h cI cZ cJ np tot gr fa re ss sc) (some (.int (nI (tot - 2 * lowG re (tot / 2))))) (w_Puz h cI cZ cJ np tot gr fa re ss sc) := by
  refine M_start (by decide) (Nat.le_of_ble_eq_true rfl) ?_
  intro p e s m args below meth c A Q ls X Y hW hl
  have hx := X.1.1
  have hb := X.1.2.1
  have hl : lv_has ls 2 [(0, .ref (h 5))] := hl
  refine lv_aload_n hx hb d_Puzzles_leastDifference_0 rfl (lv_at hl 0 rfl) ?_
  refine R_get X hW i_Puzzles rfl 1 (by decide) kf_Puzzles_28 0 rfl rfl d_Puzzles_leastDifference_1 ?_
  refine N_if_ne_N hx hb (by omega) (tgt := 9) d_Puzzles_leastDifference_4 (by decide) (fun c4 => ?_) (fun c4 => ?_)
  · refine lv_aload_n hx hb d_Puzzles_leastDifference_9 rfl (lv_at hl 0 rfl) ?_
    refine R_get X hW i_Puzzles rfl 4 (by decide) kf_Puzzles_39 0 rfl rfl d_Puzzles_leastDifference_10 ?_
    refine lv_iconst (v := (nI 2)) hx hb d_Puzzles_leastDifference_13 (by decide +kernel) ?_
    refine N_idiv hx hb (by omega) (by decide) (by decide) d_Puzzles_leastDifference_14 ?_
    refine lv_istore_n (lv' := [(1, .int (nI (tot / 2))), (0, .ref (h 5))]) hx hb d_Puzzles_leastDifference_15 rfl hl (by decide) rfl (fun ls hl => ?_)
    have L16 : ∀ (k : Nat)  (hk : k ≤ tot / 2) (he : lowG re k = lowG re (tot / 2)) (H : Heap) (locs : List Loc) (hW : Wr G A s.heap (w_Puz h cI cZ cJ np tot gr fa re ss sc) H locs) (ls : Array Slot) (hl : lv_has ls 2 [(0, .ref (h 5)), (1, .int (nI k))]), W p l e (rmL 0) s m args below meth c H locs 0 0 Q (F0 m 16 ls []) := by
      intro k
      induction k with
      | zero =>
        intro  hk he H locs hW ls hl
        refine lv_iload_n hx hb d_Puzzles_leastDifference_16 rfl (lv_at hl 1 rfl) ?_
        refine N_if_le_N hx hb (by omega) (tgt := 35) d_Puzzles_leastDifference_17 (by decide) (fun c17 => ?_) (fun c17 => ?_)
        · refine lv_aload_n hx hb d_Puzzles_leastDifference_35 rfl (lv_at hl 0 rfl) ?_
          refine R_get X hW i_Puzzles rfl 4 (by decide) kf_Puzzles_39 0 rfl rfl d_Puzzles_leastDifference_36 ?_
          refine lv_iconst (v := (nI 2)) hx hb d_Puzzles_leastDifference_39 (by decide +kernel) ?_
          refine lv_iload_n hx hb d_Puzzles_leastDifference_40 rfl (lv_at hl 1 rfl) ?_
          refine N_imul hx hb d_Puzzles_leastDifference_41 ?_
          refine N_isub (r := tot - (2 * 0)) hx hb (by omega) (by omega) d_Puzzles_leastDifference_42 ?_
          exact R_iret X Y hW rfl (by rw [← he]; rfl) d_Puzzles_leastDifference_43
        · exfalso; omega
      | succ k ih16 =>
        intro  hk he H locs hW ls hl
        refine lv_iload_n hx hb d_Puzzles_leastDifference_16 rfl (lv_at hl 1 rfl) ?_
        refine N_if_le_N hx hb (by omega) (tgt := 35) d_Puzzles_leastDifference_17 (by decide) (fun c17 => ?_) (fun c17 => ?_)
        · exfalso; omega
        · refine lv_aload_n hx hb d_Puzzles_leastDifference_20 rfl (lv_at hl 0 rfl) ?_
          refine R_get X hW i_Puzzles rfl 3 (by decide) kf_Puzzles_18 0 rfl rfl d_Puzzles_leastDifference_21 ?_
          refine lv_iload_n hx hb d_Puzzles_leastDifference_24 rfl (lv_at hl 1 rfl) ?_
          refine R_zald X hW (t0 := 1) rfl 3 rfl (k := (k + 1)) (by omega) (by decide) d_Puzzles_leastDifference_25 ?_
          refine N_if_ne_B hx hb  (tgt := 35) d_Puzzles_leastDifference_26 (by decide) (fun c26 => ?_) (fun c26 => ?_)
          · refine lv_aload_n hx hb d_Puzzles_leastDifference_35 rfl (lv_at hl 0 rfl) ?_
            refine R_get X hW i_Puzzles rfl 4 (by decide) kf_Puzzles_39 0 rfl rfl d_Puzzles_leastDifference_36 ?_
            refine lv_iconst (v := (nI 2)) hx hb d_Puzzles_leastDifference_39 (by decide +kernel) ?_
            refine lv_iload_n hx hb d_Puzzles_leastDifference_40 rfl (lv_at hl 1 rfl) ?_
            refine N_imul hx hb d_Puzzles_leastDifference_41 ?_
            refine N_isub (r := tot - (2 * (k + 1))) hx hb (by omega) (by omega) d_Puzzles_leastDifference_42 ?_
            exact R_iret X Y hW rfl (by rw [← he, lowG, if_pos c26]) d_Puzzles_leastDifference_43
          · refine lv_iinc (v := (nI k)) (lv' := [(1, .int (nI k)), (0, .ref (h 5))]) hx hb d_Puzzles_leastDifference_29 hl (k := 1) rfl (N_dec (r := k) (by omega) (by omega)) (by decide) rfl (fun ls hl => ?_)
            refine lv_goto (tgt := 16) hx hb d_Puzzles_leastDifference_32 (by decide) ?_
            exact ih16  (by omega) (by rw [← he, lowG, if_neg (by simp [c26])]) _ _ hW ls (lv_sub hl [1, 0] rfl)
    exact L16 (tot / 2)  (Nat.le_refl _) rfl _ _ hW ls (lv_sub hl [1, 0] rfl)
  · exfalso; omega

theorem kf_Puzzles_22 : Cond.fieldLink "ContestRows$Puzzles" 22 "ContestRows$Puzzles" "setSums" "[I" ∈ TBL := TBL_t (List.mem_append_left _ (List.mem_of_getElem? (i := 35) rfl)) rfl
theorem kf_Puzzles_25 : Cond.fieldLink "ContestRows$Puzzles" 25 "ContestRows$Puzzles" "setCounts" "[I" ∈ TBL := TBL_t (List.mem_append_left _ (List.mem_of_getElem? (i := 36) rfl)) rfl
set_option maxHeartbeats 4000000 in
set_option maxRecDepth 100000 in
theorem c_Puzzles_leastSet (l : Launch) (G : va_G) (cI cZ cJ : ClassId) (h : Nat → Nat) (np : Nat) (tot : Nat) (gr : Nat → Nat) (fa : Nat → Nat) (re : Nat → Bool) (ss : Nat → Nat) (sc : Nat → Nat) (k : Nat) (hk : 1 ≤ k ∧ k ≤ 6) (hss : ∀ i, i < 6 → ss i < 2 ^ 31) (hsc : ∀ i, i < 6 → sc i < 2 ^ 31) : Ct l G (tyL cI cZ cJ) y_Puzzles_leastSet b_Puzzles_leastSet 6 (some .int) (rmL 0) [.ref (h 5), .int (nI k)] (w_Puz h cI cZ cJ np tot gr fa re ss sc) (some (.int (nI (lsF ss sc k)))) (w_Puz h cI cZ cJ np tot gr fa re ss sc) := by
  refine M_start (by decide) (Nat.le_of_ble_eq_true rfl) ?_
  intro p e s m args below meth c A Q ls X Y hW hl
  have hx := X.1.1
  have hb := X.1.2.1
  have hl : lv_has ls 6 [(0, .ref (h 5)), (1, .int (nI k))] := hl
  refine lv_iconst (v := (nI 0)) hx hb d_Puzzles_leastSet_0 (by decide +kernel) ?_
  refine lv_istore_n (lv' := [(2, .int (nI 0)), (0, .ref (h 5)), (1, .int (nI k))]) hx hb d_Puzzles_leastSet_1 rfl hl (by decide) rfl (fun ls hl => ?_)
  refine lv_iconst (v := (nI 1)) hx hb d_Puzzles_leastSet_2 (by decide +kernel) ?_
  refine lv_istore_n (lv' := [(3, .int (nI 1)), (2, .int (nI 0)), (0, .ref (h 5)), (1, .int (nI k))]) hx hb d_Puzzles_leastSet_3 rfl hl (by decide) rfl (fun ls hl => ?_)
  have L4 : ∀ (n : Nat) (i : Nat) (b : Nat) (hi : i + n = k ∧ 1 ≤ i ∧ b < i) (he : lsG ss sc n i b = lsF ss sc k) (H : Heap) (locs : List Loc) (hW : Wr G A s.heap (w_Puz h cI cZ cJ np tot gr fa re ss sc) H locs) (ls : Array Slot) (hl : lv_has ls 6 [(0, .ref (h 5)), (1, .int (nI k)), (2, .int (nI b)), (3, .int (nI i))]), W p l e (rmL 0) s m args below meth c H locs 0 0 Q (F0 m 4 ls []) := by
    intro n
    induction n with
    | zero =>
      intro i b hi he H locs hW ls hl
      refine lv_iload_n hx hb d_Puzzles_leastSet_4 rfl (lv_at hl 3 rfl) ?_
      refine lv_iload_n hx hb d_Puzzles_leastSet_5 rfl (lv_at hl 1 rfl) ?_
      refine N_icmp_ge_NN hx hb (by omega) (by omega) (tgt := 86) d_Puzzles_leastSet_6 (by decide) (fun c6 => ?_) (fun c6 => ?_)
      · refine lv_iload_n hx hb d_Puzzles_leastSet_86 rfl (lv_at hl 2 rfl) ?_
        exact R_iret X Y hW rfl (by rw [← he]; rfl) d_Puzzles_leastSet_87
      · exfalso; omega
    | succ n ih4 =>
      intro i b hi he H locs hW ls hl
      refine lv_iload_n hx hb d_Puzzles_leastSet_4 rfl (lv_at hl 3 rfl) ?_
      refine lv_iload_n hx hb d_Puzzles_leastSet_5 rfl (lv_at hl 1 rfl) ?_
      refine N_icmp_ge_NN hx hb (by omega) (by omega) (tgt := 86) d_Puzzles_leastSet_6 (by decide) (fun c6 => ?_) (fun c6 => ?_)
      · exfalso; omega
      · have q1 := hss i (by omega)
        have q2 := hss b (by omega)
        have q3 := hsc i (by omega)
        have q4 := hsc b (by omega)
        refine lv_aload_n hx hb d_Puzzles_leastSet_9 rfl (lv_at hl 0 rfl) ?_
        refine R_get X hW i_Puzzles rfl 5 (by decide) kf_Puzzles_22 0 rfl rfl d_Puzzles_leastSet_10 ?_
        refine lv_iload_n hx hb d_Puzzles_leastSet_13 rfl (lv_at hl 3 rfl) ?_
        refine R_iald X hW (t0 := 0) rfl 4 rfl (k := i) (by omega) (by decide) d_Puzzles_leastSet_14 ?_
        refine lv_aload_n hx hb d_Puzzles_leastSet_15 rfl (lv_at hl 0 rfl) ?_
        refine R_get X hW i_Puzzles rfl 5 (by decide) kf_Puzzles_22 0 rfl rfl d_Puzzles_leastSet_16 ?_
        refine lv_iload_n hx hb d_Puzzles_leastSet_19 rfl (lv_at hl 2 rfl) ?_
        refine R_iald X hW (t0 := 0) rfl 4 rfl (k := b) (by omega) (by decide) d_Puzzles_leastSet_20 ?_
        refine N_icmp_ge_NN hx hb (by omega) (by omega) (tgt := 28) d_Puzzles_leastSet_21 (by decide) (fun c21 => ?_) (fun c21 => ?_)
        · refine lv_iconst (v := (nI 0)) hx hb d_Puzzles_leastSet_28 (by decide +kernel) ?_
          refine lv_istore (lv' := [(4, .int (nI 0)), (0, .ref (h 5)), (1, .int (nI k)), (2, .int (nI b)), (3, .int (nI i))]) hx hb d_Puzzles_leastSet_29 hl (by decide) rfl (fun ls hl => ?_)
          refine lv_aload_n hx hb d_Puzzles_leastSet_31 rfl (lv_at hl 1 rfl) ?_
          refine R_get X hW i_Puzzles rfl 5 (by decide) kf_Puzzles_22 0 rfl rfl d_Puzzles_leastSet_32 ?_
          refine lv_iload_n hx hb d_Puzzles_leastSet_35 rfl (lv_at hl 4 rfl) ?_
          refine R_iald X hW (t0 := 0) rfl 4 rfl (k := i) (by omega) (by decide) d_Puzzles_leastSet_36 ?_
          refine lv_aload_n hx hb d_Puzzles_leastSet_37 rfl (lv_at hl 1 rfl) ?_
          refine R_get X hW i_Puzzles rfl 5 (by decide) kf_Puzzles_22 0 rfl rfl d_Puzzles_leastSet_38 ?_
          refine lv_iload_n hx hb d_Puzzles_leastSet_41 rfl (lv_at hl 3 rfl) ?_
          refine R_iald X hW (t0 := 0) rfl 4 rfl (k := b) (by omega) (by decide) d_Puzzles_leastSet_42 ?_
          refine N_icmp_ne_NN hx hb (by omega) (by omega) (tgt := 50) d_Puzzles_leastSet_43 (by decide) (fun c43 => ?_) (fun c43 => ?_)
          · refine lv_iconst (v := (nI 0)) hx hb d_Puzzles_leastSet_50 (by decide +kernel) ?_
            refine lv_istore (lv' := [(5, .int (nI 0)), (4, .int (nI 0)), (0, .ref (h 5)), (1, .int (nI k)), (2, .int (nI b)), (3, .int (nI i))]) hx hb d_Puzzles_leastSet_51 hl (by decide) rfl (fun ls hl => ?_)
            refine lv_iload hx hb d_Puzzles_leastSet_53 (lv_at hl 1 rfl) ?_
            refine N_if_ne_N hx hb (by omega) (tgt := 78) d_Puzzles_leastSet_55 (by decide) (fun c55 => ?_) (fun c55 => ?_)
            · exfalso; omega
            · refine lv_iload hx hb d_Puzzles_leastSet_58 (lv_at hl 0 rfl) ?_
              refine N_if_eq_N hx hb (by omega) (tgt := 80) d_Puzzles_leastSet_60 (by decide) (fun c60 => ?_) (fun c60 => ?_)
              · refine lv_iinc (v := (nI (i + 1))) (lv' := [(3, .int (nI (i + 1))), (5, .int (nI 0)), (4, .int (nI 0)), (0, .ref (h 5)), (1, .int (nI k)), (2, .int (nI b))]) hx hb d_Puzzles_leastSet_80 hl (k := 5) rfl (N_inc i) (by decide) rfl (fun ls hl => ?_)
                refine lv_goto (tgt := 4) hx hb d_Puzzles_leastSet_83 (by decide) ?_
                exact ih4 (i + 1) b (by omega) (by rw [← he, lsG]; first | rw [if_pos (by omega)] | rw [if_neg (by omega)]) _ _ hW ls (lv_sub hl [3, 4, 5, 0] rfl)
              · exfalso; omega
          · refine lv_iconst (v := (nI 1)) hx hb d_Puzzles_leastSet_46 (by decide +kernel) ?_
            refine lv_goto (tgt := 51) hx hb d_Puzzles_leastSet_47 (by decide) ?_
            refine lv_istore (lv' := [(5, .int (nI 1)), (4, .int (nI 0)), (0, .ref (h 5)), (1, .int (nI k)), (2, .int (nI b)), (3, .int (nI i))]) hx hb d_Puzzles_leastSet_51 hl (by decide) rfl (fun ls hl => ?_)
            refine lv_iload hx hb d_Puzzles_leastSet_53 (lv_at hl 1 rfl) ?_
            refine N_if_ne_N hx hb (by omega) (tgt := 78) d_Puzzles_leastSet_55 (by decide) (fun c55 => ?_) (fun c55 => ?_)
            · exfalso; omega
            · refine lv_iload hx hb d_Puzzles_leastSet_58 (lv_at hl 0 rfl) ?_
              refine N_if_eq_N hx hb (by omega) (tgt := 80) d_Puzzles_leastSet_60 (by decide) (fun c60 => ?_) (fun c60 => ?_)
              · exfalso; omega
              · refine lv_aload_n hx hb d_Puzzles_leastSet_63 rfl (lv_at hl 2 rfl) ?_
                refine R_get X hW i_Puzzles rfl 6 (by decide) kf_Puzzles_25 0 rfl rfl d_Puzzles_leastSet_64 ?_
                refine lv_iload_n hx hb d_Puzzles_leastSet_67 rfl (lv_at hl 5 rfl) ?_
                refine R_iald X hW (t0 := 0) rfl 5 rfl (k := i) (by omega) (by decide) d_Puzzles_leastSet_68 ?_
                refine lv_aload_n hx hb d_Puzzles_leastSet_69 rfl (lv_at hl 2 rfl) ?_
                refine R_get X hW i_Puzzles rfl 6 (by decide) kf_Puzzles_25 0 rfl rfl d_Puzzles_leastSet_70 ?_
                refine lv_iload_n hx hb d_Puzzles_leastSet_73 rfl (lv_at hl 4 rfl) ?_
                refine R_iald X hW (t0 := 0) rfl 5 rfl (k := b) (by omega) (by decide) d_Puzzles_leastSet_74 ?_
                refine N_icmp_ge_NN hx hb (by omega) (by omega) (tgt := 80) d_Puzzles_leastSet_75 (by decide) (fun c75 => ?_) (fun c75 => ?_)
                · refine lv_iinc (v := (nI (i + 1))) (lv' := [(3, .int (nI (i + 1))), (5, .int (nI 1)), (4, .int (nI 0)), (0, .ref (h 5)), (1, .int (nI k)), (2, .int (nI b))]) hx hb d_Puzzles_leastSet_80 hl (k := 5) rfl (N_inc i) (by decide) rfl (fun ls hl => ?_)
                  refine lv_goto (tgt := 4) hx hb d_Puzzles_leastSet_83 (by decide) ?_
                  exact ih4 (i + 1) b (by omega) (by rw [← he, lsG]; first | rw [if_pos (by omega)] | rw [if_neg (by omega)]) _ _ hW ls (lv_sub hl [3, 4, 5, 0] rfl)
                · refine lv_iload_n hx hb d_Puzzles_leastSet_78 rfl (lv_at hl 5 rfl) ?_
                  refine lv_istore_n (lv' := [(2, .int (nI i)), (5, .int (nI 1)), (4, .int (nI 0)), (0, .ref (h 5)), (1, .int (nI k)), (3, .int (nI i))]) hx hb d_Puzzles_leastSet_79 rfl hl (by decide) rfl (fun ls hl => ?_)
                  refine lv_iinc (v := (nI (i + 1))) (lv' := [(3, .int (nI (i + 1))), (2, .int (nI i)), (5, .int (nI 1)), (4, .int (nI 0)), (0, .ref (h 5)), (1, .int (nI k))]) hx hb d_Puzzles_leastSet_80 hl (k := 5) rfl (N_inc i) (by decide) rfl (fun ls hl => ?_)
                  refine lv_goto (tgt := 4) hx hb d_Puzzles_leastSet_83 (by decide) ?_
                  exact ih4 (i + 1) i (by omega) (by rw [← he, lsG]; first | rw [if_pos (by omega)] | rw [if_neg (by omega)]) _ _ hW ls (lv_sub hl [4, 5, 1, 0] rfl)
        · refine lv_iconst (v := (nI 1)) hx hb d_Puzzles_leastSet_24 (by decide +kernel) ?_
          refine lv_goto (tgt := 29) hx hb d_Puzzles_leastSet_25 (by decide) ?_
          refine lv_istore (lv' := [(4, .int (nI 1)), (0, .ref (h 5)), (1, .int (nI k)), (2, .int (nI b)), (3, .int (nI i))]) hx hb d_Puzzles_leastSet_29 hl (by decide) rfl (fun ls hl => ?_)
          refine lv_aload_n hx hb d_Puzzles_leastSet_31 rfl (lv_at hl 1 rfl) ?_
          refine R_get X hW i_Puzzles rfl 5 (by decide) kf_Puzzles_22 0 rfl rfl d_Puzzles_leastSet_32 ?_
          refine lv_iload_n hx hb d_Puzzles_leastSet_35 rfl (lv_at hl 4 rfl) ?_
          refine R_iald X hW (t0 := 0) rfl 4 rfl (k := i) (by omega) (by decide) d_Puzzles_leastSet_36 ?_
          refine lv_aload_n hx hb d_Puzzles_leastSet_37 rfl (lv_at hl 1 rfl) ?_
          refine R_get X hW i_Puzzles rfl 5 (by decide) kf_Puzzles_22 0 rfl rfl d_Puzzles_leastSet_38 ?_
          refine lv_iload_n hx hb d_Puzzles_leastSet_41 rfl (lv_at hl 3 rfl) ?_
          refine R_iald X hW (t0 := 0) rfl 4 rfl (k := b) (by omega) (by decide) d_Puzzles_leastSet_42 ?_
          refine N_icmp_ne_NN hx hb (by omega) (by omega) (tgt := 50) d_Puzzles_leastSet_43 (by decide) (fun c43 => ?_) (fun c43 => ?_)
          · refine lv_iconst (v := (nI 0)) hx hb d_Puzzles_leastSet_50 (by decide +kernel) ?_
            refine lv_istore (lv' := [(5, .int (nI 0)), (4, .int (nI 1)), (0, .ref (h 5)), (1, .int (nI k)), (2, .int (nI b)), (3, .int (nI i))]) hx hb d_Puzzles_leastSet_51 hl (by decide) rfl (fun ls hl => ?_)
            refine lv_iload hx hb d_Puzzles_leastSet_53 (lv_at hl 1 rfl) ?_
            refine N_if_ne_N hx hb (by omega) (tgt := 78) d_Puzzles_leastSet_55 (by decide) (fun c55 => ?_) (fun c55 => ?_)
            · refine lv_iload_n hx hb d_Puzzles_leastSet_78 rfl (lv_at hl 5 rfl) ?_
              refine lv_istore_n (lv' := [(2, .int (nI i)), (5, .int (nI 0)), (4, .int (nI 1)), (0, .ref (h 5)), (1, .int (nI k)), (3, .int (nI i))]) hx hb d_Puzzles_leastSet_79 rfl hl (by decide) rfl (fun ls hl => ?_)
              refine lv_iinc (v := (nI (i + 1))) (lv' := [(3, .int (nI (i + 1))), (2, .int (nI i)), (5, .int (nI 0)), (4, .int (nI 1)), (0, .ref (h 5)), (1, .int (nI k))]) hx hb d_Puzzles_leastSet_80 hl (k := 5) rfl (N_inc i) (by decide) rfl (fun ls hl => ?_)
              refine lv_goto (tgt := 4) hx hb d_Puzzles_leastSet_83 (by decide) ?_
              exact ih4 (i + 1) i (by omega) (by rw [← he, lsG]; first | rw [if_pos (by omega)] | rw [if_neg (by omega)]) _ _ hW ls (lv_sub hl [4, 5, 1, 0] rfl)
            · exfalso; omega
          · refine lv_iconst (v := (nI 1)) hx hb d_Puzzles_leastSet_46 (by decide +kernel) ?_
            refine lv_goto (tgt := 51) hx hb d_Puzzles_leastSet_47 (by decide) ?_
            refine lv_istore (lv' := [(5, .int (nI 1)), (4, .int (nI 1)), (0, .ref (h 5)), (1, .int (nI k)), (2, .int (nI b)), (3, .int (nI i))]) hx hb d_Puzzles_leastSet_51 hl (by decide) rfl (fun ls hl => ?_)
            refine lv_iload hx hb d_Puzzles_leastSet_53 (lv_at hl 1 rfl) ?_
            refine N_if_ne_N hx hb (by omega) (tgt := 78) d_Puzzles_leastSet_55 (by decide) (fun c55 => ?_) (fun c55 => ?_)
            · refine lv_iload_n hx hb d_Puzzles_leastSet_78 rfl (lv_at hl 5 rfl) ?_
              refine lv_istore_n (lv' := [(2, .int (nI i)), (5, .int (nI 1)), (4, .int (nI 1)), (0, .ref (h 5)), (1, .int (nI k)), (3, .int (nI i))]) hx hb d_Puzzles_leastSet_79 rfl hl (by decide) rfl (fun ls hl => ?_)
              refine lv_iinc (v := (nI (i + 1))) (lv' := [(3, .int (nI (i + 1))), (2, .int (nI i)), (5, .int (nI 1)), (4, .int (nI 1)), (0, .ref (h 5)), (1, .int (nI k))]) hx hb d_Puzzles_leastSet_80 hl (k := 5) rfl (N_inc i) (by decide) rfl (fun ls hl => ?_)
              refine lv_goto (tgt := 4) hx hb d_Puzzles_leastSet_83 (by decide) ?_
              exact ih4 (i + 1) i (by omega) (by rw [← he, lsG]; first | rw [if_pos (by omega)] | rw [if_neg (by omega)]) _ _ hW ls (lv_sub hl [4, 5, 1, 0] rfl)
            · exfalso; omega
  exact L4 (k - 1) 1 0 (by omega) rfl _ _ hW ls (lv_sub hl [2, 3, 1, 0] rfl)

theorem kb_Puzzles_leastSet : Cond.code y_Puzzles_leastSet b_Puzzles_leastSet 6 (some .int) ∈ TBL := TBL_t (List.mem_append_right _ (List.mem_append_right _ (List.mem_of_getElem? (i := 2) rfl))) rfl
theorem kn_Puzzles : Cond.initialized "ContestRows$Puzzles" ∈ TBL := TBL_t (List.mem_append_left _ (List.mem_of_getElem? (i := 2) rfl)) rfl
theorem km_Puzzles_42 : Cond.methodLink "ContestRows$Puzzles" 42 y_Puzzles_leastSet ∈ TBL := TBL_t (List.mem_append_right _ (List.mem_append_left _ (List.mem_of_getElem? (i := 239) rfl))) rfl
theorem cw_Puzzles_42 : Cw "ContestRows$Puzzles" 42 y_Puzzles_leastSet b_Puzzles_leastSet 6 (some .int) 1 := ⟨kb_Puzzles_leastSet, kn_Puzzles, km_Puzzles_42, by decide +kernel⟩
theorem ki_Puzzles_leastSet : Cond.instanceMethod y_Puzzles_leastSet ∈ TBL := TBL_t (List.mem_append_right _ (List.mem_append_right _ (List.mem_of_getElem? (i := 1) rfl))) rfl
theorem ks_Puzzles_leastSet : Cond.selects "ContestRows$Puzzles" y_Puzzles_leastSet y_Puzzles_leastSet ∈ TBL := TBL_in (List.mem_append_left _ (List.mem_map.mpr ⟨(y_Puzzles_leastSet, 7), by decide +kernel, rfl⟩)) rfl
set_option maxHeartbeats 4000000 in
set_option maxRecDepth 100000 in
theorem c_Puzzles_setOf (l : Launch) (G : va_G) (cI cZ cJ : ClassId) (h : Nat → Nat) (np : Nat) (tot : Nat) (gr : Nat → Nat) (fa : Nat → Nat) (re : Nat → Bool) (ss : Nat → Nat) (sc : Nat → Nat) (q : Nat) (k : Nat) (hk : 1 ≤ k ∧ k ≤ 6) (hnp : np ≤ 20) (hq : q < 2 ^ 31) (hfa : ∀ i, i < np → fa i < 20) (hgr : ∀ i, i < 20 → gr i ≤ 100) : Ct l G (tyL cI cZ cJ) y_Puzzles_setOf b_Puzzles_setOf 6 (some .int) (rmL 1) [.ref (h 5), .int (nI q), .int (nI k)] (w_Puz h cI cZ cJ np tot gr fa re ss sc) (some (.int (oI ((setF gr fa ss sc np k q).1)))) (w_Puz h cI cZ cJ np tot gr fa re ((setF gr fa ss sc np k q).2.1) ((setF gr fa ss sc np k q).2.2)) := by
  refine M_start (by decide) (Nat.le_of_ble_eq_true rfl) ?_
  intro p e s m args below meth c A Q ls X Y hW hl
  have hx := X.1.1
  have hb := X.1.2.1
  have hl : lv_has ls 6 [(0, .ref (h 5)), (1, .int (nI q)), (2, .int (nI k))] := hl
  refine lv_iconst (v := (nI 0)) hx hb d_Puzzles_setOf_0 (by decide +kernel) ?_
  refine lv_istore_n (lv' := [(3, .int (nI 0)), (0, .ref (h 5)), (1, .int (nI q)), (2, .int (nI k))]) hx hb d_Puzzles_setOf_1 rfl hl (by decide) rfl (fun ls hl => ?_)
  have L2 : ∀ (n : Nat) (i : Nat) (hi : i + n = 6) (H : Heap) (locs : List Loc) (hW : Wr G A s.heap (w_Puz h cI cZ cJ np tot gr fa re (upK 0 i ss) (upK 0 i sc)) H locs) (ls : Array Slot) (hl : lv_has ls 6 [(0, .ref (h 5)), (1, .int (nI q)), (2, .int (nI k)), (3, .int (nI i))]), W p l e (rmL 1) s m args below meth c H locs 0 0 Q (F0 m 2 ls []) := by
    intro n
    induction n with
    | zero =>
      intro i hi H locs hW ls hl
      refine lv_iload_n hx hb d_Puzzles_setOf_2 rfl (lv_at hl 3 rfl) ?_
      refine lv_bipush (v := (nI 6)) hx hb d_Puzzles_setOf_3 (by decide +kernel) ?_
      refine N_icmp_ge_NN hx hb (by omega) (by decide) (tgt := 28) d_Puzzles_setOf_5 (by decide) (fun c5 => ?_) (fun c5 => ?_)
      · have e9 : 6 = i := by omega
        subst e9
        refine lv_iconst (v := (nI 0)) hx hb d_Puzzles_setOf_28 (by decide +kernel) ?_
        refine lv_istore_n (lv' := [(3, .int (nI 0)), (0, .ref (h 5)), (1, .int (nI q)), (2, .int (nI k))]) hx hb d_Puzzles_setOf_29 rfl hl (by decide) rfl (fun ls hl => ?_)
        have L30 : ∀ (n2 : Nat) (j : Nat) (s1 : Nat → Nat) (c1 : Nat → Nat) (hj : j + n2 = np) (hs1 : ∀ i, i < 6 → s1 i ≤ 100 * j) (hc1 : ∀ i, i < 6 → c1 i ≤ j) (he : setG gr fa k q n2 j s1 c1 = setF gr fa ss sc np k q) (H : Heap) (locs : List Loc) (hW : Wr G A s.heap (w_Puz h cI cZ cJ np tot gr fa re s1 c1) H locs) (ls : Array Slot) (hl : lv_has ls 6 [(0, .ref (h 5)), (1, .int (nI q)), (2, .int (nI k)), (3, .int (nI j))]), W p l e (rmL 1) s m args below meth c H locs 0 0 Q (F0 m 30 ls []) := by
          intro n2
          induction n2 with
          | zero =>
            intro j s1 c1 hj hs1 hc1 he H locs hW ls hl
            refine lv_iload_n hx hb d_Puzzles_setOf_30 rfl (lv_at hl 3 rfl) ?_
            refine lv_aload_n hx hb d_Puzzles_setOf_31 rfl (lv_at hl 0 rfl) ?_
            refine R_get X hW i_Puzzles rfl 1 (by decide) kf_Puzzles_28 0 rfl rfl d_Puzzles_setOf_32 ?_
            refine N_icmp_ge_NN hx hb (by omega) (by omega) (tgt := 96) d_Puzzles_setOf_35 (by decide) (fun c35 => ?_) (fun c35 => ?_)
            · refine lv_iconst (v := (-1)) hx hb d_Puzzles_setOf_96 (by decide +kernel) ?_
              exact R_iret X Y hW (by rw [← he]; rfl) (by rw [← he]; rfl) d_Puzzles_setOf_97
            · exfalso; omega
          | succ n2 ih30 =>
            intro j s1 c1 hj hs1 hc1 he H locs hW ls hl
            refine lv_iload_n hx hb d_Puzzles_setOf_30 rfl (lv_at hl 3 rfl) ?_
            refine lv_aload_n hx hb d_Puzzles_setOf_31 rfl (lv_at hl 0 rfl) ?_
            refine R_get X hW i_Puzzles rfl 1 (by decide) kf_Puzzles_28 0 rfl rfl d_Puzzles_setOf_32 ?_
            refine N_icmp_ge_NN hx hb (by omega) (by omega) (tgt := 96) d_Puzzles_setOf_35 (by decide) (fun c35 => ?_) (fun c35 => ?_)
            · exfalso; omega
            · have q1 := hfa j (by omega)
              have q2 := hgr (fa j) q1
              have q3 := lsF_lt (ss := s1) (sc := c1) hk.1
              refine lv_aload_n hx hb d_Puzzles_setOf_38 rfl (lv_at hl 0 rfl) ?_
              refine R_get X hW i_Puzzles rfl 2 (by decide) kf_Puzzles_15 0 rfl rfl d_Puzzles_setOf_39 ?_
              refine lv_iload_n hx hb d_Puzzles_setOf_42 rfl (lv_at hl 3 rfl) ?_
              refine R_iald X hW (t0 := 0) rfl 2 rfl (k := j) (by omega) (by decide) d_Puzzles_setOf_43 ?_
              refine lv_istore (lv' := [(4, .int (nI (fa j))), (0, .ref (h 5)), (1, .int (nI q)), (2, .int (nI k)), (3, .int (nI j))]) hx hb d_Puzzles_setOf_44 hl (by decide) rfl (fun ls hl => ?_)
              refine lv_aload_n hx hb d_Puzzles_setOf_46 rfl (lv_at hl 1 rfl) ?_
              refine lv_iload_n hx hb d_Puzzles_setOf_47 rfl (lv_at hl 3 rfl) ?_
              refine R_callV (q0 := 0) (c_Puzzles_leastSet l G cI cZ cJ h np tot gr fa re s1 c1 k hk (fun i hi => by have := hs1 i hi; omega) (fun i hi => by have := hc1 i hi; omega)) X rfl hW cw_Puzzles_42 ki_Puzzles_leastSet ks_Puzzles_leastSet rfl rfl ⟨rfl, rfl⟩ ⟨by decide, by decide⟩ ⟨Nat.zero_le _, Nat.zero_le _⟩ [true, true, true, true, true, true] rfl (Nat.le_of_ble_eq_true rfl) rfl rfl hl.1 rfl rfl (Nat.le_of_ble_eq_true rfl) d_Puzzles_setOf_48 rfl (fun H locs hW => ?_)
              have hW : Wr G A s.heap (w_Puz h cI cZ cJ np tot gr fa re s1 c1) H locs := hW
              refine lv_istore (lv' := [(5, .int (nI (lsF s1 c1 k))), (4, .int (nI (fa j))), (0, .ref (h 5)), (1, .int (nI q)), (2, .int (nI k)), (3, .int (nI j))]) hx hb d_Puzzles_setOf_51 hl (by decide) rfl (fun ls hl => ?_)
              refine lv_iload hx hb d_Puzzles_setOf_53 (lv_at hl 1 rfl) ?_
              refine lv_iload_n hx hb d_Puzzles_setOf_55 rfl (lv_at hl 3 rfl) ?_
              refine N_icmp_ne_NN hx hb (by omega) (by omega) (tgt := 62) d_Puzzles_setOf_56 (by decide) (fun c56 => ?_) (fun c56 => ?_)
              · refine lv_aload_n hx hb d_Puzzles_setOf_62 rfl (lv_at hl 2 rfl) ?_
                refine R_get X hW i_Puzzles rfl 5 (by decide) kf_Puzzles_22 0 rfl rfl d_Puzzles_setOf_63 ?_
                refine lv_iload hx hb d_Puzzles_setOf_66 (lv_at hl 0 rfl) ?_
                refine lv_dup2_11 hx hb d_Puzzles_setOf_68 rfl rfl ?_
                refine R_iald X hW (t0 := 0) rfl 4 rfl (k := (lsF s1 c1 k)) (by omega) (by decide) d_Puzzles_setOf_69 ?_
                refine lv_aload_n hx hb d_Puzzles_setOf_70 rfl (lv_at hl 2 rfl) ?_
                refine R_get X hW i_Puzzles rfl 0 (by decide) kf_Puzzles_11 0 rfl rfl d_Puzzles_setOf_71 ?_
                refine lv_iload hx hb d_Puzzles_setOf_74 (lv_at hl 1 rfl) ?_
                refine R_iald X hW (t0 := 0) rfl 1 rfl (k := (fa j)) (by omega) (by decide) d_Puzzles_setOf_76 ?_
                refine N_iadd hx hb d_Puzzles_setOf_77 ?_
                refine R_iast X hW (t0 := 0) rfl 4 rfl (k := (lsF s1 c1 k)) (by omega) (by decide) ((s1 (lsF s1 c1 k)) + (gr (fa j))) rfl d_Puzzles_setOf_78 (fun H locs hW => ?_)
                have hW : Wr G A s.heap (w_Puz h cI cZ cJ np tot gr fa re (va_up s1 (lsF s1 c1 k) ((s1 (lsF s1 c1 k)) + (gr (fa j)))) c1) H locs := hW
                refine lv_aload_n hx hb d_Puzzles_setOf_79 rfl (lv_at hl 2 rfl) ?_
                refine R_get X hW i_Puzzles rfl 6 (by decide) kf_Puzzles_25 0 rfl rfl d_Puzzles_setOf_80 ?_
                refine lv_iload hx hb d_Puzzles_setOf_83 (lv_at hl 0 rfl) ?_
                refine lv_dup2_11 hx hb d_Puzzles_setOf_85 rfl rfl ?_
                refine R_iald X hW (t0 := 0) rfl 5 rfl (k := (lsF s1 c1 k)) (by omega) (by decide) d_Puzzles_setOf_86 ?_
                refine lv_iconst (v := (nI 1)) hx hb d_Puzzles_setOf_87 (by decide +kernel) ?_
                refine N_iadd hx hb d_Puzzles_setOf_88 ?_
                refine R_iast X hW (t0 := 0) rfl 5 rfl (k := (lsF s1 c1 k)) (by omega) (by decide) ((c1 (lsF s1 c1 k)) + 1) rfl d_Puzzles_setOf_89 (fun H locs hW => ?_)
                have hW : Wr G A s.heap (w_Puz h cI cZ cJ np tot gr fa re (va_up s1 (lsF s1 c1 k) ((s1 (lsF s1 c1 k)) + (gr (fa j)))) (va_up c1 (lsF s1 c1 k) ((c1 (lsF s1 c1 k)) + 1))) H locs := hW
                refine lv_iinc (v := (nI (j + 1))) (lv' := [(3, .int (nI (j + 1))), (5, .int (nI (lsF s1 c1 k))), (4, .int (nI (fa j))), (0, .ref (h 5)), (1, .int (nI q)), (2, .int (nI k))]) hx hb d_Puzzles_setOf_90 hl (k := 5) rfl (N_inc j) (by decide) rfl (fun ls hl => ?_)
                refine lv_goto (tgt := 30) hx hb d_Puzzles_setOf_93 (by decide) ?_
                exact ih30 (j + 1) (va_up s1 (lsF s1 c1 k) ((s1 (lsF s1 c1 k)) + (gr (fa j)))) (va_up c1 (lsF s1 c1 k) ((c1 (lsF s1 c1 k)) + 1)) (by omega) (fun i hi => by have z1 := hs1 i hi; have z2 := hs1 (lsF s1 c1 k) (by omega); simp only [va_up]; split <;> omega) (fun i hi => by have z1 := hc1 i hi; have z2 := hc1 (lsF s1 c1 k) (by omega); simp only [va_up]; split <;> omega) (by rw [← he, setG, if_neg c56]) _ _ hW ls (lv_sub hl [3, 4, 5, 0] rfl)
              · refine lv_iload hx hb d_Puzzles_setOf_59 (lv_at hl 0 rfl) ?_
                exact R_iret X Y hW (by rw [← he, setG, if_pos c56]) (by rw [← he, setG, if_pos c56]; rfl) d_Puzzles_setOf_61
        exact L30 np 0 (upK 0 6 ss) (upK 0 6 sc) (by omega) (fun i hi => by rw [upK_lt _ _ _ _ hi]; omega) (fun i hi => by rw [upK_lt _ _ _ _ hi]; omega) rfl _ _ hW ls (lv_sub hl [1, 2, 3, 0] rfl)
      · exfalso; omega
    | succ n ih2 =>
      intro i hi H locs hW ls hl
      refine lv_iload_n hx hb d_Puzzles_setOf_2 rfl (lv_at hl 3 rfl) ?_
      refine lv_bipush (v := (nI 6)) hx hb d_Puzzles_setOf_3 (by decide +kernel) ?_
      refine N_icmp_ge_NN hx hb (by omega) (by decide) (tgt := 28) d_Puzzles_setOf_5 (by decide) (fun c5 => ?_) (fun c5 => ?_)
      · exfalso; omega
      · refine lv_aload_n hx hb d_Puzzles_setOf_8 rfl (lv_at hl 0 rfl) ?_
        refine R_get X hW i_Puzzles rfl 5 (by decide) kf_Puzzles_22 0 rfl rfl d_Puzzles_setOf_9 ?_
        refine lv_iload_n hx hb d_Puzzles_setOf_12 rfl (lv_at hl 3 rfl) ?_
        refine lv_iconst (v := (nI 0)) hx hb d_Puzzles_setOf_13 (by decide +kernel) ?_
        refine R_iast X hW (t0 := 0) rfl 4 rfl (k := i) (by omega) (by decide) 0 rfl d_Puzzles_setOf_14 (fun H locs hW => ?_)
        have hW : Wr G A s.heap (w_Puz h cI cZ cJ np tot gr fa re (va_up (upK 0 i ss) i 0) (upK 0 i sc)) H locs := hW
        refine lv_aload_n hx hb d_Puzzles_setOf_15 rfl (lv_at hl 0 rfl) ?_
        refine R_get X hW i_Puzzles rfl 6 (by decide) kf_Puzzles_25 0 rfl rfl d_Puzzles_setOf_16 ?_
        refine lv_iload_n hx hb d_Puzzles_setOf_19 rfl (lv_at hl 3 rfl) ?_
        refine lv_iconst (v := (nI 0)) hx hb d_Puzzles_setOf_20 (by decide +kernel) ?_
        refine R_iast X hW (t0 := 0) rfl 5 rfl (k := i) (by omega) (by decide) 0 rfl d_Puzzles_setOf_21 (fun H locs hW => ?_)
        have hW : Wr G A s.heap (w_Puz h cI cZ cJ np tot gr fa re (va_up (upK 0 i ss) i 0) (va_up (upK 0 i sc) i 0)) H locs := hW
        refine lv_iinc (v := (nI (i + 1))) (lv' := [(3, .int (nI (i + 1))), (0, .ref (h 5)), (1, .int (nI q)), (2, .int (nI k))]) hx hb d_Puzzles_setOf_22 hl (k := 3) rfl (N_inc i) (by decide) rfl (fun ls hl => ?_)
        refine lv_goto (tgt := 2) hx hb d_Puzzles_setOf_25 (by decide) ?_
        exact ih2 (i + 1) (by omega) _ _ hW ls (lv_sub hl [1, 2, 3, 0] rfl)
  exact L2 6 0 (by omega) _ _ hW ls (lv_sub hl [1, 2, 3, 0] rfl)

theorem kb_Puzzles_putFalling : Cond.code y_Puzzles_putFalling b_Puzzles_putFalling 3 none ∈ TBL := TBL_t (List.mem_append_left _ (List.mem_of_getElem? (i := 181) rfl)) rfl
theorem km_Puzzles_32 : Cond.methodLink "ContestRows$Puzzles" 32 y_Puzzles_putFalling ∈ TBL := TBL_t (List.mem_append_left _ (List.mem_of_getElem? (i := 178) rfl)) rfl
theorem cw_Puzzles_32 : Cw "ContestRows$Puzzles" 32 y_Puzzles_putFalling b_Puzzles_putFalling 3 none 1 := ⟨kb_Puzzles_putFalling, kn_Puzzles, km_Puzzles_32, by decide +kernel⟩
theorem ki_Puzzles_putFalling : Cond.instanceMethod y_Puzzles_putFalling ∈ TBL := TBL_t (List.mem_append_left _ (List.mem_of_getElem? (i := 180) rfl)) rfl
theorem ks_Puzzles_putFalling : Cond.selects "ContestRows$Puzzles" y_Puzzles_putFalling y_Puzzles_putFalling ∈ TBL := TBL_in (List.mem_append_left _ (List.mem_map.mpr ⟨(y_Puzzles_putFalling, 7), by decide +kernel, rfl⟩)) rfl
theorem kb_Puzzles_reachWith : Cond.code y_Puzzles_reachWith b_Puzzles_reachWith 3 none ∈ TBL := TBL_t (List.mem_append_left _ (List.mem_of_getElem? (i := 185) rfl)) rfl
theorem km_Puzzles_36 : Cond.methodLink "ContestRows$Puzzles" 36 y_Puzzles_reachWith ∈ TBL := TBL_t (List.mem_append_left _ (List.mem_of_getElem? (i := 182) rfl)) rfl
theorem cw_Puzzles_36 : Cw "ContestRows$Puzzles" 36 y_Puzzles_reachWith b_Puzzles_reachWith 3 none 1 := ⟨kb_Puzzles_reachWith, kn_Puzzles, km_Puzzles_36, by decide +kernel⟩
theorem ki_Puzzles_reachWith : Cond.instanceMethod y_Puzzles_reachWith ∈ TBL := TBL_t (List.mem_append_left _ (List.mem_of_getElem? (i := 184) rfl)) rfl
theorem ks_Puzzles_reachWith : Cond.selects "ContestRows$Puzzles" y_Puzzles_reachWith y_Puzzles_reachWith ∈ TBL := TBL_in (List.mem_append_left _ (List.mem_map.mpr ⟨(y_Puzzles_reachWith, 7), by decide +kernel, rfl⟩)) rfl
set_option maxHeartbeats 4000000 in
set_option maxRecDepth 100000 in
theorem c_Puzzles_add_ok (l : Launch) (G : va_G) (cI cZ cJ : ClassId) (h : Nat → Nat) (np : Nat) (tot : Nat) (gr : Nat → Nat) (fa : Nat → Nat) (re : Nat → Bool) (ss : Nat → Nat) (sc : Nat → Nat) (g : Nat) (hg : 1 ≤ g ∧ g ≤ 100) (hn : np < 20) (ht : tot ≤ 2000) (hfa : ∀ i, i < np → fa i < 20) (hgr : ∀ i, i < 20 → gr i ≤ 100) : Ct l G (tyL cI cZ cJ) y_Puzzles_add b_Puzzles_add 2 (some .int) (rmL 1) [.ref (h 5), .int (nI g)] (w_Puz h cI cZ cJ np tot gr fa re ss sc) (some (.int (nI np))) (w_Puz h cI cZ cJ (np + 1) (tot + g) (va_up gr np g) (insG (ltD (va_up gr np g)) np np fa) (rchG g 1000 (va_up re 0 true)) ss sc) := by
  refine M_start (by decide) (Nat.le_of_ble_eq_true rfl) ?_
  intro p e s m args below meth c A Q ls X Y hW hl
  have hx := X.1.1
  have hb := X.1.2.1
  have hl : lv_has ls 2 [(0, .ref (h 5)), (1, .int (nI g))] := hl
  refine lv_iload_n hx hb d_Puzzles_add_0 rfl (lv_at hl 1 rfl) ?_
  refine lv_iconst (v := (nI 1)) hx hb d_Puzzles_add_1 (by decide +kernel) ?_
  refine N_icmp_lt_NN hx hb (by omega) (by decide) (tgt := 20) d_Puzzles_add_2 (by decide) (fun c2 => ?_) (fun c2 => ?_)
  · exfalso; omega
  · refine lv_iload_n hx hb d_Puzzles_add_5 rfl (lv_at hl 1 rfl) ?_
    refine lv_bipush (v := (nI 100)) hx hb d_Puzzles_add_6 (by decide +kernel) ?_
    refine N_icmp_gt_NN hx hb (by omega) (by decide) (tgt := 20) d_Puzzles_add_8 (by decide) (fun c8 => ?_) (fun c8 => ?_)
    · exfalso; omega
    · refine lv_aload_n hx hb d_Puzzles_add_11 rfl (lv_at hl 0 rfl) ?_
      refine R_get X hW i_Puzzles rfl 1 (by decide) kf_Puzzles_28 0 rfl rfl d_Puzzles_add_12 ?_
      refine lv_bipush (v := (nI 20)) hx hb d_Puzzles_add_15 (by decide +kernel) ?_
      refine N_icmp_lt_NN hx hb (by omega) (by decide) (tgt := 22) d_Puzzles_add_17 (by decide) (fun c17 => ?_) (fun c17 => ?_)
      · refine lv_aload_n hx hb d_Puzzles_add_22 rfl (lv_at hl 0 rfl) ?_
        refine R_get X hW i_Puzzles rfl 0 (by decide) kf_Puzzles_11 0 rfl rfl d_Puzzles_add_23 ?_
        refine lv_aload_n hx hb d_Puzzles_add_26 rfl (lv_at hl 0 rfl) ?_
        refine R_get X hW i_Puzzles rfl 1 (by decide) kf_Puzzles_28 0 rfl rfl d_Puzzles_add_27 ?_
        refine lv_iload_n hx hb d_Puzzles_add_30 rfl (lv_at hl 1 rfl) ?_
        refine R_iast X hW (t0 := 0) rfl 1 rfl (k := np) (by omega) (by decide) g rfl d_Puzzles_add_31 (fun H locs hW => ?_)
        have hW : Wr G A s.heap (w_Puz h cI cZ cJ np tot (va_up gr np g) fa re ss sc) H locs := hW
        refine lv_aload_n hx hb d_Puzzles_add_32 rfl (lv_at hl 0 rfl) ?_
        refine lv_aload_n hx hb d_Puzzles_add_33 rfl (lv_at hl 0 rfl) ?_
        refine R_get X hW i_Puzzles rfl 1 (by decide) kf_Puzzles_28 0 rfl rfl d_Puzzles_add_34 ?_
        refine R_callV (q0 := 0) (c_Puzzles_putFalling l G cI cZ cJ h np tot (va_up gr np g) fa re ss sc np hn hfa (fun i hi => by have := hgr i hi; simp only [va_up]; split <;> omega)) X rfl hW cw_Puzzles_32 ki_Puzzles_putFalling ks_Puzzles_putFalling rfl rfl ⟨rfl, rfl⟩ ⟨by decide, by decide⟩ ⟨Nat.zero_le _, Nat.zero_le _⟩ [true, true, true, true, true, true] rfl (Nat.le_of_ble_eq_true rfl) rfl rfl hl.1 rfl rfl (Nat.le_of_ble_eq_true rfl) d_Puzzles_add_37 rfl (fun H locs hW => ?_)
        have hW : Wr G A s.heap (w_Puz h cI cZ cJ np tot (va_up gr np g) (insG (ltD (va_up gr np g)) np np fa) re ss sc) H locs := hW
        refine lv_aload_n hx hb d_Puzzles_add_40 rfl (lv_at hl 0 rfl) ?_
        refine lv_iload_n hx hb d_Puzzles_add_41 rfl (lv_at hl 1 rfl) ?_
        refine R_callV (q0 := 0) (c_Puzzles_reachWith l G cI cZ cJ h np tot (va_up gr np g) (insG (ltD (va_up gr np g)) np np fa) re ss sc g hg) X rfl hW cw_Puzzles_36 ki_Puzzles_reachWith ks_Puzzles_reachWith rfl rfl ⟨rfl, rfl⟩ ⟨by decide, by decide⟩ ⟨Nat.zero_le _, Nat.zero_le _⟩ [true, true, true, true, true, true] rfl (Nat.le_of_ble_eq_true rfl) rfl rfl hl.1 rfl rfl (Nat.le_of_ble_eq_true rfl) d_Puzzles_add_42 rfl (fun H locs hW => ?_)
        have hW : Wr G A s.heap (w_Puz h cI cZ cJ np tot (va_up gr np g) (insG (ltD (va_up gr np g)) np np fa) (rchG g 1000 (va_up re 0 true)) ss sc) H locs := hW
        refine lv_aload_n hx hb d_Puzzles_add_45 rfl (lv_at hl 0 rfl) ?_
        refine lv_dup hx hb d_Puzzles_add_46 rfl ?_
        refine R_get X hW i_Puzzles rfl 4 (by decide) kf_Puzzles_39 0 rfl rfl d_Puzzles_add_47 ?_
        refine lv_iload_n hx hb d_Puzzles_add_50 rfl (lv_at hl 1 rfl) ?_
        refine N_iadd hx hb d_Puzzles_add_51 ?_
        refine R_put X hW i_Puzzles rfl t_Puzzles t_Puzzles_ok n_Puzzles 4 (by decide) kf_Puzzles_39 rfl (ty := .int) (by decide +kernel) 0 rfl (v := .int (nI (tot + g))) rfl rfl (Nat.le_of_ble_eq_true rfl) d_Puzzles_add_52 (fun H locs hW => ?_)
        have hW : Wr G A s.heap (w_Puz h cI cZ cJ np (tot + g) (va_up gr np g) (insG (ltD (va_up gr np g)) np np fa) (rchG g 1000 (va_up re 0 true)) ss sc) H locs := hW
        refine lv_aload_n hx hb d_Puzzles_add_55 rfl (lv_at hl 0 rfl) ?_
        refine lv_dup hx hb d_Puzzles_add_56 rfl ?_
        refine R_get X hW i_Puzzles rfl 1 (by decide) kf_Puzzles_28 0 rfl rfl d_Puzzles_add_57 ?_
        refine lv_iconst (v := (nI 1)) hx hb d_Puzzles_add_60 (by decide +kernel) ?_
        refine N_iadd hx hb d_Puzzles_add_61 ?_
        refine R_put X hW i_Puzzles rfl t_Puzzles t_Puzzles_ok n_Puzzles 1 (by decide) kf_Puzzles_28 rfl (ty := .int) (by decide +kernel) 0 rfl (v := .int (nI (np + 1))) rfl rfl (Nat.le_of_ble_eq_true rfl) d_Puzzles_add_62 (fun H locs hW => ?_)
        have hW : Wr G A s.heap (w_Puz h cI cZ cJ (np + 1) (tot + g) (va_up gr np g) (insG (ltD (va_up gr np g)) np np fa) (rchG g 1000 (va_up re 0 true)) ss sc) H locs := hW
        refine lv_aload_n hx hb d_Puzzles_add_65 rfl (lv_at hl 0 rfl) ?_
        refine R_get X hW i_Puzzles rfl 1 (by decide) kf_Puzzles_28 0 rfl rfl d_Puzzles_add_66 ?_
        refine lv_iconst (v := (nI 1)) hx hb d_Puzzles_add_69 (by decide +kernel) ?_
        refine N_isub (r := np) hx hb (by omega) (by omega) d_Puzzles_add_70 ?_
        exact R_iret X Y hW rfl rfl d_Puzzles_add_71
      · exfalso; omega

set_option maxHeartbeats 4000000 in
set_option maxRecDepth 100000 in
theorem c_Puzzles_add_bad (l : Launch) (G : va_G) (cI cZ cJ : ClassId) (h : Nat → Nat) (np : Nat) (tot : Nat) (gr : Nat → Nat) (fa : Nat → Nat) (re : Nat → Bool) (ss : Nat → Nat) (sc : Nat → Nat) (g : Int32) (hg : ¬ (1 ≤ g.toInt ∧ g.toInt ≤ 100 ∧ np < 20)) (hn : np ≤ 20) : Ct l G (tyL cI cZ cJ) y_Puzzles_add b_Puzzles_add 2 (some .int) (rmL 1) [.ref (h 5), .int g] (w_Puz h cI cZ cJ np tot gr fa re ss sc) (some (.int (-1))) (w_Puz h cI cZ cJ np tot gr fa re ss sc) := by
  refine M_start (by decide) (Nat.le_of_ble_eq_true rfl) ?_
  intro p e s m args below meth c A Q ls X Y hW hl
  have hx := X.1.1
  have hb := X.1.2.1
  have hl : lv_has ls 2 [(0, .ref (h 5)), (1, .int g)] := hl
  refine lv_iload_n hx hb d_Puzzles_add_0 rfl (lv_at hl 1 rfl) ?_
  refine lv_iconst (v := (nI 1)) hx hb d_Puzzles_add_1 (by decide +kernel) ?_
  refine N_icmp_lt_RN hx hb (by decide) (tgt := 20) d_Puzzles_add_2 (by decide) (fun c2 => ?_) (fun c2 => ?_)
  · refine lv_iconst (v := (-1)) hx hb d_Puzzles_add_20 (by decide +kernel) ?_
    exact R_iret X Y hW rfl rfl d_Puzzles_add_21
  · refine lv_iload_n hx hb d_Puzzles_add_5 rfl (lv_at hl 1 rfl) ?_
    refine lv_bipush (v := (nI 100)) hx hb d_Puzzles_add_6 (by decide +kernel) ?_
    refine N_icmp_gt_RN hx hb (by decide) (tgt := 20) d_Puzzles_add_8 (by decide) (fun c8 => ?_) (fun c8 => ?_)
    · refine lv_iconst (v := (-1)) hx hb d_Puzzles_add_20 (by decide +kernel) ?_
      exact R_iret X Y hW rfl rfl d_Puzzles_add_21
    · refine lv_aload_n hx hb d_Puzzles_add_11 rfl (lv_at hl 0 rfl) ?_
      refine R_get X hW i_Puzzles rfl 1 (by decide) kf_Puzzles_28 0 rfl rfl d_Puzzles_add_12 ?_
      refine lv_bipush (v := (nI 20)) hx hb d_Puzzles_add_15 (by decide +kernel) ?_
      refine N_icmp_lt_NN hx hb (by omega) (by decide) (tgt := 22) d_Puzzles_add_17 (by decide) (fun c17 => ?_) (fun c17 => ?_)
      · exfalso; omega
      · refine lv_iconst (v := (-1)) hx hb d_Puzzles_add_20 (by decide +kernel) ?_
        exact R_iret X Y hW rfl rfl d_Puzzles_add_21
