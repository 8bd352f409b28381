theorem kf_Rules_13 : Cond.fieldLink "ContestRows$Rules" 13 "ContestRows$Rules" "told" "[I" ∈ TBL := TBL_t (List.mem_append_left _ (List.mem_of_getElem? (i := 136) rfl)) rfl
set_option maxHeartbeats 4000000 in
set_option maxRecDepth 100000 in
theorem c_Rules_tell (l : Launch) (G : va_G) (cI cZ cJ : ClassId) (h : Nat → Nat) (nw : Nat → Nat) (td : Nat → Nat) (z : Nat) (v : Nat) (hz : z < 5) : Ct l G (tyL cI cZ cJ) y_Rules_tell b_Rules_tell 3 none (rmL 0) [.ref (h 25), .int (nI z), .int (nI v)] (w_Rul h cI cZ cJ nw td) none (w_Rul h cI cZ cJ nw (va_up td z v)) := by
  refine M_start (by decide) (Nat.le_of_ble_eq_true rfl) ?_
  intro p e s m args below meth c A Q ls X Y hW hl
  have hx := X.1.1
  have hb := X.1.2.1
  have hl : lv_has ls 3 [(0, .ref (h 25)), (1, .int (nI z)), (2, .int (nI v))] := hl
  refine lv_aload_n hx hb d_Rules_tell_0 rfl (lv_at hl 0 rfl) ?_
  refine R_get X hW i_Rules rfl 1 (by decide) kf_Rules_13 0 rfl rfl d_Rules_tell_1 ?_
  refine lv_iload_n hx hb d_Rules_tell_4 rfl (lv_at hl 1 rfl) ?_
  refine lv_iload_n hx hb d_Rules_tell_5 rfl (lv_at hl 2 rfl) ?_
  refine R_iast X hW (t0 := 0) rfl 2 rfl (k := z) (by omega) (by decide) v rfl d_Rules_tell_6 (fun H locs hW => ?_)
  have hW : Wr G A s.heap (w_Rul h cI cZ cJ nw (va_up td z v)) H locs := hW
  exact R_vret X Y hW rfl rfl d_Rules_tell_7

theorem kf_Rules_7 : Cond.fieldLink "ContestRows$Rules" 7 "ContestRows$Rules" "now" "[I" ∈ TBL := TBL_t (List.mem_append_left _ (List.mem_of_getElem? (i := 135) rfl)) rfl
set_option maxHeartbeats 4000000 in
set_option maxRecDepth 100000 in
theorem c_Rules_isLate (l : Launch) (G : va_G) (cI cZ cJ : ClassId) (h : Nat → Nat) (nw : Nat → Nat) (td : Nat → Nat) (x : Nat) (hx0 : x < 2 ^ 31) (hnw : ∀ i, i < 5 → nw i ≤ 9999) : Ct l G (tyL cI cZ cJ) y_Rules_isLate b_Rules_isLate 2 (some .boolean) (rmL 0) [.ref (h 25), .int (nI x)] (w_Rul h cI cZ cJ nw td) (some (.int (bI (decide (nw 3 < x))))) (w_Rul h cI cZ cJ nw td) := by
  refine M_start (by decide) (Nat.le_of_ble_eq_true rfl) ?_
  intro p e s m args below meth c A Q ls X Y hW hl
  have hx := X.1.1
  have hb := X.1.2.1
  have hl : lv_has ls 2 [(0, .ref (h 25)), (1, .int (nI x))] := hl
  have q1 := hnw 3 (by omega)
  refine lv_iload_n hx hb d_Rules_isLate_0 rfl (lv_at hl 1 rfl) ?_
  refine lv_aload_n hx hb d_Rules_isLate_1 rfl (lv_at hl 0 rfl) ?_
  refine R_get X hW i_Rules rfl 0 (by decide) kf_Rules_7 0 rfl rfl d_Rules_isLate_2 ?_
  refine lv_iconst (v := (nI 3)) hx hb d_Rules_isLate_5 (by decide +kernel) ?_
  refine R_iald X hW (t0 := 0) rfl 1 rfl (k := 3) (by omega) (by decide) d_Rules_isLate_6 ?_
  refine N_icmp_le_NN hx hb (by omega) (by omega) (tgt := 14) d_Rules_isLate_7 (by decide) (fun c7 => ?_) (fun c7 => ?_)
  · refine lv_iconst (v := (nI 0)) hx hb d_Rules_isLate_14 (by decide +kernel) ?_
    exact R_zret X Y hW rfl false (by decide +kernel) (by rw [decide_eq_false (by omega)]) d_Rules_isLate_15
  · refine lv_iconst (v := (nI 1)) hx hb d_Rules_isLate_10 (by decide +kernel) ?_
    refine lv_goto (tgt := 15) hx hb d_Rules_isLate_11 (by decide) ?_
    exact R_zret X Y hW rfl true (by decide +kernel) (by rw [decide_eq_true (by omega)]) d_Rules_isLate_15

set_option maxHeartbeats 4000000 in
set_option maxRecDepth 100000 in
theorem c_Rules_timesPart (l : Launch) (G : va_G) (cI cZ cJ : ClassId) (h : Nat → Nat) (nw : Nat → Nat) (td : Nat → Nat)  (hnw : ∀ i, i < 5 → nw i ≤ 9999) : Ct l G (tyL cI cZ cJ) y_Rules_timesPart b_Rules_timesPart 1 (some .boolean) (rmL 0) [.ref (h 25)] (w_Rul h cI cZ cJ nw td) (some (.int (bI (decide (nw 4 = 1))))) (w_Rul h cI cZ cJ nw td) := by
  refine M_start (by decide) (Nat.le_of_ble_eq_true rfl) ?_
  intro p e s m args below meth c A Q ls X Y hW hl
  have hx := X.1.1
  have hb := X.1.2.1
  have hl : lv_has ls 1 [(0, .ref (h 25))] := hl
  have q1 := hnw 4 (by omega)
  refine lv_aload_n hx hb d_Rules_timesPart_0 rfl (lv_at hl 0 rfl) ?_
  refine R_get X hW i_Rules rfl 0 (by decide) kf_Rules_7 0 rfl rfl d_Rules_timesPart_1 ?_
  refine lv_iconst (v := (nI 4)) hx hb d_Rules_timesPart_4 (by decide +kernel) ?_
  refine R_iald X hW (t0 := 0) rfl 1 rfl (k := 4) (by omega) (by decide) d_Rules_timesPart_5 ?_
  refine lv_iconst (v := (nI 1)) hx hb d_Rules_timesPart_6 (by decide +kernel) ?_
  refine N_icmp_ne_NN hx hb (by omega) (by decide) (tgt := 14) d_Rules_timesPart_7 (by decide) (fun c7 => ?_) (fun c7 => ?_)
  · refine lv_iconst (v := (nI 0)) hx hb d_Rules_timesPart_14 (by decide +kernel) ?_
    exact R_zret X Y hW rfl false (by decide +kernel) (by rw [decide_eq_false c7]) d_Rules_timesPart_15
  · refine lv_iconst (v := (nI 1)) hx hb d_Rules_timesPart_10 (by decide +kernel) ?_
    refine lv_goto (tgt := 15) hx hb d_Rules_timesPart_11 (by decide) ?_
    exact R_zret X Y hW rfl true (by decide +kernel) (by rw [decide_eq_true c7]) d_Rules_timesPart_15

theorem kf_RuleText_13 : Cond.fieldLink "ContestRows$RuleText" 13 "ContestRows$RuleText" "length" "I" ∈ TBL := TBL_t (List.mem_append_left _ (List.mem_of_getElem? (i := 123) rfl)) rfl
theorem kf_RuleText_9 : Cond.fieldLink "ContestRows$RuleText" 9 "ContestRows$RuleText" "units" "[I" ∈ TBL := TBL_t (List.mem_append_left _ (List.mem_of_getElem? (i := 122) rfl)) rfl
set_option maxHeartbeats 4000000 in
set_option maxRecDepth 100000 in
theorem c_RuleText_add_ok (l : Launch) (G : va_G) (cI cZ cJ : ClassId) (h : Nat → Nat) (tl : Nat) (un : Nat → Nat) (u : Nat) (hu : u ≤ 255) (hn : tl < 100) : Ct l G (tyL cI cZ cJ) y_RuleText_add b_RuleText_add 2 (some .boolean) (rmL 0) [.ref (h 23), .int (nI u)] (w_Txt h cI cZ cJ tl un) (some (.int (bI true))) (w_Txt h cI cZ cJ (tl + 1) (va_up un tl u)) := by
  refine M_start (by decide) (Nat.le_of_ble_eq_true rfl) ?_
  intro p e s m args below meth c A Q ls X Y hW hl
  have hx := X.1.1
  have hb := X.1.2.1
  have hl : lv_has ls 2 [(0, .ref (h 23)), (1, .int (nI u))] := hl
  refine lv_iload_n hx hb d_RuleText_add_0 rfl (lv_at hl 1 rfl) ?_
  refine N_if_lt_N hx hb (by omega) (tgt := 20) d_RuleText_add_1 (by decide) (fun c1 => ?_) (fun c1 => ?_)
  · exfalso; omega
  · refine lv_iload_n hx hb d_RuleText_add_4 rfl (lv_at hl 1 rfl) ?_
    refine lv_sipush (v := (nI 255)) hx hb d_RuleText_add_5 (by decide +kernel) ?_
    refine N_icmp_gt_NN hx hb (by omega) (by decide) (tgt := 20) d_RuleText_add_8 (by decide) (fun c8 => ?_) (fun c8 => ?_)
    · exfalso; omega
    · refine lv_aload_n hx hb d_RuleText_add_11 rfl (lv_at hl 0 rfl) ?_
      refine R_get X hW i_RuleText rfl 1 (by decide) kf_RuleText_13 0 rfl rfl d_RuleText_add_12 ?_
      refine lv_bipush (v := (nI 100)) hx hb d_RuleText_add_15 (by decide +kernel) ?_
      refine N_icmp_lt_NN hx hb (by omega) (by decide) (tgt := 22) d_RuleText_add_17 (by decide) (fun c17 => ?_) (fun c17 => ?_)
      · refine lv_aload_n hx hb d_RuleText_add_22 rfl (lv_at hl 0 rfl) ?_
        refine R_get X hW i_RuleText rfl 0 (by decide) kf_RuleText_9 0 rfl rfl d_RuleText_add_23 ?_
        refine lv_aload_n hx hb d_RuleText_add_26 rfl (lv_at hl 0 rfl) ?_
        refine R_get X hW i_RuleText rfl 1 (by decide) kf_RuleText_13 0 rfl rfl d_RuleText_add_27 ?_
        refine lv_iload_n hx hb d_RuleText_add_30 rfl (lv_at hl 1 rfl) ?_
        refine R_iast X hW (t0 := 0) rfl 1 rfl (k := tl) (by omega) (by decide) u rfl d_RuleText_add_31 (fun H locs hW => ?_)
        have hW : Wr G A s.heap (w_Txt h cI cZ cJ tl (va_up un tl u)) H locs := hW
        refine lv_aload_n hx hb d_RuleText_add_32 rfl (lv_at hl 0 rfl) ?_
        refine lv_dup hx hb d_RuleText_add_33 rfl ?_
        refine R_get X hW i_RuleText rfl 1 (by decide) kf_RuleText_13 0 rfl rfl d_RuleText_add_34 ?_
        refine lv_iconst (v := (nI 1)) hx hb d_RuleText_add_37 (by decide +kernel) ?_
        refine N_iadd hx hb d_RuleText_add_38 ?_
        refine R_put X hW i_RuleText rfl t_RuleText t_RuleText_ok n_RuleText 1 (by decide) kf_RuleText_13 rfl (ty := .int) (by decide +kernel) 0 rfl (v := .int (nI (tl + 1))) rfl rfl (Nat.le_of_ble_eq_true rfl) d_RuleText_add_39 (fun H locs hW => ?_)
        have hW : Wr G A s.heap (w_Txt h cI cZ cJ (tl + 1) (va_up un tl u)) H locs := hW
        refine lv_iconst (v := (nI 1)) hx hb d_RuleText_add_42 (by decide +kernel) ?_
        exact R_zret X Y hW rfl true (by decide +kernel) rfl d_RuleText_add_43
      · exfalso; omega

set_option maxHeartbeats 4000000 in
set_option maxRecDepth 100000 in
theorem c_RuleText_add_bad (l : Launch) (G : va_G) (cI cZ cJ : ClassId) (h : Nat → Nat) (tl : Nat) (un : Nat → Nat) (u : Int32) (hu : ¬ (0 ≤ u.toInt ∧ u.toInt ≤ 255 ∧ tl < 100)) (hn : tl ≤ 100) : Ct l G (tyL cI cZ cJ) y_RuleText_add b_RuleText_add 2 (some .boolean) (rmL 0) [.ref (h 23), .int u] (w_Txt h cI cZ cJ tl un) (some (.int (bI false))) (w_Txt h cI cZ cJ tl un) := by
  refine M_start (by decide) (Nat.le_of_ble_eq_true rfl) ?_
  intro p e s m args below meth c A Q ls X Y hW hl
  have hx := X.1.1
  have hb := X.1.2.1
  have hl : lv_has ls 2 [(0, .ref (h 23)), (1, .int u)] := hl
  refine lv_iload_n hx hb d_RuleText_add_0 rfl (lv_at hl 1 rfl) ?_
  refine N_if_lt_R hx hb  (tgt := 20) d_RuleText_add_1 (by decide) (fun c1 => ?_) (fun c1 => ?_)
  · refine lv_iconst (v := (nI 0)) hx hb d_RuleText_add_20 (by decide +kernel) ?_
    exact R_zret X Y hW rfl false (by decide +kernel) rfl d_RuleText_add_21
  · refine lv_iload_n hx hb d_RuleText_add_4 rfl (lv_at hl 1 rfl) ?_
    refine lv_sipush (v := (nI 255)) hx hb d_RuleText_add_5 (by decide +kernel) ?_
    refine N_icmp_gt_RN hx hb (by decide) (tgt := 20) d_RuleText_add_8 (by decide) (fun c8 => ?_) (fun c8 => ?_)
    · refine lv_iconst (v := (nI 0)) hx hb d_RuleText_add_20 (by decide +kernel) ?_
      exact R_zret X Y hW rfl false (by decide +kernel) rfl d_RuleText_add_21
    · refine lv_aload_n hx hb d_RuleText_add_11 rfl (lv_at hl 0 rfl) ?_
      refine R_get X hW i_RuleText rfl 1 (by decide) kf_RuleText_13 0 rfl rfl d_RuleText_add_12 ?_
      refine lv_bipush (v := (nI 100)) hx hb d_RuleText_add_15 (by decide +kernel) ?_
      refine N_icmp_lt_NN hx hb (by omega) (by decide) (tgt := 22) d_RuleText_add_17 (by decide) (fun c17 => ?_) (fun c17 => ?_)
      · exfalso; omega
      · refine lv_iconst (v := (nI 0)) hx hb d_RuleText_add_20 (by decide +kernel) ?_
        exact R_zret X Y hW rfl false (by decide +kernel) rfl d_RuleText_add_21

set_option maxHeartbeats 4000000 in
set_option maxRecDepth 100000 in
theorem c_RuleText_clear (l : Launch) (G : va_G) (cI cZ cJ : ClassId) (h : Nat → Nat) (tl : Nat) (un : Nat → Nat)   : Ct l G (tyL cI cZ cJ) y_RuleText_clear b_RuleText_clear 1 none (rmL 0) [.ref (h 23)] (w_Txt h cI cZ cJ tl un) none (w_Txt h cI cZ cJ 0 un) := by
  refine M_start (by decide) (Nat.le_of_ble_eq_true rfl) ?_
  intro p e s m args below meth c A Q ls X Y hW hl
  have hx := X.1.1
  have hb := X.1.2.1
  have hl : lv_has ls 1 [(0, .ref (h 23))] := hl
  refine lv_aload_n hx hb d_RuleText_clear_0 rfl (lv_at hl 0 rfl) ?_
  refine lv_iconst (v := (nI 0)) hx hb d_RuleText_clear_1 (by decide +kernel) ?_
  refine R_put X hW i_RuleText rfl t_RuleText t_RuleText_ok n_RuleText 1 (by decide) kf_RuleText_13 rfl (ty := .int) (by decide +kernel) 0 rfl (v := .int (nI 0)) rfl rfl (Nat.le_of_ble_eq_true rfl) d_RuleText_clear_2 (fun H locs hW => ?_)
  have hW : Wr G A s.heap (w_Txt h cI cZ cJ 0 un) H locs := hW
  exact R_vret X Y hW rfl rfl d_RuleText_clear_5

set_option maxHeartbeats 4000000 in
set_option maxRecDepth 100000 in
theorem c_RuleText_refusal (l : Launch) (G : va_G) (cI cZ cJ : ClassId) (h : Nat → Nat)  (k : Nat)  : Ct l G (tyL cI cZ cJ) y_RuleText_refusal b_RuleText_refusal 1 (some .int) (rmL 0) [.int (nI k)] (w_Nil h cI cZ cJ) (some (.int ((-1) - (nI k)))) (w_Nil h cI cZ cJ) := by
  refine M_start (by decide) (Nat.le_of_ble_eq_true rfl) ?_
  intro p e s m args below meth c A Q ls X Y hW hl
  have hx := X.1.1
  have hb := X.1.2.1
  have hl : lv_has ls 1 [(0, .int (nI k))] := hl
  refine lv_iconst (v := (-1)) hx hb d_RuleText_refusal_0 (by decide +kernel) ?_
  refine lv_iload_n hx hb d_RuleText_refusal_1 rfl (lv_at hl 0 rfl) ?_
  refine lv_isub hx hb d_RuleText_refusal_2 ?_
  exact R_iret X Y hW rfl rfl d_RuleText_refusal_3

set_option maxHeartbeats 4000000 in
set_option maxRecDepth 100000 in
theorem c_RuleText_endOfDigits (l : Launch) (G : va_G) (cI cZ cJ : ClassId) (h : Nat → Nat) (tl : Nat) (un : Nat → Nat) (x : Nat) (hx0 : x ≤ 101) (htl : tl ≤ 100) (hun : ∀ i, i < 100 → un i ≤ 255) : Ct l G (tyL cI cZ cJ) y_RuleText_endOfDigits b_RuleText_endOfDigits 3 (some .int) (rmL 0) [.ref (h 23), .int (nI x)] (w_Txt h cI cZ cJ tl un) (some (.int (nI (eodG un tl x 5 x)))) (w_Txt h cI cZ cJ tl un) := by
  refine M_start (by decide) (Nat.le_of_ble_eq_true rfl) ?_
  intro p e s m args below meth c A Q ls X Y hW hl
  have hx := X.1.1
  have hb := X.1.2.1
  have hl : lv_has ls 3 [(0, .ref (h 23)), (1, .int (nI x))] := hl
  refine lv_iload_n hx hb d_RuleText_endOfDigits_0 rfl (lv_at hl 1 rfl) ?_
  refine lv_istore_n (lv' := [(2, .int (nI x)), (0, .ref (h 23)), (1, .int (nI x))]) hx hb d_RuleText_endOfDigits_1 rfl hl (by decide) rfl (fun ls hl => ?_)
  have L2 : ∀ (n : Nat) (k : Nat) (hk : x ≤ k ∧ k ≤ x + 4) (hn : x + 4 - k < n) (he : eodG un tl x n k = eodG un tl x 5 x) (H : Heap) (locs : List Loc) (hW : Wr G A s.heap (w_Txt h cI cZ cJ tl un) H locs) (ls : Array Slot) (hl : lv_has ls 3 [(0, .ref (h 23)), (1, .int (nI x)), (2, .int (nI k))]), W p l e (rmL 0) s m args below meth c H locs 0 0 Q (F0 m 2 ls []) := by
    intro n
    induction n with
    | zero =>
      intro k hk hn he H locs hW ls hl
      exfalso; omega
    | succ n ih2 =>
      intro k hk hn he H locs hW ls hl
      refine lv_iload_n hx hb d_RuleText_endOfDigits_2 rfl (lv_at hl 2 rfl) ?_
      refine lv_aload_n hx hb d_RuleText_endOfDigits_3 rfl (lv_at hl 0 rfl) ?_
      refine R_get X hW i_RuleText rfl 1 (by decide) kf_RuleText_13 0 rfl rfl d_RuleText_endOfDigits_4 ?_
      refine N_icmp_ge_NN hx hb (by omega) (by omega) (tgt := 45) d_RuleText_endOfDigits_7 (by decide) (fun c7 => ?_) (fun c7 => ?_)
      · refine lv_iload_n hx hb d_RuleText_endOfDigits_45 rfl (lv_at hl 2 rfl) ?_
        exact R_iret X Y hW rfl (by rw [← he, eodG, if_neg (by omega)]) d_RuleText_endOfDigits_46
      · refine lv_iload_n hx hb d_RuleText_endOfDigits_10 rfl (lv_at hl 2 rfl) ?_
        refine lv_iload_n hx hb d_RuleText_endOfDigits_11 rfl (lv_at hl 1 rfl) ?_
        refine lv_iconst (v := (nI 4)) hx hb d_RuleText_endOfDigits_12 (by decide +kernel) ?_
        refine N_iadd hx hb d_RuleText_endOfDigits_13 ?_
        refine N_icmp_ge_NN hx hb (by omega) (by omega) (tgt := 45) d_RuleText_endOfDigits_14 (by decide) (fun c14 => ?_) (fun c14 => ?_)
        · refine lv_iload_n hx hb d_RuleText_endOfDigits_45 rfl (lv_at hl 2 rfl) ?_
          exact R_iret X Y hW rfl (by rw [← he, eodG, if_neg (by omega)]) d_RuleText_endOfDigits_46
        · have q1 := hun k (by omega)
          refine lv_aload_n hx hb d_RuleText_endOfDigits_17 rfl (lv_at hl 0 rfl) ?_
          refine R_get X hW i_RuleText rfl 0 (by decide) kf_RuleText_9 0 rfl rfl d_RuleText_endOfDigits_18 ?_
          refine lv_iload_n hx hb d_RuleText_endOfDigits_21 rfl (lv_at hl 2 rfl) ?_
          refine R_iald X hW (t0 := 0) rfl 1 rfl (k := k) (by omega) (by decide) d_RuleText_endOfDigits_22 ?_
          refine lv_bipush (v := (nI 48)) hx hb d_RuleText_endOfDigits_23 (by decide +kernel) ?_
          refine N_icmp_lt_NN hx hb (by omega) (by decide) (tgt := 45) d_RuleText_endOfDigits_25 (by decide) (fun c25 => ?_) (fun c25 => ?_)
          · refine lv_iload_n hx hb d_RuleText_endOfDigits_45 rfl (lv_at hl 2 rfl) ?_
            exact R_iret X Y hW rfl (by rw [← he, eodG, if_neg (by omega)]) d_RuleText_endOfDigits_46
          · refine lv_aload_n hx hb d_RuleText_endOfDigits_28 rfl (lv_at hl 0 rfl) ?_
            refine R_get X hW i_RuleText rfl 0 (by decide) kf_RuleText_9 0 rfl rfl d_RuleText_endOfDigits_29 ?_
            refine lv_iload_n hx hb d_RuleText_endOfDigits_32 rfl (lv_at hl 2 rfl) ?_
            refine R_iald X hW (t0 := 0) rfl 1 rfl (k := k) (by omega) (by decide) d_RuleText_endOfDigits_33 ?_
            refine lv_bipush (v := (nI 57)) hx hb d_RuleText_endOfDigits_34 (by decide +kernel) ?_
            refine N_icmp_gt_NN hx hb (by omega) (by decide) (tgt := 45) d_RuleText_endOfDigits_36 (by decide) (fun c36 => ?_) (fun c36 => ?_)
            · refine lv_iload_n hx hb d_RuleText_endOfDigits_45 rfl (lv_at hl 2 rfl) ?_
              exact R_iret X Y hW rfl (by rw [← he, eodG, if_neg (by omega)]) d_RuleText_endOfDigits_46
            · refine lv_iinc (v := (nI (k + 1))) (lv' := [(2, .int (nI (k + 1))), (0, .ref (h 23)), (1, .int (nI x))]) hx hb d_RuleText_endOfDigits_39 hl (k := 2) rfl (N_inc k) (by decide) rfl (fun ls hl => ?_)
              refine lv_goto (tgt := 2) hx hb d_RuleText_endOfDigits_42 (by decide) ?_
              exact ih2 (k + 1) (by omega) (by omega) (by rw [← he, eodG, if_pos (by omega)]) _ _ hW ls (lv_sub hl [1, 2, 0] rfl)
  exact L2 5 x (by omega) (by omega) rfl _ _ hW ls (lv_sub hl [1, 2, 0] rfl)

set_option maxHeartbeats 4000000 in
set_option maxRecDepth 100000 in
theorem c_RuleText_number (l : Launch) (G : va_G) (cI cZ cJ : ClassId) (h : Nat → Nat) (tl : Nat) (un : Nat → Nat) (x : Nat) (y : Nat) (hx0 : x ≤ y ∧ y ≤ 100) (hun : ∀ i, x ≤ i → i < y → 48 ≤ un i) : Ct l G (tyL cI cZ cJ) y_RuleText_number b_RuleText_number 5 (some .int) (rmL 0) [.ref (h 23), .int (nI x), .int (nI y)] (w_Txt h cI cZ cJ tl un) (some (.int (nI (numG un (y - x) x 0)))) (w_Txt h cI cZ cJ tl un) := by
  refine M_start (by decide) (Nat.le_of_ble_eq_true rfl) ?_
  intro p e s m args below meth c A Q ls X Y hW hl
  have hx := X.1.1
  have hb := X.1.2.1
  have hl : lv_has ls 5 [(0, .ref (h 23)), (1, .int (nI x)), (2, .int (nI y))] := hl
  refine lv_iconst (v := (nI 0)) hx hb d_RuleText_number_0 (by decide +kernel) ?_
  refine lv_istore_n (lv' := [(3, .int (nI 0)), (0, .ref (h 23)), (1, .int (nI x)), (2, .int (nI y))]) hx hb d_RuleText_number_1 rfl hl (by decide) rfl (fun ls hl => ?_)
  refine lv_iload_n hx hb d_RuleText_number_2 rfl (lv_at hl 2 rfl) ?_
  refine lv_istore (lv' := [(4, .int (nI x)), (3, .int (nI 0)), (0, .ref (h 23)), (1, .int (nI x)), (2, .int (nI y))]) hx hb d_RuleText_number_3 hl (by decide) rfl (fun ls hl => ?_)
  have L5 : ∀ (n : Nat) (v : Nat) (i : Nat) (hi : x ≤ i ∧ i + n = y) (he : numG un n i v = numG un (y - x) x 0) (H : Heap) (locs : List Loc) (hW : Wr G A s.heap (w_Txt h cI cZ cJ tl un) H locs) (ls : Array Slot) (hl : lv_has ls 5 [(0, .ref (h 23)), (1, .int (nI x)), (2, .int (nI y)), (3, .int (nI v)), (4, .int (nI i))]), W p l e (rmL 0) s m args below meth c H locs 0 0 Q (F0 m 5 ls []) := by
    intro n
    induction n with
    | zero =>
      intro v i hi he H locs hW ls hl
      refine lv_iload hx hb d_RuleText_number_5 (lv_at hl 4 rfl) ?_
      refine lv_iload_n hx hb d_RuleText_number_7 rfl (lv_at hl 2 rfl) ?_
      refine N_icmp_ge_NN hx hb (by omega) (by omega) (tgt := 33) d_RuleText_number_8 (by decide) (fun c8 => ?_) (fun c8 => ?_)
      · refine lv_iload_n hx hb d_RuleText_number_33 rfl (lv_at hl 3 rfl) ?_
        exact R_iret X Y hW rfl (by rw [← he]; rfl) d_RuleText_number_34
      · exfalso; omega
    | succ n ih5 =>
      intro v i hi he H locs hW ls hl
      refine lv_iload hx hb d_RuleText_number_5 (lv_at hl 4 rfl) ?_
      refine lv_iload_n hx hb d_RuleText_number_7 rfl (lv_at hl 2 rfl) ?_
      refine N_icmp_ge_NN hx hb (by omega) (by omega) (tgt := 33) d_RuleText_number_8 (by decide) (fun c8 => ?_) (fun c8 => ?_)
      · exfalso; omega
      · refine lv_iload_n hx hb d_RuleText_number_11 rfl (lv_at hl 3 rfl) ?_
        refine lv_bipush (v := (nI 10)) hx hb d_RuleText_number_12 (by decide +kernel) ?_
        refine N_imul hx hb d_RuleText_number_14 ?_
        refine lv_aload_n hx hb d_RuleText_number_15 rfl (lv_at hl 0 rfl) ?_
        refine R_get X hW i_RuleText rfl 0 (by decide) kf_RuleText_9 0 rfl rfl d_RuleText_number_16 ?_
        refine lv_iload hx hb d_RuleText_number_19 (lv_at hl 4 rfl) ?_
        refine R_iald X hW (t0 := 0) rfl 1 rfl (k := i) (by omega) (by decide) d_RuleText_number_21 ?_
        refine lv_bipush (v := (nI 48)) hx hb d_RuleText_number_22 (by decide +kernel) ?_
        refine N_isub (r := (un i) - 48) hx hb (hun i (by omega) (by omega)) (by omega) d_RuleText_number_24 ?_
        refine N_iadd hx hb d_RuleText_number_25 ?_
        refine lv_istore_n (lv' := [(3, .int (nI ((v * 10) + ((un i) - 48)))), (0, .ref (h 23)), (1, .int (nI x)), (2, .int (nI y)), (4, .int (nI i))]) hx hb d_RuleText_number_26 rfl hl (by decide) rfl (fun ls hl => ?_)
        refine lv_iinc (v := (nI (i + 1))) (lv' := [(4, .int (nI (i + 1))), (3, .int (nI ((v * 10) + ((un i) - 48)))), (0, .ref (h 23)), (1, .int (nI x)), (2, .int (nI y))]) hx hb d_RuleText_number_27 hl (k := 4) rfl (N_inc i) (by decide) rfl (fun ls hl => ?_)
        refine lv_goto (tgt := 5) hx hb d_RuleText_number_30 (by decide) ?_
        exact ih5 ((v * 10) + ((un i) - 48)) (i + 1) (by omega) (by rw [← he]; rfl) _ _ hW ls (lv_sub hl [2, 3, 4, 1, 0] rfl)
  exact L5 (y - x) 0 x (by omega) rfl _ _ hW ls (lv_sub hl [2, 3, 4, 1, 0] rfl)

theorem km_Rules_16 : Cond.methodLink "ContestRows$Rules" 16 arraycopyName ∈ TBL := TBL_t (List.mem_append_left _ (List.mem_of_getElem? (i := 214) rfl)) rfl
theorem kv_copy : Cond.native arraycopyName ∈ TBL := TBL_t (List.mem_append_left _ (List.mem_of_getElem? (i := 216) rfl)) rfl
theorem kt_copy : Cond.static arraycopyName ∈ TBL := TBL_t (List.mem_append_left _ (List.mem_of_getElem? (i := 215) rfl)) rfl
theorem kn_System : Cond.initialized "java/lang/System" ∈ TBL := TBL_t (List.mem_append_left _ (List.mem_of_getElem? (i := 8) rfl)) rfl
set_option maxHeartbeats 4000000 in
set_option maxRecDepth 100000 in
theorem c_Rules_beginTelling (l : Launch) (G : va_G) (cI cZ cJ : ClassId) (h : Nat → Nat) (nw : Nat → Nat) (td : Nat → Nat)   : Ct l G (tyL cI cZ cJ) y_Rules_beginTelling b_Rules_beginTelling 1 none (rmL 1) [.ref (h 25)] (w_Rul h cI cZ cJ nw td) none (w_Rul h cI cZ cJ nw (cpyN 5 nw td)) := by
  refine M_start (by decide) (Nat.le_of_ble_eq_true rfl) ?_
  intro p e s m args below meth c A Q ls X Y hW hl
  have hx := X.1.1
  have hb := X.1.2.1
  have hl : lv_has ls 1 [(0, .ref (h 25))] := hl
  refine lv_aload_n hx hb d_Rules_beginTelling_0 rfl (lv_at hl 0 rfl) ?_
  refine R_get X hW i_Rules rfl 0 (by decide) kf_Rules_7 0 rfl rfl d_Rules_beginTelling_1 ?_
  refine lv_iconst (v := (nI 0)) hx hb d_Rules_beginTelling_4 (by decide +kernel) ?_
  refine lv_aload_n hx hb d_Rules_beginTelling_5 rfl (lv_at hl 0 rfl) ?_
  refine R_get X hW i_Rules rfl 1 (by decide) kf_Rules_13 0 rfl rfl d_Rules_beginTelling_6 ?_
  refine lv_iconst (v := (nI 0)) hx hb d_Rules_beginTelling_9 (by decide +kernel) ?_
  refine lv_aload_n hx hb d_Rules_beginTelling_10 rfl (lv_at hl 0 rfl) ?_
  refine R_get X hW i_Rules rfl 0 (by decide) kf_Rules_7 0 rfl rfl d_Rules_beginTelling_11 ?_
  refine va_alen (v := nI 5) hx hb X.2.1 hW.1 1 0 rfl rfl rfl d_Rules_beginTelling_14 ?_
  refine R_copy X hW km_Rules_16 kv_copy kt_copy kn_System (X.1.2.2.1.trans hl.1.symm) 1 2 rfl rfl (by decide) (by decide) (by decide) d_Rules_beginTelling_15 (fun H locs hW => ?_)
  have hW : Wr G A s.heap (w_Rul h cI cZ cJ nw (cpyN 5 nw td)) H locs := hW
  exact R_vret X Y hW rfl rfl d_Rules_beginTelling_18

set_option maxHeartbeats 4000000 in
set_option maxRecDepth 100000 in
theorem c_Rules_endTelling (l : Launch) (G : va_G) (cI cZ cJ : ClassId) (h : Nat → Nat) (nw : Nat → Nat) (td : Nat → Nat)   : Ct l G (tyL cI cZ cJ) y_Rules_endTelling b_Rules_endTelling 1 none (rmL 1) [.ref (h 25)] (w_Rul h cI cZ cJ nw td) none (w_Rul h cI cZ cJ (cpyN 5 td nw) td) := by
  refine M_start (by decide) (Nat.le_of_ble_eq_true rfl) ?_
  intro p e s m args below meth c A Q ls X Y hW hl
  have hx := X.1.1
  have hb := X.1.2.1
  have hl : lv_has ls 1 [(0, .ref (h 25))] := hl
  refine lv_aload_n hx hb d_Rules_endTelling_0 rfl (lv_at hl 0 rfl) ?_
  refine R_get X hW i_Rules rfl 1 (by decide) kf_Rules_13 0 rfl rfl d_Rules_endTelling_1 ?_
  refine lv_iconst (v := (nI 0)) hx hb d_Rules_endTelling_4 (by decide +kernel) ?_
  refine lv_aload_n hx hb d_Rules_endTelling_5 rfl (lv_at hl 0 rfl) ?_
  refine R_get X hW i_Rules rfl 0 (by decide) kf_Rules_7 0 rfl rfl d_Rules_endTelling_6 ?_
  refine lv_iconst (v := (nI 0)) hx hb d_Rules_endTelling_9 (by decide +kernel) ?_
  refine lv_aload_n hx hb d_Rules_endTelling_10 rfl (lv_at hl 0 rfl) ?_
  refine R_get X hW i_Rules rfl 0 (by decide) kf_Rules_7 0 rfl rfl d_Rules_endTelling_11 ?_
  refine va_alen (v := nI 5) hx hb X.2.1 hW.1 1 0 rfl rfl rfl d_Rules_endTelling_14 ?_
  refine R_copy X hW km_Rules_16 kv_copy kt_copy kn_System (X.1.2.2.1.trans hl.1.symm) 2 1 rfl rfl (by decide) (by decide) (by decide) d_Rules_endTelling_15 (fun H locs hW => ?_)
  have hW : Wr G A s.heap (w_Rul h cI cZ cJ (cpyN 5 td nw) td) H locs := hW
  exact R_vret X Y hW rfl rfl d_Rules_endTelling_18

theorem km_Rules_22 : Cond.methodLink "ContestRows$Rules" 22 Lib.MathLoose.max_long.x ∈ TBL := TBL_t (List.mem_append_right _ (List.mem_append_left _ (List.mem_of_getElem? (i := 162) rfl))) rfl
theorem kt_maxl : Cond.static Lib.MathLoose.max_long.x ∈ TBL := TBL_t (List.mem_append_right _ (List.mem_append_left _ (List.mem_of_getElem? (i := 163) rfl))) rfl
theorem kb_maxl : Cond.code Lib.MathLoose.max_long.x Lib.MathLoose.max_long.code 4 (some .long) ∈ TBL := TBL_t (List.mem_append_right _ (List.mem_append_left _ (List.mem_of_getElem? (i := 164) rfl))) rfl
set_option maxHeartbeats 4000000 in
set_option maxRecDepth 100000 in
theorem c_Rules_worth (l : Launch) (G : va_G) (cI cZ cJ : ClassId) (h : Nat → Nat) (nw : Nat → Nat) (td : Nat → Nat) (g : Nat) (x : Nat) (w : Nat) (hg : g ≤ 100) (hx0 : x ≤ 1000000) (hw0 : w ≤ 300) (hnw : ∀ i, i < 5 → nw i ≤ 9999) : Ct l G (tyL cI cZ cJ) y_Rules_worth b_Rules_worth 10 (some .long) (rmL 1) [.ref (h 25), .int (nI g), .int (nI x), .int (nI w)] (w_Rul h cI cZ cJ nw td) (some (.long (lN (wth nw g x w)))) (w_Rul h cI cZ cJ nw td) := by
  refine M_start (by decide) (Nat.le_of_ble_eq_true rfl) ?_
  intro p e s m args below meth c A Q ls X Y hW hl
  have hx := X.1.1
  have hb := X.1.2.1
  have hl : lv_has ls 10 [(0, .ref (h 25)), (1, .int (nI g)), (2, .int (nI x)), (3, .int (nI w))] := hl
  have q0 := hnw 0 (by omega)
  have q1 := hnw 1 (by omega)
  have q2 := hnw 2 (by omega)
  refine lv_iload_n hx hb d_Rules_worth_0 rfl (lv_at hl 1 rfl) ?_
  refine N_i2l hx hb (by omega) d_Rules_worth_1 ?_
  refine lv_aload_n hx hb d_Rules_worth_2 rfl (lv_at hl 0 rfl) ?_
  refine R_get X hW i_Rules rfl 0 (by decide) kf_Rules_7 0 rfl rfl d_Rules_worth_3 ?_
  refine lv_iconst (v := (nI 0)) hx hb d_Rules_worth_6 (by decide +kernel) ?_
  refine R_iald X hW (t0 := 0) rfl 1 rfl (k := 0) (by omega) (by decide) d_Rules_worth_7 ?_
  refine N_i2l hx hb (by omega) d_Rules_worth_8 ?_
  refine N_lmul hx hb d_Rules_worth_9 ?_
  refine lv_lstore (lv' := [(4, .long (lN (g * (nw 0)))), (0, .ref (h 25)), (1, .int (nI g)), (2, .int (nI x)), (3, .int (nI w))]) hx hb d_Rules_worth_10 hl (by decide) rfl (fun ls hl => ?_)
  refine lv_iload_n hx hb d_Rules_worth_12 rfl (lv_at hl 2 rfl) ?_
  refine N_i2l hx hb (by omega) d_Rules_worth_13 ?_
  refine lv_aload_n hx hb d_Rules_worth_14 rfl (lv_at hl 1 rfl) ?_
  refine R_get X hW i_Rules rfl 0 (by decide) kf_Rules_7 0 rfl rfl d_Rules_worth_15 ?_
  refine lv_iconst (v := (nI 1)) hx hb d_Rules_worth_18 (by decide +kernel) ?_
  refine R_iald X hW (t0 := 0) rfl 1 rfl (k := 1) (by omega) (by decide) d_Rules_worth_19 ?_
  refine N_i2l hx hb (by omega) d_Rules_worth_20 ?_
  refine N_lmul hx hb d_Rules_worth_21 ?_
  refine lv_iload_n hx hb d_Rules_worth_22 rfl (lv_at hl 3 rfl) ?_
  refine lv_bipush (v := (nI 60)) hx hb d_Rules_worth_23 (by decide +kernel) ?_
  refine N_idiv hx hb (by omega) (by decide) (by decide) d_Rules_worth_25 ?_
  refine N_i2l hx hb (by omega) d_Rules_worth_26 ?_
  refine N_lmul hx hb d_Rules_worth_27 ?_
  refine lv_lstore (lv' := [(6, .long (lN ((g * (nw 1)) * (x / 60)))), (4, .long (lN (g * (nw 0)))), (0, .ref (h 25)), (1, .int (nI g)), (2, .int (nI x)), (3, .int (nI w))]) hx hb d_Rules_worth_28 hl (by decide) rfl (fun ls hl => ?_)
  refine lv_aload_n hx hb d_Rules_worth_30 rfl (lv_at hl 2 rfl) ?_
  refine R_get X hW i_Rules rfl 0 (by decide) kf_Rules_7 0 rfl rfl d_Rules_worth_31 ?_
  refine lv_iconst (v := (nI 2)) hx hb d_Rules_worth_34 (by decide +kernel) ?_
  refine R_iald X hW (t0 := 0) rfl 1 rfl (k := 2) (by omega) (by decide) d_Rules_worth_35 ?_
  refine N_i2l hx hb (by omega) d_Rules_worth_36 ?_
  refine lv_iload_n hx hb d_Rules_worth_37 rfl (lv_at hl 5 rfl) ?_
  refine N_i2l hx hb (by omega) d_Rules_worth_38 ?_
  refine N_lmul hx hb d_Rules_worth_39 ?_
  refine lv_lstore (lv' := [(8, .long (lN ((nw 2) * w))), (6, .long (lN ((g * (nw 1)) * (x / 60)))), (4, .long (lN (g * (nw 0)))), (0, .ref (h 25)), (1, .int (nI g)), (2, .int (nI x)), (3, .int (nI w))]) hx hb d_Rules_worth_40 hl (by decide) rfl (fun ls hl => ?_)
  refine lv_lconst (v := lN 0) hx hb d_Rules_worth_42 (by decide +kernel) ?_
  refine lv_lload hx hb d_Rules_worth_43 (lv_at hl 2 rfl) ?_
  refine lv_lload hx hb d_Rules_worth_45 (lv_at hl 1 rfl) ?_
  refine lv_lsub hx hb d_Rules_worth_47 ?_
  refine lv_lload hx hb d_Rules_worth_48 (lv_at hl 0 rfl) ?_
  refine lv_lsub hx hb d_Rules_worth_50 ?_
  refine va_mmax_long hx hb (X.1.2.2.1.trans hl.1.symm) X.1.2.2.2.1 (X.1.2.2.2.2 _ km_Rules_22) (X.1.2.2.2.2 _ kt_maxl) (X.1.2.2.2.2 _ kn_Math) (X.1.2.2.2.2 _ kb_maxl) (by decide) (by decide) (Nat.zero_le _) (Nat.zero_le _) d_Rules_worth_51 ?_
  exact R_lret X Y hW rfl (by rw [wth_max hg hx0 hw0 q0 q1 q2]) d_Rules_worth_54
