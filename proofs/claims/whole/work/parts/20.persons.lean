theorem kf_Persons_25 : Cond.fieldLink "ContestRows$Persons" 25 "ContestRows$Persons" "many" "I" ∈ TBL := TBL_t (List.mem_append_left _ (List.mem_of_getElem? (i := 68) rfl)) rfl
set_option maxHeartbeats 4000000 in
set_option maxRecDepth 100000 in
theorem c_Persons_has (l : Launch) (G : va_G) (cI cZ cJ : ClassId) (h : Nat → Nat) (ne : Nat) (stt : Nat → Option Nat) (sco : Nat → Nat) (tim : Nat → Nat) (cnt : Nat → Nat) (x : Int32) (hn : ne ≤ 300) : Ct l G (tyL cI cZ cJ) y_Persons_has b_Persons_has 2 (some .boolean) (rmL 0) [.ref (h 11), .int x] (w_Per h cI cZ cJ ne stt sco tim cnt) (some (.int (bI (inB x ne)))) (w_Per h cI cZ cJ ne stt sco tim cnt) := by
  refine M_start (by decide) (Nat.le_of_ble_eq_true rfl) ?_
  intro p e s m args below meth c A Q ls X Y hW hl
  have hx := X.1.1
  have hb := X.1.2.1
  have hl : lv_has ls 2 [(0, .ref (h 11)), (1, .int x)] := hl
  refine lv_iload_n hx hb d_Persons_has_0 rfl (lv_at hl 1 rfl) ?_
  refine N_if_lt_R hx hb  (tgt := 16) d_Persons_has_1 (by decide) (fun c1 => ?_) (fun c1 => ?_)
  · refine lv_iconst (v := (nI 0)) hx hb d_Persons_has_16 (by decide +kernel) ?_
    exact R_zret X Y hW rfl false (by decide +kernel) (by rw [inB_f (by omega)]) d_Persons_has_17
  · refine lv_iload_n hx hb d_Persons_has_4 rfl (lv_at hl 1 rfl) ?_
    refine lv_aload_n hx hb d_Persons_has_5 rfl (lv_at hl 0 rfl) ?_
    refine R_get X hW i_Persons rfl 4 (by decide) kf_Persons_25 0 rfl rfl d_Persons_has_6 ?_
    refine N_icmp_ge_RN hx hb (by omega) (tgt := 16) d_Persons_has_9 (by decide) (fun c9 => ?_) (fun c9 => ?_)
    · refine lv_iconst (v := (nI 0)) hx hb d_Persons_has_16 (by decide +kernel) ?_
      exact R_zret X Y hW rfl false (by decide +kernel) (by rw [inB_f (by omega)]) d_Persons_has_17
    · refine lv_iconst (v := (nI 1)) hx hb d_Persons_has_12 (by decide +kernel) ?_
      refine lv_goto (tgt := 17) hx hb d_Persons_has_13 (by decide) ?_
      exact R_zret X Y hW rfl true (by decide +kernel) (by rw [inB_t (by omega)]) d_Persons_has_17

theorem kf_Persons_9 : Cond.fieldLink "ContestRows$Persons" 9 "ContestRows$Persons" "starts" "[I" ∈ TBL := TBL_t (List.mem_append_left _ (List.mem_of_getElem? (i := 60) rfl)) rfl
set_option maxHeartbeats 4000000 in
set_option maxRecDepth 100000 in
theorem c_Persons_add_ok (l : Launch) (G : va_G) (cI cZ cJ : ClassId) (h : Nat → Nat) (ne : Nat) (stt : Nat → Option Nat) (sco : Nat → Nat) (tim : Nat → Nat) (cnt : Nat → Nat)  (hn : ne < 20) : Ct l G (tyL cI cZ cJ) y_Persons_add b_Persons_add 1 (some .int) (rmL 0) [.ref (h 11)] (w_Per h cI cZ cJ ne stt sco tim cnt) (some (.int (nI ne))) (w_Per h cI cZ cJ (ne + 1) (va_up stt ne none) sco tim cnt) := by
  refine M_start (by decide) (Nat.le_of_ble_eq_true rfl) ?_
  intro p e s m args below meth c A Q ls X Y hW hl
  have hx := X.1.1
  have hb := X.1.2.1
  have hl : lv_has ls 1 [(0, .ref (h 11))] := hl
  refine lv_aload_n hx hb d_Persons_add_0 rfl (lv_at hl 0 rfl) ?_
  refine R_get X hW i_Persons rfl 4 (by decide) kf_Persons_25 0 rfl rfl d_Persons_add_1 ?_
  refine lv_bipush (v := (nI 20)) hx hb d_Persons_add_4 (by decide +kernel) ?_
  refine N_icmp_lt_NN hx hb (by omega) (by decide) (tgt := 11) d_Persons_add_6 (by decide) (fun c6 => ?_) (fun c6 => ?_)
  · refine lv_aload_n hx hb d_Persons_add_11 rfl (lv_at hl 0 rfl) ?_
    refine R_get X hW i_Persons rfl 0 (by decide) kf_Persons_9 0 rfl rfl d_Persons_add_12 ?_
    refine lv_aload_n hx hb d_Persons_add_15 rfl (lv_at hl 0 rfl) ?_
    refine R_get X hW i_Persons rfl 4 (by decide) kf_Persons_25 0 rfl rfl d_Persons_add_16 ?_
    refine lv_iconst (v := (-1)) hx hb d_Persons_add_19 (by decide +kernel) ?_
    refine R_iast X hW (t0 := 0) rfl 1 rfl (k := ne) (by omega) (by decide) none rfl d_Persons_add_20 (fun H locs hW => ?_)
    have hW : Wr G A s.heap (w_Per h cI cZ cJ ne (va_up stt ne none) sco tim cnt) H locs := hW
    refine lv_aload_n hx hb d_Persons_add_21 rfl (lv_at hl 0 rfl) ?_
    refine lv_dup hx hb d_Persons_add_22 rfl ?_
    refine R_get X hW i_Persons rfl 4 (by decide) kf_Persons_25 0 rfl rfl d_Persons_add_23 ?_
    refine lv_iconst (v := (nI 1)) hx hb d_Persons_add_26 (by decide +kernel) ?_
    refine N_iadd hx hb d_Persons_add_27 ?_
    refine R_put X hW i_Persons rfl t_Persons t_Persons_ok n_Persons 4 (by decide) kf_Persons_25 rfl (ty := .int) (by decide +kernel) 0 rfl (v := .int (nI (ne + 1))) rfl rfl (Nat.le_of_ble_eq_true rfl) d_Persons_add_28 (fun H locs hW => ?_)
    have hW : Wr G A s.heap (w_Per h cI cZ cJ (ne + 1) (va_up stt ne none) sco tim cnt) H locs := hW
    refine lv_aload_n hx hb d_Persons_add_31 rfl (lv_at hl 0 rfl) ?_
    refine R_get X hW i_Persons rfl 4 (by decide) kf_Persons_25 0 rfl rfl d_Persons_add_32 ?_
    refine lv_iconst (v := (nI 1)) hx hb d_Persons_add_35 (by decide +kernel) ?_
    refine N_isub (r := ne) hx hb (by omega) (by omega) d_Persons_add_36 ?_
    exact R_iret X Y hW rfl rfl d_Persons_add_37
  · exfalso; omega

set_option maxHeartbeats 4000000 in
set_option maxRecDepth 100000 in
theorem c_Persons_add_full (l : Launch) (G : va_G) (cI cZ cJ : ClassId) (h : Nat → Nat) (ne : Nat) (stt : Nat → Option Nat) (sco : Nat → Nat) (tim : Nat → Nat) (cnt : Nat → Nat)  (hn : ne = 20) : Ct l G (tyL cI cZ cJ) y_Persons_add b_Persons_add 1 (some .int) (rmL 0) [.ref (h 11)] (w_Per h cI cZ cJ ne stt sco tim cnt) (some (.int (-1))) (w_Per h cI cZ cJ ne stt sco tim cnt) := by
  refine M_start (by decide) (Nat.le_of_ble_eq_true rfl) ?_
  intro p e s m args below meth c A Q ls X Y hW hl
  have hx := X.1.1
  have hb := X.1.2.1
  have hl : lv_has ls 1 [(0, .ref (h 11))] := hl
  refine lv_aload_n hx hb d_Persons_add_0 rfl (lv_at hl 0 rfl) ?_
  refine R_get X hW i_Persons rfl 4 (by decide) kf_Persons_25 0 rfl rfl d_Persons_add_1 ?_
  refine lv_bipush (v := (nI 20)) hx hb d_Persons_add_4 (by decide +kernel) ?_
  refine N_icmp_lt_NN hx hb (by omega) (by decide) (tgt := 11) d_Persons_add_6 (by decide) (fun c6 => ?_) (fun c6 => ?_)
  · exfalso; omega
  · refine lv_iconst (v := (-1)) hx hb d_Persons_add_9 (by decide +kernel) ?_
    exact R_iret X Y hW rfl rfl d_Persons_add_10

theorem kf_Persons_15 : Cond.fieldLink "ContestRows$Persons" 15 "ContestRows$Persons" "scores" "[J" ∈ TBL := TBL_t (List.mem_append_left _ (List.mem_of_getElem? (i := 62) rfl)) rfl
theorem kf_Persons_19 : Cond.fieldLink "ContestRows$Persons" 19 "ContestRows$Persons" "times" "[J" ∈ TBL := TBL_t (List.mem_append_left _ (List.mem_of_getElem? (i := 64) rfl)) rfl
theorem kf_Persons_22 : Cond.fieldLink "ContestRows$Persons" 22 "ContestRows$Persons" "counts" "[I" ∈ TBL := TBL_t (List.mem_append_left _ (List.mem_of_getElem? (i := 66) rfl)) rfl
set_option maxHeartbeats 4000000 in
set_option maxRecDepth 100000 in
theorem c_Persons_clearSums (l : Launch) (G : va_G) (cI cZ cJ : ClassId) (h : Nat → Nat) (ne : Nat) (stt : Nat → Option Nat) (sco : Nat → Nat) (tim : Nat → Nat) (cnt : Nat → Nat) (x : Nat) (hx0 : x < 20) : Ct l G (tyL cI cZ cJ) y_Persons_clearSums b_Persons_clearSums 2 none (rmL 0) [.ref (h 11), .int (nI x)] (w_Per h cI cZ cJ ne stt sco tim cnt) none (w_Per h cI cZ cJ ne stt (va_up sco x 0) (va_up tim x 0) (va_up cnt x 0)) := by
  refine M_start (by decide) (Nat.le_of_ble_eq_true rfl) ?_
  intro p e s m args below meth c A Q ls X Y hW hl
  have hx := X.1.1
  have hb := X.1.2.1
  have hl : lv_has ls 2 [(0, .ref (h 11)), (1, .int (nI x))] := hl
  refine lv_aload_n hx hb d_Persons_clearSums_0 rfl (lv_at hl 0 rfl) ?_
  refine R_get X hW i_Persons rfl 1 (by decide) kf_Persons_15 0 rfl rfl d_Persons_clearSums_1 ?_
  refine lv_iload_n hx hb d_Persons_clearSums_4 rfl (lv_at hl 1 rfl) ?_
  refine lv_lconst (v := lN 0) hx hb d_Persons_clearSums_5 (by decide +kernel) ?_
  refine R_last X hW (t0 := 2) rfl 2 rfl (k := x) (by omega) (by decide) 0 rfl d_Persons_clearSums_6 (fun H locs hW => ?_)
  have hW : Wr G A s.heap (w_Per h cI cZ cJ ne stt (va_up sco x 0) tim cnt) H locs := hW
  refine lv_aload_n hx hb d_Persons_clearSums_7 rfl (lv_at hl 0 rfl) ?_
  refine R_get X hW i_Persons rfl 2 (by decide) kf_Persons_19 0 rfl rfl d_Persons_clearSums_8 ?_
  refine lv_iload_n hx hb d_Persons_clearSums_11 rfl (lv_at hl 1 rfl) ?_
  refine lv_lconst (v := lN 0) hx hb d_Persons_clearSums_12 (by decide +kernel) ?_
  refine R_last X hW (t0 := 2) rfl 3 rfl (k := x) (by omega) (by decide) 0 rfl d_Persons_clearSums_13 (fun H locs hW => ?_)
  have hW : Wr G A s.heap (w_Per h cI cZ cJ ne stt (va_up sco x 0) (va_up tim x 0) cnt) H locs := hW
  refine lv_aload_n hx hb d_Persons_clearSums_14 rfl (lv_at hl 0 rfl) ?_
  refine R_get X hW i_Persons rfl 3 (by decide) kf_Persons_22 0 rfl rfl d_Persons_clearSums_15 ?_
  refine lv_iload_n hx hb d_Persons_clearSums_18 rfl (lv_at hl 1 rfl) ?_
  refine lv_iconst (v := (nI 0)) hx hb d_Persons_clearSums_19 (by decide +kernel) ?_
  refine R_iast X hW (t0 := 0) rfl 4 rfl (k := x) (by omega) (by decide) 0 rfl d_Persons_clearSums_20 (fun H locs hW => ?_)
  have hW : Wr G A s.heap (w_Per h cI cZ cJ ne stt (va_up sco x 0) (va_up tim x 0) (va_up cnt x 0)) H locs := hW
  exact R_vret X Y hW rfl rfl d_Persons_clearSums_21

set_option maxHeartbeats 4000000 in
set_option maxRecDepth 100000 in
theorem c_Persons_addToSums (l : Launch) (G : va_G) (cI cZ cJ : ClassId) (h : Nat → Nat) (ne : Nat) (stt : Nat → Option Nat) (sco : Nat → Nat) (tim : Nat → Nat) (cnt : Nat → Nat) (x : Nat) (pt : Nat) (sd : Nat) (hx0 : x < 20) (hsd : sd < 2 ^ 31) : Ct l G (tyL cI cZ cJ) y_Persons_addToSums b_Persons_addToSums 5 none (rmL 0) [.ref (h 11), .int (nI x), .long (lN pt), .int (nI sd)] (w_Per h cI cZ cJ ne stt sco tim cnt) none (w_Per h cI cZ cJ ne stt (va_up sco x (sco x + pt)) (va_up tim x (tim x + sd)) (va_up cnt x (cnt x + 1))) := by
  refine M_start (by decide) (Nat.le_of_ble_eq_true rfl) ?_
  intro p e s m args below meth c A Q ls X Y hW hl
  have hx := X.1.1
  have hb := X.1.2.1
  have hl : lv_has ls 5 [(0, .ref (h 11)), (1, .int (nI x)), (2, .long (lN pt)), (4, .int (nI sd))] := hl
  refine lv_aload_n hx hb d_Persons_addToSums_0 rfl (lv_at hl 0 rfl) ?_
  refine R_get X hW i_Persons rfl 1 (by decide) kf_Persons_15 0 rfl rfl d_Persons_addToSums_1 ?_
  refine lv_iload_n hx hb d_Persons_addToSums_4 rfl (lv_at hl 1 rfl) ?_
  refine lv_dup2_11 hx hb d_Persons_addToSums_5 rfl rfl ?_
  refine R_lald X hW (t0 := 2) rfl 2 rfl (k := x) (by omega) (by decide) d_Persons_addToSums_6 ?_
  refine lv_lload_n hx hb d_Persons_addToSums_7 rfl (lv_at hl 2 rfl) ?_
  refine N_ladd hx hb d_Persons_addToSums_8 ?_
  refine R_last X hW (t0 := 2) rfl 2 rfl (k := x) (by omega) (by decide) ((sco x) + pt) rfl d_Persons_addToSums_9 (fun H locs hW => ?_)
  have hW : Wr G A s.heap (w_Per h cI cZ cJ ne stt (va_up sco x ((sco x) + pt)) tim cnt) H locs := hW
  refine lv_aload_n hx hb d_Persons_addToSums_10 rfl (lv_at hl 0 rfl) ?_
  refine R_get X hW i_Persons rfl 2 (by decide) kf_Persons_19 0 rfl rfl d_Persons_addToSums_11 ?_
  refine lv_iload_n hx hb d_Persons_addToSums_14 rfl (lv_at hl 1 rfl) ?_
  refine lv_dup2_11 hx hb d_Persons_addToSums_15 rfl rfl ?_
  refine R_lald X hW (t0 := 2) rfl 3 rfl (k := x) (by omega) (by decide) d_Persons_addToSums_16 ?_
  refine lv_iload hx hb d_Persons_addToSums_17 (lv_at hl 3 rfl) ?_
  refine N_i2l hx hb (by omega) d_Persons_addToSums_19 ?_
  refine N_ladd hx hb d_Persons_addToSums_20 ?_
  refine R_last X hW (t0 := 2) rfl 3 rfl (k := x) (by omega) (by decide) ((tim x) + sd) rfl d_Persons_addToSums_21 (fun H locs hW => ?_)
  have hW : Wr G A s.heap (w_Per h cI cZ cJ ne stt (va_up sco x ((sco x) + pt)) (va_up tim x ((tim x) + sd)) cnt) H locs := hW
  refine lv_aload_n hx hb d_Persons_addToSums_22 rfl (lv_at hl 0 rfl) ?_
  refine R_get X hW i_Persons rfl 3 (by decide) kf_Persons_22 0 rfl rfl d_Persons_addToSums_23 ?_
  refine lv_iload_n hx hb d_Persons_addToSums_26 rfl (lv_at hl 1 rfl) ?_
  refine lv_dup2_11 hx hb d_Persons_addToSums_27 rfl rfl ?_
  refine R_iald X hW (t0 := 0) rfl 4 rfl (k := x) (by omega) (by decide) d_Persons_addToSums_28 ?_
  refine lv_iconst (v := (nI 1)) hx hb d_Persons_addToSums_29 (by decide +kernel) ?_
  refine N_iadd hx hb d_Persons_addToSums_30 ?_
  refine R_iast X hW (t0 := 0) rfl 4 rfl (k := x) (by omega) (by decide) ((cnt x) + 1) rfl d_Persons_addToSums_31 (fun H locs hW => ?_)
  have hW : Wr G A s.heap (w_Per h cI cZ cJ ne stt (va_up sco x ((sco x) + pt)) (va_up tim x ((tim x) + sd)) (va_up cnt x ((cnt x) + 1))) H locs := hW
  exact R_vret X Y hW rfl rfl d_Persons_addToSums_32

set_option maxHeartbeats 4000000 in
set_option maxRecDepth 100000 in
theorem c_Persons_alike (l : Launch) (G : va_G) (cI cZ cJ : ClassId) (h : Nat → Nat) (ne : Nat) (stt : Nat → Option Nat) (sco : Nat → Nat) (tim : Nat → Nat) (cnt : Nat → Nat) (a : Nat) (b : Nat) (t : Bool) (ha : a < 20) (hb0 : b < 20) (hsc : ∀ i, i < 20 → sco i < 2 ^ 63) (htm : ∀ i, i < 20 → tim i < 2 ^ 63) : Ct l G (tyL cI cZ cJ) y_Persons_alike b_Persons_alike 4 (some .boolean) (rmL 0) [.ref (h 11), .int (nI a), .int (nI b), .int (bI t)] (w_Per h cI cZ cJ ne stt sco tim cnt) (some (.int (bI (alk sco tim t a b)))) (w_Per h cI cZ cJ ne stt sco tim cnt) := by
  refine M_start (by decide) (Nat.le_of_ble_eq_true rfl) ?_
  intro p e s m args below meth c A Q ls X Y hW hl
  have hx := X.1.1
  have hb := X.1.2.1
  have hl : lv_has ls 4 [(0, .ref (h 11)), (1, .int (nI a)), (2, .int (nI b)), (3, .int (bI t))] := hl
  have q1 := hsc a ha
  have q2 := hsc b hb0
  have q3 := htm a ha
  have q4 := htm b hb0
  refine lv_aload_n hx hb d_Persons_alike_0 rfl (lv_at hl 0 rfl) ?_
  refine R_get X hW i_Persons rfl 1 (by decide) kf_Persons_15 0 rfl rfl d_Persons_alike_1 ?_
  refine lv_iload_n hx hb d_Persons_alike_4 rfl (lv_at hl 1 rfl) ?_
  refine R_lald X hW (t0 := 2) rfl 2 rfl (k := a) (by omega) (by decide) d_Persons_alike_5 ?_
  refine lv_aload_n hx hb d_Persons_alike_6 rfl (lv_at hl 0 rfl) ?_
  refine R_get X hW i_Persons rfl 1 (by decide) kf_Persons_15 0 rfl rfl d_Persons_alike_7 ?_
  refine lv_iload_n hx hb d_Persons_alike_10 rfl (lv_at hl 2 rfl) ?_
  refine R_lald X hW (t0 := 2) rfl 2 rfl (k := b) (by omega) (by decide) d_Persons_alike_11 ?_
  refine N_lcmp_ne hx hb (by omega) (by omega) (tgt := 40) d_Persons_alike_12 d_Persons_alike_13 (by decide) (fun c12 => ?_) (fun c12 => ?_)
  · refine lv_iconst (v := (nI 0)) hx hb d_Persons_alike_40 (by decide +kernel) ?_
    exact R_zret X Y hW rfl false (by decide +kernel) (by simp [alk, *]) d_Persons_alike_41
  · refine lv_iload_n hx hb d_Persons_alike_16 rfl (lv_at hl 3 rfl) ?_
    refine N_if_eq_B hx hb  (tgt := 36) d_Persons_alike_17 (by decide) (fun c17 => ?_) (fun c17 => ?_)
    · refine lv_iconst (v := (nI 1)) hx hb d_Persons_alike_36 (by decide +kernel) ?_
      refine lv_goto (tgt := 41) hx hb d_Persons_alike_37 (by decide) ?_
      exact R_zret X Y hW rfl true (by decide +kernel) (by simp [alk, *]) d_Persons_alike_41
    · refine lv_aload_n hx hb d_Persons_alike_20 rfl (lv_at hl 0 rfl) ?_
      refine R_get X hW i_Persons rfl 2 (by decide) kf_Persons_19 0 rfl rfl d_Persons_alike_21 ?_
      refine lv_iload_n hx hb d_Persons_alike_24 rfl (lv_at hl 1 rfl) ?_
      refine R_lald X hW (t0 := 2) rfl 3 rfl (k := a) (by omega) (by decide) d_Persons_alike_25 ?_
      refine lv_aload_n hx hb d_Persons_alike_26 rfl (lv_at hl 0 rfl) ?_
      refine R_get X hW i_Persons rfl 2 (by decide) kf_Persons_19 0 rfl rfl d_Persons_alike_27 ?_
      refine lv_iload_n hx hb d_Persons_alike_30 rfl (lv_at hl 2 rfl) ?_
      refine R_lald X hW (t0 := 2) rfl 3 rfl (k := b) (by omega) (by decide) d_Persons_alike_31 ?_
      refine N_lcmp_ne hx hb (by omega) (by omega) (tgt := 40) d_Persons_alike_32 d_Persons_alike_33 (by decide) (fun c32 => ?_) (fun c32 => ?_)
      · refine lv_iconst (v := (nI 0)) hx hb d_Persons_alike_40 (by decide +kernel) ?_
        exact R_zret X Y hW rfl false (by decide +kernel) (by simp [alk, *]) d_Persons_alike_41
      · refine lv_iconst (v := (nI 1)) hx hb d_Persons_alike_36 (by decide +kernel) ?_
        refine lv_goto (tgt := 41) hx hb d_Persons_alike_37 (by decide) ?_
        exact R_zret X Y hW rfl true (by decide +kernel) (by simp [alk, *]) d_Persons_alike_41

set_option maxHeartbeats 4000000 in
set_option maxRecDepth 100000 in
theorem c_Persons_isAhead (l : Launch) (G : va_G) (cI cZ cJ : ClassId) (h : Nat → Nat) (ne : Nat) (stt : Nat → Option Nat) (sco : Nat → Nat) (tim : Nat → Nat) (cnt : Nat → Nat) (a : Nat) (b : Nat) (t : Bool) (ha : a < 20) (hb0 : b < 20) (hsc : ∀ i, i < 20 → sco i < 2 ^ 63) (htm : ∀ i, i < 20 → tim i < 2 ^ 63) : Ct l G (tyL cI cZ cJ) y_Persons_isAhead b_Persons_isAhead 4 (some .boolean) (rmL 0) [.ref (h 11), .int (nI a), .int (nI b), .int (bI t)] (w_Per h cI cZ cJ ne stt sco tim cnt) (some (.int (bI (ahd sco tim t a b)))) (w_Per h cI cZ cJ ne stt sco tim cnt) := by
  refine M_start (by decide) (Nat.le_of_ble_eq_true rfl) ?_
  intro p e s m args below meth c A Q ls X Y hW hl
  have hx := X.1.1
  have hb := X.1.2.1
  have hl : lv_has ls 4 [(0, .ref (h 11)), (1, .int (nI a)), (2, .int (nI b)), (3, .int (bI t))] := hl
  have q1 := hsc a ha
  have q2 := hsc b hb0
  have q3 := htm a ha
  have q4 := htm b hb0
  refine lv_aload_n hx hb d_Persons_isAhead_0 rfl (lv_at hl 0 rfl) ?_
  refine R_get X hW i_Persons rfl 1 (by decide) kf_Persons_15 0 rfl rfl d_Persons_isAhead_1 ?_
  refine lv_iload_n hx hb d_Persons_isAhead_4 rfl (lv_at hl 1 rfl) ?_
  refine R_lald X hW (t0 := 2) rfl 2 rfl (k := a) (by omega) (by decide) d_Persons_isAhead_5 ?_
  refine lv_aload_n hx hb d_Persons_isAhead_6 rfl (lv_at hl 0 rfl) ?_
  refine R_get X hW i_Persons rfl 1 (by decide) kf_Persons_15 0 rfl rfl d_Persons_isAhead_7 ?_
  refine lv_iload_n hx hb d_Persons_isAhead_10 rfl (lv_at hl 2 rfl) ?_
  refine R_lald X hW (t0 := 2) rfl 2 rfl (k := b) (by omega) (by decide) d_Persons_isAhead_11 ?_
  refine N_lcmp_eq hx hb (by omega) (by omega) (tgt := 38) d_Persons_isAhead_12 d_Persons_isAhead_13 (by decide) (fun c12 => ?_) (fun c12 => ?_)
  · refine lv_iload_n hx hb d_Persons_isAhead_38 rfl (lv_at hl 3 rfl) ?_
    refine N_if_eq_B hx hb  (tgt := 62) d_Persons_isAhead_39 (by decide) (fun c39 => ?_) (fun c39 => ?_)
    · refine lv_iconst (v := (nI 0)) hx hb d_Persons_isAhead_62 (by decide +kernel) ?_
      exact R_zret X Y hW rfl false (by decide +kernel) (by rw [ahd, decide_eq_false (by simp [c39]; omega)]) d_Persons_isAhead_63
    · refine lv_aload_n hx hb d_Persons_isAhead_42 rfl (lv_at hl 0 rfl) ?_
      refine R_get X hW i_Persons rfl 2 (by decide) kf_Persons_19 0 rfl rfl d_Persons_isAhead_43 ?_
      refine lv_iload_n hx hb d_Persons_isAhead_46 rfl (lv_at hl 1 rfl) ?_
      refine R_lald X hW (t0 := 2) rfl 3 rfl (k := a) (by omega) (by decide) d_Persons_isAhead_47 ?_
      refine lv_aload_n hx hb d_Persons_isAhead_48 rfl (lv_at hl 0 rfl) ?_
      refine R_get X hW i_Persons rfl 2 (by decide) kf_Persons_19 0 rfl rfl d_Persons_isAhead_49 ?_
      refine lv_iload_n hx hb d_Persons_isAhead_52 rfl (lv_at hl 2 rfl) ?_
      refine R_lald X hW (t0 := 2) rfl 3 rfl (k := b) (by omega) (by decide) d_Persons_isAhead_53 ?_
      refine N_lcmp_ge hx hb (by omega) (by omega) (tgt := 62) d_Persons_isAhead_54 d_Persons_isAhead_55 (by decide) (fun c54 => ?_) (fun c54 => ?_)
      · refine lv_iconst (v := (nI 0)) hx hb d_Persons_isAhead_62 (by decide +kernel) ?_
        exact R_zret X Y hW rfl false (by decide +kernel) (by rw [ahd, decide_eq_false (by omega)]) d_Persons_isAhead_63
      · refine lv_iconst (v := (nI 1)) hx hb d_Persons_isAhead_58 (by decide +kernel) ?_
        refine lv_goto (tgt := 63) hx hb d_Persons_isAhead_59 (by decide) ?_
        exact R_zret X Y hW rfl true (by decide +kernel) (by rw [ahd, decide_eq_true (by simp [c39]; omega)]) d_Persons_isAhead_63
  · refine lv_aload_n hx hb d_Persons_isAhead_16 rfl (lv_at hl 0 rfl) ?_
    refine R_get X hW i_Persons rfl 1 (by decide) kf_Persons_15 0 rfl rfl d_Persons_isAhead_17 ?_
    refine lv_iload_n hx hb d_Persons_isAhead_20 rfl (lv_at hl 1 rfl) ?_
    refine R_lald X hW (t0 := 2) rfl 2 rfl (k := a) (by omega) (by decide) d_Persons_isAhead_21 ?_
    refine lv_aload_n hx hb d_Persons_isAhead_22 rfl (lv_at hl 0 rfl) ?_
    refine R_get X hW i_Persons rfl 1 (by decide) kf_Persons_15 0 rfl rfl d_Persons_isAhead_23 ?_
    refine lv_iload_n hx hb d_Persons_isAhead_26 rfl (lv_at hl 2 rfl) ?_
    refine R_lald X hW (t0 := 2) rfl 2 rfl (k := b) (by omega) (by decide) d_Persons_isAhead_27 ?_
    refine N_lcmp_le hx hb (by omega) (by omega) (tgt := 36) d_Persons_isAhead_28 d_Persons_isAhead_29 (by decide) (fun c28 => ?_) (fun c28 => ?_)
    · refine lv_iconst (v := (nI 0)) hx hb d_Persons_isAhead_36 (by decide +kernel) ?_
      exact R_zret X Y hW rfl false (by decide +kernel) (by rw [ahd, decide_eq_false (by omega)]) d_Persons_isAhead_37
    · refine lv_iconst (v := (nI 1)) hx hb d_Persons_isAhead_32 (by decide +kernel) ?_
      refine lv_goto (tgt := 37) hx hb d_Persons_isAhead_33 (by decide) ?_
      exact R_zret X Y hW rfl true (by decide +kernel) (by rw [ahd, decide_eq_true (by omega)]) d_Persons_isAhead_37

theorem kb_Persons_isAhead : Cond.code y_Persons_isAhead b_Persons_isAhead 4 (some .boolean) ∈ TBL := TBL_t (List.mem_append_right _ (List.mem_append_left _ (List.mem_of_getElem? (i := 180) rfl))) rfl
theorem kn_Persons : Cond.initialized "ContestRows$Persons" ∈ TBL := TBL_t (List.mem_append_left _ (List.mem_of_getElem? (i := 3) rfl)) rfl
theorem km_Persons_29 : Cond.methodLink "ContestRows$Persons" 29 y_Persons_isAhead ∈ TBL := TBL_t (List.mem_append_right _ (List.mem_append_left _ (List.mem_of_getElem? (i := 177) rfl))) rfl
theorem cw_Persons_29 : Cw "ContestRows$Persons" 29 y_Persons_isAhead b_Persons_isAhead 4 (some .boolean) 3 := ⟨kb_Persons_isAhead, kn_Persons, km_Persons_29, by decide +kernel⟩
theorem ki_Persons_isAhead : Cond.instanceMethod y_Persons_isAhead ∈ TBL := TBL_t (List.mem_append_right _ (List.mem_append_left _ (List.mem_of_getElem? (i := 179) rfl))) rfl
theorem ks_Persons_isAhead : Cond.selects "ContestRows$Persons" y_Persons_isAhead y_Persons_isAhead ∈ TBL := TBL_in (List.mem_append_left _ (List.mem_map.mpr ⟨(y_Persons_isAhead, 5), by decide +kernel, rfl⟩)) rfl
set_option maxHeartbeats 4000000 in
set_option maxRecDepth 100000 in
theorem c_Persons_rankOf (l : Launch) (G : va_G) (cI cZ cJ : ClassId) (h : Nat → Nat) (ne : Nat) (stt : Nat → Option Nat) (sco : Nat → Nat) (tim : Nat → Nat) (cnt : Nat → Nat) (x : Nat) (t : Bool) (hx0 : x < 20) (hne : ne ≤ 20) (hsc : ∀ i, i < 20 → sco i < 2 ^ 63) (htm : ∀ i, i < 20 → tim i < 2 ^ 63) : Ct l G (tyL cI cZ cJ) y_Persons_rankOf b_Persons_rankOf 5 (some .int) (rmL 1) [.ref (h 11), .int (nI x), .int (bI t)] (w_Per h cI cZ cJ ne stt sco tim cnt) (some (.int (nI (1 + cntF (fun k => ahd sco tim t k x) ne)))) (w_Per h cI cZ cJ ne stt sco tim cnt) := by
  refine M_start (by decide) (Nat.le_of_ble_eq_true rfl) ?_
  intro p e s m args below meth c A Q ls X Y hW hl
  have hx := X.1.1
  have hb := X.1.2.1
  have hl : lv_has ls 5 [(0, .ref (h 11)), (1, .int (nI x)), (2, .int (bI t))] := hl
  refine lv_iconst (v := (nI 1)) hx hb d_Persons_rankOf_0 (by decide +kernel) ?_
  refine lv_istore_n (lv' := [(3, .int (nI 1)), (0, .ref (h 11)), (1, .int (nI x)), (2, .int (bI t))]) hx hb d_Persons_rankOf_1 rfl hl (by decide) rfl (fun ls hl => ?_)
  refine lv_iconst (v := (nI 0)) hx hb d_Persons_rankOf_2 (by decide +kernel) ?_
  refine lv_istore (lv' := [(4, .int (nI 0)), (3, .int (nI 1)), (0, .ref (h 11)), (1, .int (nI x)), (2, .int (bI t))]) hx hb d_Persons_rankOf_3 hl (by decide) rfl (fun ls hl => ?_)
  have L5 : ∀ (n : Nat) (r : Nat) (i : Nat) (hi : i + n = ne) (hr : r = 1 + cntF (fun k => ahd sco tim t k x) i) (H : Heap) (locs : List Loc) (hW : Wr G A s.heap (w_Per h cI cZ cJ ne stt sco tim cnt) H locs) (ls : Array Slot) (hl : lv_has ls 5 [(0, .ref (h 11)), (1, .int (nI x)), (2, .int (bI t)), (3, .int (nI r)), (4, .int (nI i))]), W p l e (rmL 1) s m args below meth c H locs 0 0 Q (F0 m 5 ls []) := by
    intro n
    induction n with
    | zero =>
      intro r i hi hr H locs hW ls hl
      refine lv_iload hx hb d_Persons_rankOf_5 (lv_at hl 4 rfl) ?_
      refine lv_aload_n hx hb d_Persons_rankOf_7 rfl (lv_at hl 0 rfl) ?_
      refine R_get X hW i_Persons rfl 4 (by decide) kf_Persons_25 0 rfl rfl d_Persons_rankOf_8 ?_
      refine N_icmp_ge_NN hx hb (by omega) (by omega) (tgt := 34) d_Persons_rankOf_11 (by decide) (fun c11 => ?_) (fun c11 => ?_)
      · have e9 : ne = i := by omega
        subst e9
        refine lv_iload_n hx hb d_Persons_rankOf_34 rfl (lv_at hl 3 rfl) ?_
        exact R_iret X Y hW rfl (by rw [hr]) d_Persons_rankOf_35
      · exfalso; omega
    | succ n ih5 =>
      intro r i hi hr H locs hW ls hl
      refine lv_iload hx hb d_Persons_rankOf_5 (lv_at hl 4 rfl) ?_
      refine lv_aload_n hx hb d_Persons_rankOf_7 rfl (lv_at hl 0 rfl) ?_
      refine R_get X hW i_Persons rfl 4 (by decide) kf_Persons_25 0 rfl rfl d_Persons_rankOf_8 ?_
      refine N_icmp_ge_NN hx hb (by omega) (by omega) (tgt := 34) d_Persons_rankOf_11 (by decide) (fun c11 => ?_) (fun c11 => ?_)
      · exfalso; omega
      · refine lv_aload_n hx hb d_Persons_rankOf_14 rfl (lv_at hl 0 rfl) ?_
        refine lv_iload hx hb d_Persons_rankOf_15 (lv_at hl 4 rfl) ?_
        refine lv_iload_n hx hb d_Persons_rankOf_17 rfl (lv_at hl 1 rfl) ?_
        refine lv_iload_n hx hb d_Persons_rankOf_18 rfl (lv_at hl 2 rfl) ?_
        refine R_callV (q0 := 0) (c_Persons_isAhead l G cI cZ cJ h ne stt sco tim cnt i x t (by omega) hx0 hsc htm) X rfl hW cw_Persons_29 ki_Persons_isAhead ks_Persons_isAhead rfl rfl ⟨rfl, rfl⟩ ⟨by decide, by decide⟩ ⟨Nat.zero_le _, Nat.zero_le _⟩ [true, true, true, true, true] rfl (Nat.le_of_ble_eq_true rfl) rfl rfl hl.1 rfl rfl (Nat.le_of_ble_eq_true rfl) d_Persons_rankOf_19 rfl (fun H locs hW => ?_)
        have hW : Wr G A s.heap (w_Per h cI cZ cJ ne stt sco tim cnt) H locs := hW
        refine N_if_eq_B hx hb  (tgt := 28) d_Persons_rankOf_22 (by decide) (fun c22 => ?_) (fun c22 => ?_)
        · refine lv_iinc (v := (nI (i + 1))) (lv' := [(4, .int (nI (i + 1))), (0, .ref (h 11)), (1, .int (nI x)), (2, .int (bI t)), (3, .int (nI r))]) hx hb d_Persons_rankOf_28 hl (k := 4) rfl (N_inc i) (by decide) rfl (fun ls hl => ?_)
          refine lv_goto (tgt := 5) hx hb d_Persons_rankOf_31 (by decide) ?_
          exact ih5 r (i + 1) (by omega) (by rw [cntF, c22]; simp; omega) _ _ hW ls (lv_sub hl [1, 2, 3, 4, 0] rfl)
        · refine lv_iinc (v := (nI (r + 1))) (lv' := [(3, .int (nI (r + 1))), (0, .ref (h 11)), (1, .int (nI x)), (2, .int (bI t)), (4, .int (nI i))]) hx hb d_Persons_rankOf_25 hl (k := 3) rfl (N_inc r) (by decide) rfl (fun ls hl => ?_)
          refine lv_iinc (v := (nI (i + 1))) (lv' := [(4, .int (nI (i + 1))), (3, .int (nI (r + 1))), (0, .ref (h 11)), (1, .int (nI x)), (2, .int (bI t))]) hx hb d_Persons_rankOf_28 hl (k := 4) rfl (N_inc i) (by decide) rfl (fun ls hl => ?_)
          refine lv_goto (tgt := 5) hx hb d_Persons_rankOf_31 (by decide) ?_
          exact ih5 (r + 1) (i + 1) (by omega) (by rw [cntF, c22]; simp; omega) _ _ hW ls (lv_sub hl [2, 3, 4, 1, 0] rfl)
  exact L5 ne 1 0 (by omega) rfl _ _ hW ls (lv_sub hl [2, 3, 4, 1, 0] rfl)

theorem kb_Persons_rankOf : Cond.code y_Persons_rankOf b_Persons_rankOf 5 (some .int) ∈ TBL := TBL_t (List.mem_append_right _ (List.mem_append_left _ (List.mem_of_getElem? (i := 176) rfl))) rfl
theorem km_Persons_37 : Cond.methodLink "ContestRows$Persons" 37 y_Persons_rankOf ∈ TBL := TBL_t (List.mem_append_right _ (List.mem_append_left _ (List.mem_of_getElem? (i := 197) rfl))) rfl
theorem cw_Persons_37 : Cw "ContestRows$Persons" 37 y_Persons_rankOf b_Persons_rankOf 5 (some .int) 2 := ⟨kb_Persons_rankOf, kn_Persons, km_Persons_37, by decide +kernel⟩
theorem ki_Persons_rankOf : Cond.instanceMethod y_Persons_rankOf ∈ TBL := TBL_t (List.mem_append_right _ (List.mem_append_left _ (List.mem_of_getElem? (i := 174) rfl))) rfl
theorem ks_Persons_rankOf : Cond.selects "ContestRows$Persons" y_Persons_rankOf y_Persons_rankOf ∈ TBL := TBL_t (List.mem_append_right _ (List.mem_append_left _ (List.mem_of_getElem? (i := 175) rfl))) rfl
theorem kb_Persons_alike : Cond.code y_Persons_alike b_Persons_alike 4 (some .boolean) ∈ TBL := TBL_t (List.mem_append_right _ (List.mem_append_left _ (List.mem_of_getElem? (i := 201) rfl))) rfl
theorem km_Persons_40 : Cond.methodLink "ContestRows$Persons" 40 y_Persons_alike ∈ TBL := TBL_t (List.mem_append_right _ (List.mem_append_left _ (List.mem_of_getElem? (i := 198) rfl))) rfl
theorem cw_Persons_40 : Cw "ContestRows$Persons" 40 y_Persons_alike b_Persons_alike 4 (some .boolean) 3 := ⟨kb_Persons_alike, kn_Persons, km_Persons_40, by decide +kernel⟩
theorem ki_Persons_alike : Cond.instanceMethod y_Persons_alike ∈ TBL := TBL_t (List.mem_append_right _ (List.mem_append_left _ (List.mem_of_getElem? (i := 199) rfl))) rfl
theorem ks_Persons_alike : Cond.selects "ContestRows$Persons" y_Persons_alike y_Persons_alike ∈ TBL := TBL_t (List.mem_append_right _ (List.mem_append_left _ (List.mem_of_getElem? (i := 200) rfl))) rfl
set_option maxHeartbeats 4000000 in
set_option maxRecDepth 100000 in
theorem c_Persons_howManyBefore (l : Launch) (G : va_G) (cI cZ cJ : ClassId) (h : Nat → Nat) (ne : Nat) (stt : Nat → Option Nat) (sco : Nat → Nat) (tim : Nat → Nat) (cnt : Nat → Nat) (x : Nat) (t : Bool) (hx0 : x < 20) (hne : ne ≤ 20) (hsc : ∀ i, i < 20 → sco i < 2 ^ 63) (htm : ∀ i, i < 20 → tim i < 2 ^ 63) : Ct l G (tyL cI cZ cJ) y_Persons_howManyBefore b_Persons_howManyBefore 5 (some .int) (rmL 2) [.ref (h 11), .int (nI x), .int (bI t)] (w_Per h cI cZ cJ ne stt sco tim cnt) (some (.int (nI (hmb sco tim ne t x)))) (w_Per h cI cZ cJ ne stt sco tim cnt) := by
  refine M_start (by decide) (Nat.le_of_ble_eq_true rfl) ?_
  intro p e s m args below meth c A Q ls X Y hW hl
  have hx := X.1.1
  have hb := X.1.2.1
  have hl : lv_has ls 5 [(0, .ref (h 11)), (1, .int (nI x)), (2, .int (bI t))] := hl
  refine lv_aload_n hx hb d_Persons_howManyBefore_0 rfl (lv_at hl 0 rfl) ?_
  refine lv_iload_n hx hb d_Persons_howManyBefore_1 rfl (lv_at hl 1 rfl) ?_
  refine lv_iload_n hx hb d_Persons_howManyBefore_2 rfl (lv_at hl 2 rfl) ?_
  refine R_callV (q0 := 0) (c_Persons_rankOf l G cI cZ cJ h ne stt sco tim cnt x t hx0 hne hsc htm) X rfl hW cw_Persons_37 ki_Persons_rankOf ks_Persons_rankOf rfl rfl ⟨rfl, rfl⟩ ⟨by decide, by decide⟩ ⟨Nat.zero_le _, Nat.zero_le _⟩ [true, true, true, true, true] rfl (Nat.le_of_ble_eq_true rfl) rfl rfl hl.1 rfl rfl (Nat.le_of_ble_eq_true rfl) d_Persons_howManyBefore_3 rfl (fun H locs hW => ?_)
  have hW : Wr G A s.heap (w_Per h cI cZ cJ ne stt sco tim cnt) H locs := hW
  refine lv_iconst (v := (nI 1)) hx hb d_Persons_howManyBefore_6 (by decide +kernel) ?_
  refine N_isub (r := (1 + cntF (fun k => ahd sco tim t k x) ne) - 1) hx hb (by omega) (by omega) d_Persons_howManyBefore_7 ?_
  refine lv_istore_n (lv' := [(3, .int (nI ((1 + cntF (fun k => ahd sco tim t k x) ne) - 1))), (0, .ref (h 11)), (1, .int (nI x)), (2, .int (bI t))]) hx hb d_Persons_howManyBefore_8 rfl hl (by decide) rfl (fun ls hl => ?_)
  refine lv_iconst (v := (nI 0)) hx hb d_Persons_howManyBefore_9 (by decide +kernel) ?_
  refine lv_istore (lv' := [(4, .int (nI 0)), (3, .int (nI ((1 + cntF (fun k => ahd sco tim t k x) ne) - 1))), (0, .ref (h 11)), (1, .int (nI x)), (2, .int (bI t))]) hx hb d_Persons_howManyBefore_10 hl (by decide) rfl (fun ls hl => ?_)
  have L12 : ∀ (n : Nat) (r : Nat) (i : Nat) (hi : i + n = x) (hr : r = cntF (fun k => ahd sco tim t k x) ne + cntF (fun k => alk sco tim t k x) i) (H : Heap) (locs : List Loc) (hW : Wr G A s.heap (w_Per h cI cZ cJ ne stt sco tim cnt) H locs) (ls : Array Slot) (hl : lv_has ls 5 [(0, .ref (h 11)), (1, .int (nI x)), (2, .int (bI t)), (3, .int (nI r)), (4, .int (nI i))]), W p l e (rmL 2) s m args below meth c H locs 0 0 Q (F0 m 12 ls []) := by
    intro n
    induction n with
    | zero =>
      intro r i hi hr H locs hW ls hl
      refine lv_iload hx hb d_Persons_howManyBefore_12 (lv_at hl 4 rfl) ?_
      refine lv_iload_n hx hb d_Persons_howManyBefore_14 rfl (lv_at hl 1 rfl) ?_
      refine N_icmp_ge_NN hx hb (by omega) (by omega) (tgt := 38) d_Persons_howManyBefore_15 (by decide) (fun c15 => ?_) (fun c15 => ?_)
      · have e9 : x = i := by omega
        subst e9
        refine lv_iload_n hx hb d_Persons_howManyBefore_38 rfl (lv_at hl 3 rfl) ?_
        exact R_iret X Y hW rfl (by rw [hr]; rfl) d_Persons_howManyBefore_39
      · exfalso; omega
    | succ n ih12 =>
      intro r i hi hr H locs hW ls hl
      refine lv_iload hx hb d_Persons_howManyBefore_12 (lv_at hl 4 rfl) ?_
      refine lv_iload_n hx hb d_Persons_howManyBefore_14 rfl (lv_at hl 1 rfl) ?_
      refine N_icmp_ge_NN hx hb (by omega) (by omega) (tgt := 38) d_Persons_howManyBefore_15 (by decide) (fun c15 => ?_) (fun c15 => ?_)
      · exfalso; omega
      · refine lv_aload_n hx hb d_Persons_howManyBefore_18 rfl (lv_at hl 0 rfl) ?_
        refine lv_iload hx hb d_Persons_howManyBefore_19 (lv_at hl 4 rfl) ?_
        refine lv_iload_n hx hb d_Persons_howManyBefore_21 rfl (lv_at hl 1 rfl) ?_
        refine lv_iload_n hx hb d_Persons_howManyBefore_22 rfl (lv_at hl 2 rfl) ?_
        refine R_callV (q0 := 0) (c_Persons_alike l G cI cZ cJ h ne stt sco tim cnt i x t (by omega) hx0 hsc htm) X rfl hW cw_Persons_40 ki_Persons_alike ks_Persons_alike rfl rfl ⟨rfl, rfl⟩ ⟨by decide, by decide⟩ ⟨Nat.zero_le _, Nat.zero_le _⟩ [true, true, true, true, true] rfl (Nat.le_of_ble_eq_true rfl) rfl rfl hl.1 rfl rfl (Nat.le_of_ble_eq_true rfl) d_Persons_howManyBefore_23 rfl (fun H locs hW => ?_)
        have hW : Wr G A s.heap (w_Per h cI cZ cJ ne stt sco tim cnt) H locs := hW
        refine N_if_eq_B hx hb  (tgt := 32) d_Persons_howManyBefore_26 (by decide) (fun c26 => ?_) (fun c26 => ?_)
        · refine lv_iinc (v := (nI (i + 1))) (lv' := [(4, .int (nI (i + 1))), (0, .ref (h 11)), (1, .int (nI x)), (2, .int (bI t)), (3, .int (nI r))]) hx hb d_Persons_howManyBefore_32 hl (k := 4) rfl (N_inc i) (by decide) rfl (fun ls hl => ?_)
          refine lv_goto (tgt := 12) hx hb d_Persons_howManyBefore_35 (by decide) ?_
          exact ih12 r (i + 1) (by omega) (by rw [cntF, c26]; simp; omega) _ _ hW ls (lv_sub hl [1, 2, 3, 4, 0] rfl)
        · refine lv_iinc (v := (nI (r + 1))) (lv' := [(3, .int (nI (r + 1))), (0, .ref (h 11)), (1, .int (nI x)), (2, .int (bI t)), (4, .int (nI i))]) hx hb d_Persons_howManyBefore_29 hl (k := 3) rfl (N_inc r) (by decide) rfl (fun ls hl => ?_)
          refine lv_iinc (v := (nI (i + 1))) (lv' := [(4, .int (nI (i + 1))), (3, .int (nI (r + 1))), (0, .ref (h 11)), (1, .int (nI x)), (2, .int (bI t))]) hx hb d_Persons_howManyBefore_32 hl (k := 4) rfl (N_inc i) (by decide) rfl (fun ls hl => ?_)
          refine lv_goto (tgt := 12) hx hb d_Persons_howManyBefore_35 (by decide) ?_
          exact ih12 (r + 1) (i + 1) (by omega) (by rw [cntF, c26]; simp; omega) _ _ hW ls (lv_sub hl [2, 3, 4, 1, 0] rfl)
  exact L12 x ((1 + cntF (fun k => ahd sco tim t k x) ne) - 1) 0 (by omega) (by simp [cntF]) _ _ hW ls (lv_sub hl [2, 3, 4, 1, 0] rfl)

theorem kb_Persons_howManyBefore : Cond.code y_Persons_howManyBefore b_Persons_howManyBefore 5 (some .int) ∈ TBL := TBL_t (List.mem_append_right _ (List.mem_append_left _ (List.mem_of_getElem? (i := 196) rfl))) rfl
theorem km_Persons_33 : Cond.methodLink "ContestRows$Persons" 33 y_Persons_howManyBefore ∈ TBL := TBL_t (List.mem_append_right _ (List.mem_append_left _ (List.mem_of_getElem? (i := 193) rfl))) rfl
theorem cw_Persons_33 : Cw "ContestRows$Persons" 33 y_Persons_howManyBefore b_Persons_howManyBefore 5 (some .int) 2 := ⟨kb_Persons_howManyBefore, kn_Persons, km_Persons_33, by decide +kernel⟩
theorem ki_Persons_howManyBefore : Cond.instanceMethod y_Persons_howManyBefore ∈ TBL := TBL_t (List.mem_append_right _ (List.mem_append_left _ (List.mem_of_getElem? (i := 195) rfl))) rfl
theorem ks_Persons_howManyBefore : Cond.selects "ContestRows$Persons" y_Persons_howManyBefore y_Persons_howManyBefore ∈ TBL := TBL_in (List.mem_append_left _ (List.mem_map.mpr ⟨(y_Persons_howManyBefore, 5), by decide +kernel, rfl⟩)) rfl
set_option maxHeartbeats 4000000 in
set_option maxRecDepth 100000 in
theorem c_Persons_inPlace (l : Launch) (G : va_G) (cI cZ cJ : ClassId) (h : Nat → Nat) (ne : Nat) (stt : Nat → Option Nat) (sco : Nat → Nat) (tim : Nat → Nat) (cnt : Nat → Nat) (k : Nat) (t : Bool) (hk : k < 2 ^ 31) (hne : ne ≤ 20) (hsc : ∀ i, i < 20 → sco i < 2 ^ 63) (htm : ∀ i, i < 20 → tim i < 2 ^ 63) : Ct l G (tyL cI cZ cJ) y_Persons_inPlace b_Persons_inPlace 4 (some .int) (rmL 3) [.ref (h 11), .int (nI k), .int (bI t)] (w_Per h cI cZ cJ ne stt sco tim cnt) (some (.int (oI (fstG (fun q => decide (hmb sco tim ne t q = k)) ne 0)))) (w_Per h cI cZ cJ ne stt sco tim cnt) := by
  refine M_start (by decide) (Nat.le_of_ble_eq_true rfl) ?_
  intro p e s m args below meth c A Q ls X Y hW hl
  have hx := X.1.1
  have hb := X.1.2.1
  have hl : lv_has ls 4 [(0, .ref (h 11)), (1, .int (nI k)), (2, .int (bI t))] := hl
  refine lv_iconst (v := (nI 0)) hx hb d_Persons_inPlace_0 (by decide +kernel) ?_
  refine lv_istore_n (lv' := [(3, .int (nI 0)), (0, .ref (h 11)), (1, .int (nI k)), (2, .int (bI t))]) hx hb d_Persons_inPlace_1 rfl hl (by decide) rfl (fun ls hl => ?_)
  have L2 : ∀ (n : Nat) (i : Nat) (hi : i + n = ne) (he : fstG (fun q => decide (hmb sco tim ne t q = k)) n i = fstG (fun q => decide (hmb sco tim ne t q = k)) ne 0) (H : Heap) (locs : List Loc) (hW : Wr G A s.heap (w_Per h cI cZ cJ ne stt sco tim cnt) H locs) (ls : Array Slot) (hl : lv_has ls 4 [(0, .ref (h 11)), (1, .int (nI k)), (2, .int (bI t)), (3, .int (nI i))]), W p l e (rmL 3) s m args below meth c H locs 0 0 Q (F0 m 2 ls []) := by
    intro n
    induction n with
    | zero =>
      intro i hi he H locs hW ls hl
      refine lv_iload_n hx hb d_Persons_inPlace_2 rfl (lv_at hl 3 rfl) ?_
      refine lv_aload_n hx hb d_Persons_inPlace_3 rfl (lv_at hl 0 rfl) ?_
      refine R_get X hW i_Persons rfl 4 (by decide) kf_Persons_25 0 rfl rfl d_Persons_inPlace_4 ?_
      refine N_icmp_ge_NN hx hb (by omega) (by omega) (tgt := 28) d_Persons_inPlace_7 (by decide) (fun c7 => ?_) (fun c7 => ?_)
      · refine lv_iconst (v := (-1)) hx hb d_Persons_inPlace_28 (by decide +kernel) ?_
        exact R_iret X Y hW rfl (by rw [← he]; rfl) d_Persons_inPlace_29
      · exfalso; omega
    | succ n ih2 =>
      intro i hi he H locs hW ls hl
      refine lv_iload_n hx hb d_Persons_inPlace_2 rfl (lv_at hl 3 rfl) ?_
      refine lv_aload_n hx hb d_Persons_inPlace_3 rfl (lv_at hl 0 rfl) ?_
      refine R_get X hW i_Persons rfl 4 (by decide) kf_Persons_25 0 rfl rfl d_Persons_inPlace_4 ?_
      refine N_icmp_ge_NN hx hb (by omega) (by omega) (tgt := 28) d_Persons_inPlace_7 (by decide) (fun c7 => ?_) (fun c7 => ?_)
      · exfalso; omega
      · refine lv_aload_n hx hb d_Persons_inPlace_10 rfl (lv_at hl 0 rfl) ?_
        refine lv_iload_n hx hb d_Persons_inPlace_11 rfl (lv_at hl 3 rfl) ?_
        refine lv_iload_n hx hb d_Persons_inPlace_12 rfl (lv_at hl 2 rfl) ?_
        refine R_callV (q0 := 0) (c_Persons_howManyBefore l G cI cZ cJ h ne stt sco tim cnt i t (by omega) hne hsc htm) X rfl hW cw_Persons_33 ki_Persons_howManyBefore ks_Persons_howManyBefore rfl rfl ⟨rfl, rfl⟩ ⟨by decide, by decide⟩ ⟨Nat.zero_le _, Nat.zero_le _⟩ [true, true, true, true, true] rfl (Nat.le_of_ble_eq_true rfl) rfl rfl hl.1 rfl rfl (Nat.le_of_ble_eq_true rfl) d_Persons_inPlace_13 rfl (fun H locs hW => ?_)
        have hW : Wr G A s.heap (w_Per h cI cZ cJ ne stt sco tim cnt) H locs := hW
        have q9 := hmb_lt sco tim ne t i
        refine lv_iload_n hx hb d_Persons_inPlace_16 rfl (lv_at hl 1 rfl) ?_
        refine N_icmp_ne_NN hx hb (by omega) (by omega) (tgt := 22) d_Persons_inPlace_17 (by decide) (fun c17 => ?_) (fun c17 => ?_)
        · refine lv_iinc (v := (nI (i + 1))) (lv' := [(3, .int (nI (i + 1))), (0, .ref (h 11)), (1, .int (nI k)), (2, .int (bI t))]) hx hb d_Persons_inPlace_22 hl (k := 3) rfl (N_inc i) (by decide) rfl (fun ls hl => ?_)
          refine lv_goto (tgt := 2) hx hb d_Persons_inPlace_25 (by decide) ?_
          exact ih2 (i + 1) (by omega) (by rw [← he, fstG, if_neg (by simp [c17])]) _ _ hW ls (lv_sub hl [1, 2, 3, 0] rfl)
        · refine lv_iload_n hx hb d_Persons_inPlace_20 rfl (lv_at hl 3 rfl) ?_
          exact R_iret X Y hW rfl (by rw [← he, fstG, if_pos (by simp [c17])]; rfl) d_Persons_inPlace_21
  exact L2 ne 0 (by omega) rfl _ _ hW ls (lv_sub hl [1, 2, 3, 0] rfl)
