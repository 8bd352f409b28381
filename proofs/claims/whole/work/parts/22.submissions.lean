theorem kf_Submissions_31 : Cond.fieldLink "ContestRows$Submissions" 31 "ContestRows$Submissions" "many" "I" ∈ TBL := TBL_t (List.mem_append_left _ (List.mem_of_getElem? (i := 98) rfl)) rfl
set_option maxHeartbeats 4000000 in
set_option maxRecDepth 100000 in
theorem c_Submissions_has (l : Launch) (G : va_G) (cI cZ cJ : ClassId) (h : Nat → Nat) (ns : Nat) (sp : Nat → Nat) (sq : Nat → Nat) (sec : Nat → Nat) (rt : Nat → Bool) (it : Nat → Nat) (ans : Nat → Nat) (x : Int32) (hn : ns ≤ 300) : Ct l G (tyL cI cZ cJ) y_Submissions_has b_Submissions_has 2 (some .boolean) (rmL 0) [.ref (h 16), .int x] (w_Sub h cI cZ cJ ns sp sq sec rt it ans) (some (.int (bI (inB x ns)))) (w_Sub h cI cZ cJ ns sp sq sec rt it ans) := by
  refine M_start (by decide) (Nat.le_of_ble_eq_true rfl) ?_
  intro p e s m args below meth c A Q ls X Y hW hl
  have hx := X.1.1
  have hb := X.1.2.1
  have hl : lv_has ls 2 [(0, .ref (h 16)), (1, .int x)] := hl
  refine lv_iload_n hx hb d_Submissions_has_0 rfl (lv_at hl 1 rfl) ?_
  refine N_if_lt_R hx hb  (tgt := 16) d_Submissions_has_1 (by decide) (fun c1 => ?_) (fun c1 => ?_)
  · refine lv_iconst (v := (nI 0)) hx hb d_Submissions_has_16 (by decide +kernel) ?_
    exact R_zret X Y hW rfl false (by decide +kernel) (by rw [inB_f (by omega)]) d_Submissions_has_17
  · refine lv_iload_n hx hb d_Submissions_has_4 rfl (lv_at hl 1 rfl) ?_
    refine lv_aload_n hx hb d_Submissions_has_5 rfl (lv_at hl 0 rfl) ?_
    refine R_get X hW i_Submissions rfl 5 (by decide) kf_Submissions_31 0 rfl rfl d_Submissions_has_6 ?_
    refine N_icmp_ge_RN hx hb (by omega) (tgt := 16) d_Submissions_has_9 (by decide) (fun c9 => ?_) (fun c9 => ?_)
    · refine lv_iconst (v := (nI 0)) hx hb d_Submissions_has_16 (by decide +kernel) ?_
      exact R_zret X Y hW rfl false (by decide +kernel) (by rw [inB_f (by omega)]) d_Submissions_has_17
    · refine lv_iconst (v := (nI 1)) hx hb d_Submissions_has_12 (by decide +kernel) ?_
      refine lv_goto (tgt := 17) hx hb d_Submissions_has_13 (by decide) ?_
      exact R_zret X Y hW rfl true (by decide +kernel) (by rw [inB_t (by omega)]) d_Submissions_has_17

theorem kf_Submissions_25 : Cond.fieldLink "ContestRows$Submissions" 25 "ContestRows$Submissions" "inTime" "[I" ∈ TBL := TBL_t (List.mem_append_left _ (List.mem_of_getElem? (i := 96) rfl)) rfl
theorem kf_Submissions_18 : Cond.fieldLink "ContestRows$Submissions" 18 "ContestRows$Submissions" "seconds" "[I" ∈ TBL := TBL_t (List.mem_append_left _ (List.mem_of_getElem? (i := 92) rfl)) rfl
set_option maxHeartbeats 4000000 in
set_option maxRecDepth 100000 in
theorem c_Submissions_putInTime (l : Launch) (G : va_G) (cI cZ cJ : ClassId) (h : Nat → Nat) (ns : Nat) (sp : Nat → Nat) (sq : Nat → Nat) (sec : Nat → Nat) (rt : Nat → Bool) (it : Nat → Nat) (ans : Nat → Nat) (v : Nat) (hv : v < 300) (hit : ∀ i, i < v → it i < 300) (hse : ∀ i, i < 300 → sec i < 2 ^ 31) : Ct l G (tyL cI cZ cJ) y_Submissions_putInTime b_Submissions_putInTime 3 none (rmL 0) [.ref (h 16), .int (nI v)] (w_Sub h cI cZ cJ ns sp sq sec rt it ans) none (w_Sub h cI cZ cJ ns sp sq sec rt (insG (ltT sec) v v it) ans) := by
  refine M_start (by decide) (Nat.le_of_ble_eq_true rfl) ?_
  intro p e s m args below meth c A Q ls X Y hW hl
  have hx := X.1.1
  have hb := X.1.2.1
  have hl : lv_has ls 3 [(0, .ref (h 16)), (1, .int (nI v))] := hl
  refine lv_iload_n hx hb d_Submissions_putInTime_0 rfl (lv_at hl 1 rfl) ?_
  refine lv_istore_n (lv' := [(2, .int (nI v)), (0, .ref (h 16)), (1, .int (nI v))]) hx hb d_Submissions_putInTime_1 rfl hl (by decide) rfl (fun ls hl => ?_)
  have L2 : ∀ (k : Nat) (f : Nat → Nat) (hk : k ≤ v) (hf : ∀ i, i < k → f i < 300) (he : insG (ltT sec) v k f = insG (ltT sec) v v it) (H : Heap) (locs : List Loc) (hW : Wr G A s.heap (w_Sub h cI cZ cJ ns sp sq sec rt f ans) H locs) (ls : Array Slot) (hl : lv_has ls 3 [(0, .ref (h 16)), (1, .int (nI v)), (2, .int (nI k))]), W p l e (rmL 0) s m args below meth c H locs 0 0 Q (F0 m 2 ls []) := by
    intro k
    induction k with
    | zero =>
      intro f hk hf he H locs hW ls hl
      refine lv_iload_n hx hb d_Submissions_putInTime_2 rfl (lv_at hl 2 rfl) ?_
      refine N_if_le_N hx hb (by omega) (tgt := 48) d_Submissions_putInTime_3 (by decide) (fun c3 => ?_) (fun c3 => ?_)
      · refine lv_aload_n hx hb d_Submissions_putInTime_48 rfl (lv_at hl 0 rfl) ?_
        refine R_get X hW i_Submissions rfl 4 (by decide) kf_Submissions_25 0 rfl rfl d_Submissions_putInTime_49 ?_
        refine lv_iload_n hx hb d_Submissions_putInTime_52 rfl (lv_at hl 2 rfl) ?_
        refine lv_iload_n hx hb d_Submissions_putInTime_53 rfl (lv_at hl 1 rfl) ?_
        refine R_iast X hW (t0 := 0) rfl 5 rfl (k := 0) (by omega) (by decide) v rfl d_Submissions_putInTime_54 (fun H locs hW => ?_)
        have hW : Wr G A s.heap (w_Sub h cI cZ cJ ns sp sq sec rt (va_up f 0 v) ans) H locs := hW
        exact R_vret X Y hW (by rw [← he]; rfl) rfl d_Submissions_putInTime_55
      · exfalso; omega
    | succ k ih2 =>
      intro f hk hf he H locs hW ls hl
      refine lv_iload_n hx hb d_Submissions_putInTime_2 rfl (lv_at hl 2 rfl) ?_
      refine N_if_le_N hx hb (by omega) (tgt := 48) d_Submissions_putInTime_3 (by decide) (fun c3 => ?_) (fun c3 => ?_)
      · exfalso; omega
      · have q1 := hf k (by omega)
        have q2 := hse (f k) q1
        have q3 := hse v hv
        refine lv_aload_n hx hb d_Submissions_putInTime_6 rfl (lv_at hl 0 rfl) ?_
        refine R_get X hW i_Submissions rfl 2 (by decide) kf_Submissions_18 0 rfl rfl d_Submissions_putInTime_7 ?_
        refine lv_aload_n hx hb d_Submissions_putInTime_10 rfl (lv_at hl 0 rfl) ?_
        refine R_get X hW i_Submissions rfl 4 (by decide) kf_Submissions_25 0 rfl rfl d_Submissions_putInTime_11 ?_
        refine lv_iload_n hx hb d_Submissions_putInTime_14 rfl (lv_at hl 2 rfl) ?_
        refine lv_iconst (v := (nI 1)) hx hb d_Submissions_putInTime_15 (by decide +kernel) ?_
        refine N_isub (r := k) hx hb (by omega) (by omega) d_Submissions_putInTime_16 ?_
        refine R_iald X hW (t0 := 0) rfl 5 rfl (k := k) (by omega) (by decide) d_Submissions_putInTime_17 ?_
        refine R_iald X hW (t0 := 0) rfl 3 rfl (k := (f k)) (by omega) (by decide) d_Submissions_putInTime_18 ?_
        refine lv_aload_n hx hb d_Submissions_putInTime_19 rfl (lv_at hl 0 rfl) ?_
        refine R_get X hW i_Submissions rfl 2 (by decide) kf_Submissions_18 0 rfl rfl d_Submissions_putInTime_20 ?_
        refine lv_iload_n hx hb d_Submissions_putInTime_23 rfl (lv_at hl 1 rfl) ?_
        refine R_iald X hW (t0 := 0) rfl 3 rfl (k := v) (by omega) (by decide) d_Submissions_putInTime_24 ?_
        refine N_icmp_le_NN hx hb (by omega) (by omega) (tgt := 48) d_Submissions_putInTime_25 (by decide) (fun c25 => ?_) (fun c25 => ?_)
        · refine lv_aload_n hx hb d_Submissions_putInTime_48 rfl (lv_at hl 0 rfl) ?_
          refine R_get X hW i_Submissions rfl 4 (by decide) kf_Submissions_25 0 rfl rfl d_Submissions_putInTime_49 ?_
          refine lv_iload_n hx hb d_Submissions_putInTime_52 rfl (lv_at hl 2 rfl) ?_
          refine lv_iload_n hx hb d_Submissions_putInTime_53 rfl (lv_at hl 1 rfl) ?_
          refine R_iast X hW (t0 := 0) rfl 5 rfl (k := (k + 1)) (by omega) (by decide) v rfl d_Submissions_putInTime_54 (fun H locs hW => ?_)
          have hW : Wr G A s.heap (w_Sub h cI cZ cJ ns sp sq sec rt (va_up f (k + 1) v) ans) H locs := hW
          exact R_vret X Y hW (by rw [← he, insG, if_neg (by simp [ltT]; omega)]) rfl d_Submissions_putInTime_55
        · refine lv_aload_n hx hb d_Submissions_putInTime_28 rfl (lv_at hl 0 rfl) ?_
          refine R_get X hW i_Submissions rfl 4 (by decide) kf_Submissions_25 0 rfl rfl d_Submissions_putInTime_29 ?_
          refine lv_iload_n hx hb d_Submissions_putInTime_32 rfl (lv_at hl 2 rfl) ?_
          refine lv_aload_n hx hb d_Submissions_putInTime_33 rfl (lv_at hl 0 rfl) ?_
          refine R_get X hW i_Submissions rfl 4 (by decide) kf_Submissions_25 0 rfl rfl d_Submissions_putInTime_34 ?_
          refine lv_iload_n hx hb d_Submissions_putInTime_37 rfl (lv_at hl 2 rfl) ?_
          refine lv_iconst (v := (nI 1)) hx hb d_Submissions_putInTime_38 (by decide +kernel) ?_
          refine N_isub (r := k) hx hb (by omega) (by omega) d_Submissions_putInTime_39 ?_
          refine R_iald X hW (t0 := 0) rfl 5 rfl (k := k) (by omega) (by decide) d_Submissions_putInTime_40 ?_
          refine R_iast X hW (t0 := 0) rfl 5 rfl (k := (k + 1)) (by omega) (by decide) (f k) rfl d_Submissions_putInTime_41 (fun H locs hW => ?_)
          have hW : Wr G A s.heap (w_Sub h cI cZ cJ ns sp sq sec rt (va_up f (k + 1) (f k)) ans) H locs := hW
          refine lv_iinc (v := (nI k)) (lv' := [(2, .int (nI k)), (0, .ref (h 16)), (1, .int (nI v))]) hx hb d_Submissions_putInTime_42 hl (k := 2) rfl (N_dec (r := k) (by omega) (by omega)) (by decide) rfl (fun ls hl => ?_)
          refine lv_goto (tgt := 2) hx hb d_Submissions_putInTime_45 (by decide) ?_
          exact ih2 (va_up f (k + 1) (f k)) (by omega) (fun i hi => by rw [va_up_ne _ _ (by omega)]; exact hf i (by omega)) (by rw [← he, insG, if_pos (show ltT sec (f k) v = true from decide_eq_true c25)]) _ _ hW ls (lv_sub hl [1, 2, 0] rfl)
  exact L2 v it (Nat.le_refl v) hit rfl _ _ hW ls (lv_sub hl [1, 2, 0] rfl)

theorem kf_Submissions_9 : Cond.fieldLink "ContestRows$Submissions" 9 "ContestRows$Submissions" "persons" "[I" ∈ TBL := TBL_t (List.mem_append_left _ (List.mem_of_getElem? (i := 88) rfl)) rfl
set_option maxHeartbeats 4000000 in
set_option maxRecDepth 100000 in
theorem c_Submissions_anyEarlier (l : Launch) (G : va_G) (cI cZ cJ : ClassId) (h : Nat → Nat) (ns : Nat) (sp : Nat → Nat) (sq : Nat → Nat) (sec : Nat → Nat) (rt : Nat → Bool) (it : Nat → Nat) (ans : Nat → Nat) (x : Nat) (y : Nat) (hx0 : x < 2 ^ 31) (hy0 : y < 2 ^ 31) (hns : ns ≤ 300) (hsp : ∀ i, i < 300 → sp i < 2 ^ 31) (hse : ∀ i, i < 300 → sec i < 2 ^ 31) : Ct l G (tyL cI cZ cJ) y_Submissions_anyEarlier b_Submissions_anyEarlier 4 (some .boolean) (rmL 0) [.ref (h 16), .int (nI x), .int (nI y)] (w_Sub h cI cZ cJ ns sp sq sec rt it ans) (some (.int (bI (anyG (fun i => decide (sp i = x ∧ sec i < y)) ns 0)))) (w_Sub h cI cZ cJ ns sp sq sec rt it ans) := by
  refine M_start (by decide) (Nat.le_of_ble_eq_true rfl) ?_
  intro p e s m args below meth c A Q ls X Y hW hl
  have hx := X.1.1
  have hb := X.1.2.1
  have hl : lv_has ls 4 [(0, .ref (h 16)), (1, .int (nI x)), (2, .int (nI y))] := hl
  refine lv_iconst (v := (nI 0)) hx hb d_Submissions_anyEarlier_0 (by decide +kernel) ?_
  refine lv_istore_n (lv' := [(3, .int (nI 0)), (0, .ref (h 16)), (1, .int (nI x)), (2, .int (nI y))]) hx hb d_Submissions_anyEarlier_1 rfl hl (by decide) rfl (fun ls hl => ?_)
  have L2 : ∀ (n : Nat) (i : Nat) (hi : i + n = ns) (he : anyG (fun i => decide (sp i = x ∧ sec i < y)) n i = anyG (fun i => decide (sp i = x ∧ sec i < y)) ns 0) (H : Heap) (locs : List Loc) (hW : Wr G A s.heap (w_Sub h cI cZ cJ ns sp sq sec rt it ans) H locs) (ls : Array Slot) (hl : lv_has ls 4 [(0, .ref (h 16)), (1, .int (nI x)), (2, .int (nI y)), (3, .int (nI i))]), W p l e (rmL 0) s m args below meth c H locs 0 0 Q (F0 m 2 ls []) := by
    intro n
    induction n with
    | zero =>
      intro i hi he H locs hW ls hl
      refine lv_iload_n hx hb d_Submissions_anyEarlier_2 rfl (lv_at hl 3 rfl) ?_
      refine lv_aload_n hx hb d_Submissions_anyEarlier_3 rfl (lv_at hl 0 rfl) ?_
      refine R_get X hW i_Submissions rfl 5 (by decide) kf_Submissions_31 0 rfl rfl d_Submissions_anyEarlier_4 ?_
      refine N_icmp_ge_NN hx hb (by omega) (by omega) (tgt := 38) d_Submissions_anyEarlier_7 (by decide) (fun c7 => ?_) (fun c7 => ?_)
      · refine lv_iconst (v := (nI 0)) hx hb d_Submissions_anyEarlier_38 (by decide +kernel) ?_
        exact R_zret X Y hW rfl false (by decide +kernel) (by rw [← he]; rfl) d_Submissions_anyEarlier_39
      · exfalso; omega
    | succ n ih2 =>
      intro i hi he H locs hW ls hl
      refine lv_iload_n hx hb d_Submissions_anyEarlier_2 rfl (lv_at hl 3 rfl) ?_
      refine lv_aload_n hx hb d_Submissions_anyEarlier_3 rfl (lv_at hl 0 rfl) ?_
      refine R_get X hW i_Submissions rfl 5 (by decide) kf_Submissions_31 0 rfl rfl d_Submissions_anyEarlier_4 ?_
      refine N_icmp_ge_NN hx hb (by omega) (by omega) (tgt := 38) d_Submissions_anyEarlier_7 (by decide) (fun c7 => ?_) (fun c7 => ?_)
      · exfalso; omega
      · have q1 := hsp i (by omega)
        have q2 := hse i (by omega)
        refine lv_aload_n hx hb d_Submissions_anyEarlier_10 rfl (lv_at hl 0 rfl) ?_
        refine R_get X hW i_Submissions rfl 0 (by decide) kf_Submissions_9 0 rfl rfl d_Submissions_anyEarlier_11 ?_
        refine lv_iload_n hx hb d_Submissions_anyEarlier_14 rfl (lv_at hl 3 rfl) ?_
        refine R_iald X hW (t0 := 0) rfl 1 rfl (k := i) (by omega) (by decide) d_Submissions_anyEarlier_15 ?_
        refine lv_iload_n hx hb d_Submissions_anyEarlier_16 rfl (lv_at hl 1 rfl) ?_
        refine N_icmp_ne_NN hx hb (by omega) (by omega) (tgt := 32) d_Submissions_anyEarlier_17 (by decide) (fun c17 => ?_) (fun c17 => ?_)
        · refine lv_iinc (v := (nI (i + 1))) (lv' := [(3, .int (nI (i + 1))), (0, .ref (h 16)), (1, .int (nI x)), (2, .int (nI y))]) hx hb d_Submissions_anyEarlier_32 hl (k := 3) rfl (N_inc i) (by decide) rfl (fun ls hl => ?_)
          refine lv_goto (tgt := 2) hx hb d_Submissions_anyEarlier_35 (by decide) ?_
          exact ih2 (i + 1) (by omega) (by rw [← he, anyG, if_neg (by simp; omega)]) _ _ hW ls (lv_sub hl [1, 2, 3, 0] rfl)
        · refine lv_aload_n hx hb d_Submissions_anyEarlier_20 rfl (lv_at hl 0 rfl) ?_
          refine R_get X hW i_Submissions rfl 2 (by decide) kf_Submissions_18 0 rfl rfl d_Submissions_anyEarlier_21 ?_
          refine lv_iload_n hx hb d_Submissions_anyEarlier_24 rfl (lv_at hl 3 rfl) ?_
          refine R_iald X hW (t0 := 0) rfl 3 rfl (k := i) (by omega) (by decide) d_Submissions_anyEarlier_25 ?_
          refine lv_iload_n hx hb d_Submissions_anyEarlier_26 rfl (lv_at hl 2 rfl) ?_
          refine N_icmp_ge_NN hx hb (by omega) (by omega) (tgt := 32) d_Submissions_anyEarlier_27 (by decide) (fun c27 => ?_) (fun c27 => ?_)
          · refine lv_iinc (v := (nI (i + 1))) (lv' := [(3, .int (nI (i + 1))), (0, .ref (h 16)), (1, .int (nI x)), (2, .int (nI y))]) hx hb d_Submissions_anyEarlier_32 hl (k := 3) rfl (N_inc i) (by decide) rfl (fun ls hl => ?_)
            refine lv_goto (tgt := 2) hx hb d_Submissions_anyEarlier_35 (by decide) ?_
            exact ih2 (i + 1) (by omega) (by rw [← he, anyG, if_neg (by simp; omega)]) _ _ hW ls (lv_sub hl [1, 2, 3, 0] rfl)
          · refine lv_iconst (v := (nI 1)) hx hb d_Submissions_anyEarlier_30 (by decide +kernel) ?_
            exact R_zret X Y hW rfl true (by decide +kernel) (by rw [← he, anyG, if_pos (by simp; omega)]) d_Submissions_anyEarlier_31
  exact L2 ns 0 (by omega) rfl _ _ hW ls (lv_sub hl [1, 2, 3, 0] rfl)

theorem kf_Submissions_21 : Cond.fieldLink "ContestRows$Submissions" 21 "ContestRows$Submissions" "rights" "[Z" ∈ TBL := TBL_t (List.mem_append_left _ (List.mem_of_getElem? (i := 94) rfl)) rfl
theorem kf_Submissions_15 : Cond.fieldLink "ContestRows$Submissions" 15 "ContestRows$Submissions" "puzzles" "[I" ∈ TBL := TBL_t (List.mem_append_left _ (List.mem_of_getElem? (i := 90) rfl)) rfl
theorem kf_Submissions_28 : Cond.fieldLink "ContestRows$Submissions" 28 "ContestRows$Submissions" "answers" "[I" ∈ TBL := TBL_t (List.mem_append_left _ (List.mem_of_getElem? (i := 100) rfl)) rfl
set_option maxHeartbeats 4000000 in
set_option maxRecDepth 100000 in
theorem c_Submissions_isTwin (l : Launch) (G : va_G) (cI cZ cJ : ClassId) (h : Nat → Nat) (ns : Nat) (sp : Nat → Nat) (sq : Nat → Nat) (sec : Nat → Nat) (rt : Nat → Bool) (it : Nat → Nat) (ans : Nat → Nat) (a : Nat) (b : Nat) (ha : a < 300) (hb0 : b < 300) (hsq : ∀ i, i < 300 → sq i < 2 ^ 31) (han : ∀ i, i < 300 → ans i < 2 ^ 31) : Ct l G (tyL cI cZ cJ) y_Submissions_isTwin b_Submissions_isTwin 3 (some .boolean) (rmL 0) [.ref (h 16), .int (nI a), .int (nI b)] (w_Sub h cI cZ cJ ns sp sq sec rt it ans) (some (.int (bI (twn sq ans rt a b)))) (w_Sub h cI cZ cJ ns sp sq sec rt it ans) := by
  refine M_start (by decide) (Nat.le_of_ble_eq_true rfl) ?_
  intro p e s m args below meth c A Q ls X Y hW hl
  have hx := X.1.1
  have hb := X.1.2.1
  have hl : lv_has ls 3 [(0, .ref (h 16)), (1, .int (nI a)), (2, .int (nI b))] := hl
  have q1 := hsq a ha
  have q2 := hsq b hb0
  have q3 := han a ha
  have q4 := han b hb0
  refine lv_aload_n hx hb d_Submissions_isTwin_0 rfl (lv_at hl 0 rfl) ?_
  refine R_get X hW i_Submissions rfl 3 (by decide) kf_Submissions_21 0 rfl rfl d_Submissions_isTwin_1 ?_
  refine lv_iload_n hx hb d_Submissions_isTwin_4 rfl (lv_at hl 2 rfl) ?_
  refine R_zald X hW (t0 := 1) rfl 4 rfl (k := b) (by omega) (by decide) d_Submissions_isTwin_5 ?_
  refine N_if_ne_B hx hb  (tgt := 43) d_Submissions_isTwin_6 (by decide) (fun c6 => ?_) (fun c6 => ?_)
  · refine lv_iconst (v := (nI 0)) hx hb d_Submissions_isTwin_43 (by decide +kernel) ?_
    exact R_zret X Y hW rfl false (by decide +kernel) (by rw [twn, decide_eq_false (by simp [c6])]) d_Submissions_isTwin_44
  · refine lv_aload_n hx hb d_Submissions_isTwin_9 rfl (lv_at hl 0 rfl) ?_
    refine R_get X hW i_Submissions rfl 1 (by decide) kf_Submissions_15 0 rfl rfl d_Submissions_isTwin_10 ?_
    refine lv_iload_n hx hb d_Submissions_isTwin_13 rfl (lv_at hl 2 rfl) ?_
    refine R_iald X hW (t0 := 0) rfl 2 rfl (k := b) (by omega) (by decide) d_Submissions_isTwin_14 ?_
    refine lv_aload_n hx hb d_Submissions_isTwin_15 rfl (lv_at hl 0 rfl) ?_
    refine R_get X hW i_Submissions rfl 1 (by decide) kf_Submissions_15 0 rfl rfl d_Submissions_isTwin_16 ?_
    refine lv_iload_n hx hb d_Submissions_isTwin_19 rfl (lv_at hl 1 rfl) ?_
    refine R_iald X hW (t0 := 0) rfl 2 rfl (k := a) (by omega) (by decide) d_Submissions_isTwin_20 ?_
    refine N_icmp_ne_NN hx hb (by omega) (by omega) (tgt := 43) d_Submissions_isTwin_21 (by decide) (fun c21 => ?_) (fun c21 => ?_)
    · refine lv_iconst (v := (nI 0)) hx hb d_Submissions_isTwin_43 (by decide +kernel) ?_
      exact R_zret X Y hW rfl false (by decide +kernel) (by rw [twn, decide_eq_false (by omega)]) d_Submissions_isTwin_44
    · refine lv_aload_n hx hb d_Submissions_isTwin_24 rfl (lv_at hl 0 rfl) ?_
      refine R_get X hW i_Submissions rfl 6 (by decide) kf_Submissions_28 0 rfl rfl d_Submissions_isTwin_25 ?_
      refine lv_iload_n hx hb d_Submissions_isTwin_28 rfl (lv_at hl 2 rfl) ?_
      refine R_iald X hW (t0 := 0) rfl 6 rfl (k := b) (by omega) (by decide) d_Submissions_isTwin_29 ?_
      refine lv_aload_n hx hb d_Submissions_isTwin_30 rfl (lv_at hl 0 rfl) ?_
      refine R_get X hW i_Submissions rfl 6 (by decide) kf_Submissions_28 0 rfl rfl d_Submissions_isTwin_31 ?_
      refine lv_iload_n hx hb d_Submissions_isTwin_34 rfl (lv_at hl 1 rfl) ?_
      refine R_iald X hW (t0 := 0) rfl 6 rfl (k := a) (by omega) (by decide) d_Submissions_isTwin_35 ?_
      refine N_icmp_ne_NN hx hb (by omega) (by omega) (tgt := 43) d_Submissions_isTwin_36 (by decide) (fun c36 => ?_) (fun c36 => ?_)
      · refine lv_iconst (v := (nI 0)) hx hb d_Submissions_isTwin_43 (by decide +kernel) ?_
        exact R_zret X Y hW rfl false (by decide +kernel) (by rw [twn, decide_eq_false (by omega)]) d_Submissions_isTwin_44
      · refine lv_iconst (v := (nI 1)) hx hb d_Submissions_isTwin_39 (by decide +kernel) ?_
        refine lv_goto (tgt := 44) hx hb d_Submissions_isTwin_40 (by decide) ?_
        exact R_zret X Y hW rfl true (by decide +kernel) (by rw [twn, decide_eq_true ⟨c6, c21, c36⟩]) d_Submissions_isTwin_44

theorem km_Submissions_43 : Cond.methodLink "ContestRows$Submissions" 43 Lib.Math.abs.name ∈ TBL := TBL_t (List.mem_append_right _ (List.mem_append_left _ (List.mem_of_getElem? (i := 223) rfl))) rfl
theorem kt_abs : Cond.static Lib.Math.abs.name ∈ TBL := TBL_t (List.mem_append_right _ (List.mem_append_left _ (List.mem_of_getElem? (i := 224) rfl))) rfl
theorem kn_Math : Cond.initialized "java/lang/Math" ∈ TBL := TBL_t (List.mem_append_left _ (List.mem_of_getElem? (i := 11) rfl)) rfl
theorem kb_abs : Cond.code Lib.Math.abs.name Lib.Math.abs.code 1 (some .int) ∈ TBL := TBL_t (List.mem_append_right _ (List.mem_append_left _ (List.mem_of_getElem? (i := 225) rfl))) rfl
set_option maxHeartbeats 4000000 in
set_option maxRecDepth 100000 in
theorem c_Submissions_secondsBetween (l : Launch) (G : va_G) (cI cZ cJ : ClassId) (h : Nat → Nat) (ns : Nat) (sp : Nat → Nat) (sq : Nat → Nat) (sec : Nat → Nat) (rt : Nat → Bool) (it : Nat → Nat) (ans : Nat → Nat) (a : Nat) (b : Nat) (ha : a < 300) (hb0 : b < 300) (hse : ∀ i, i < 300 → sec i ≤ 1000000) : Ct l G (tyL cI cZ cJ) y_Submissions_secondsBetween b_Submissions_secondsBetween 3 (some .int) (rmL 1) [.ref (h 16), .int (nI a), .int (nI b)] (w_Sub h cI cZ cJ ns sp sq sec rt it ans) (some (.int (nI (dst (sec a) (sec b))))) (w_Sub h cI cZ cJ ns sp sq sec rt it ans) := by
  refine M_start (by decide) (Nat.le_of_ble_eq_true rfl) ?_
  intro p e s m args below meth c A Q ls X Y hW hl
  have hx := X.1.1
  have hb := X.1.2.1
  have hl : lv_has ls 3 [(0, .ref (h 16)), (1, .int (nI a)), (2, .int (nI b))] := hl
  refine lv_aload_n hx hb d_Submissions_secondsBetween_0 rfl (lv_at hl 0 rfl) ?_
  refine R_get X hW i_Submissions rfl 2 (by decide) kf_Submissions_18 0 rfl rfl d_Submissions_secondsBetween_1 ?_
  refine lv_iload_n hx hb d_Submissions_secondsBetween_4 rfl (lv_at hl 1 rfl) ?_
  refine R_iald X hW (t0 := 0) rfl 3 rfl (k := a) (by omega) (by decide) d_Submissions_secondsBetween_5 ?_
  refine lv_aload_n hx hb d_Submissions_secondsBetween_6 rfl (lv_at hl 0 rfl) ?_
  refine R_get X hW i_Submissions rfl 2 (by decide) kf_Submissions_18 0 rfl rfl d_Submissions_secondsBetween_7 ?_
  refine lv_iload_n hx hb d_Submissions_secondsBetween_10 rfl (lv_at hl 2 rfl) ?_
  refine R_iald X hW (t0 := 0) rfl 3 rfl (k := b) (by omega) (by decide) d_Submissions_secondsBetween_11 ?_
  refine lv_isub hx hb d_Submissions_secondsBetween_12 ?_
  refine va_mabs hx hb (X.1.2.2.1.trans hl.1.symm) X.1.2.2.2.1 (X.1.2.2.2.2 _ km_Submissions_43) (X.1.2.2.2.2 _ kt_abs) (X.1.2.2.2.2 _ kn_Math) (X.1.2.2.2.2 _ kb_abs) (by decide) (by decide) (Nat.zero_le _) (Nat.zero_le _) d_Submissions_secondsBetween_13 ?_
  exact R_iret X Y hW rfl (by rw [absN (hse a ha) (hse b hb0)]) d_Submissions_secondsBetween_16

theorem kb_Submissions_isTwin : Cond.code y_Submissions_isTwin b_Submissions_isTwin 3 (some .boolean) ∈ TBL := TBL_t (List.mem_append_right _ (List.mem_append_left _ (List.mem_of_getElem? (i := 218) rfl))) rfl
theorem kn_Submissions : Cond.initialized "ContestRows$Submissions" ∈ TBL := TBL_t (List.mem_append_left _ (List.mem_of_getElem? (i := 4) rfl)) rfl
theorem km_Submissions_39 : Cond.methodLink "ContestRows$Submissions" 39 y_Submissions_isTwin ∈ TBL := TBL_t (List.mem_append_right _ (List.mem_append_left _ (List.mem_of_getElem? (i := 215) rfl))) rfl
theorem cw_Submissions_39 : Cw "ContestRows$Submissions" 39 y_Submissions_isTwin b_Submissions_isTwin 3 (some .boolean) 2 := ⟨kb_Submissions_isTwin, kn_Submissions, km_Submissions_39, by decide +kernel⟩
theorem ki_Submissions_isTwin : Cond.instanceMethod y_Submissions_isTwin ∈ TBL := TBL_t (List.mem_append_right _ (List.mem_append_left _ (List.mem_of_getElem? (i := 217) rfl))) rfl
theorem ks_Submissions_isTwin : Cond.selects "ContestRows$Submissions" y_Submissions_isTwin y_Submissions_isTwin ∈ TBL := TBL_in (List.mem_append_left _ (List.mem_map.mpr ⟨(y_Submissions_isTwin, 7), by decide +kernel, rfl⟩)) rfl
set_option maxHeartbeats 4000000 in
set_option maxRecDepth 100000 in
theorem c_Submissions_findTwins (l : Launch) (G : va_G) (cI cZ cJ : ClassId) (h : Nat → Nat) (tw : Nat → Option Nat) (ns : Nat) (sp : Nat → Nat) (sq : Nat → Nat) (sec : Nat → Nat) (rt : Nat → Bool) (it : Nat → Nat) (ans : Nat → Nat) (a : Nat) (ha : a < 300) (hns : ns ≤ 300) (hsp : ∀ i, i < ns → sp i < 20) (hsq : ∀ i, i < 300 → sq i < 2 ^ 31) (han : ∀ i, i < 300 → ans i < 2 ^ 31) : Ct l G (tyL cI cZ cJ) y_Submissions_findTwins b_Submissions_findTwins 4 none (rmL 1) [.ref (h 16), .int (nI a), .ref (h 4)] (w_SubT h cI cZ cJ tw ns sp sq sec rt it ans) none (w_SubT h cI cZ cJ (twG sp sq ans rt a ns 0 (upK none 20 tw)) ns sp sq sec rt it ans) := by
  refine M_start (by decide) (Nat.le_of_ble_eq_true rfl) ?_
  intro p e s m args below meth c A Q ls X Y hW hl
  have hx := X.1.1
  have hb := X.1.2.1
  have hl : lv_has ls 4 [(0, .ref (h 16)), (1, .int (nI a)), (2, .ref (h 4))] := hl
  refine lv_iconst (v := (nI 0)) hx hb d_Submissions_findTwins_0 (by decide +kernel) ?_
  refine lv_istore_n (lv' := [(3, .int (nI 0)), (0, .ref (h 16)), (1, .int (nI a)), (2, .ref (h 4))]) hx hb d_Submissions_findTwins_1 rfl hl (by decide) rfl (fun ls hl => ?_)
  have L2 : ∀ (n : Nat) (i : Nat) (hi : i + n = 20) (H : Heap) (locs : List Loc) (hW : Wr G A s.heap (w_SubT h cI cZ cJ (upK none i tw) ns sp sq sec rt it ans) H locs) (ls : Array Slot) (hl : lv_has ls 4 [(0, .ref (h 16)), (1, .int (nI a)), (2, .ref (h 4)), (3, .int (nI i))]), W p l e (rmL 1) s m args below meth c H locs 0 0 Q (F0 m 2 ls []) := by
    intro n
    induction n with
    | zero =>
      intro i hi H locs hW ls hl
      refine lv_iload_n hx hb d_Submissions_findTwins_2 rfl (lv_at hl 3 rfl) ?_
      refine lv_bipush (v := (nI 20)) hx hb d_Submissions_findTwins_3 (by decide +kernel) ?_
      refine N_icmp_ge_NN hx hb (by omega) (by decide) (tgt := 18) d_Submissions_findTwins_5 (by decide) (fun c5 => ?_) (fun c5 => ?_)
      · have e9 : 20 = i := by omega
        subst e9
        refine lv_iconst (v := (nI 0)) hx hb d_Submissions_findTwins_18 (by decide +kernel) ?_
        refine lv_istore_n (lv' := [(3, .int (nI 0)), (0, .ref (h 16)), (1, .int (nI a)), (2, .ref (h 4))]) hx hb d_Submissions_findTwins_19 rfl hl (by decide) rfl (fun ls hl => ?_)
        have L20 : ∀ (n2 : Nat) (j : Nat) (f : Nat → Option Nat) (hj : j + n2 = ns) (hf : ∀ x z, x < 20 → f x = some z → z < j) (he : twG sp sq ans rt a n2 j f = twG sp sq ans rt a ns 0 (upK none 20 tw)) (H : Heap) (locs : List Loc) (hW : Wr G A s.heap (w_SubT h cI cZ cJ f ns sp sq sec rt it ans) H locs) (ls : Array Slot) (hl : lv_has ls 4 [(0, .ref (h 16)), (1, .int (nI a)), (2, .ref (h 4)), (3, .int (nI j))]), W p l e (rmL 1) s m args below meth c H locs 0 0 Q (F0 m 20 ls []) := by
          intro n2
          induction n2 with
          | zero =>
            intro j f hj hf he H locs hW ls hl
            refine lv_iload_n hx hb d_Submissions_findTwins_20 rfl (lv_at hl 3 rfl) ?_
            refine lv_aload_n hx hb d_Submissions_findTwins_21 rfl (lv_at hl 0 rfl) ?_
            refine R_get X hW i_Submissions rfl 5 (by decide) kf_Submissions_31 1 rfl rfl d_Submissions_findTwins_22 ?_
            refine N_icmp_ge_NN hx hb (by omega) (by omega) (tgt := 64) d_Submissions_findTwins_25 (by decide) (fun c25 => ?_) (fun c25 => ?_)
            · exact R_vret X Y hW (by rw [← he]; rfl) rfl d_Submissions_findTwins_64
            · exfalso; omega
          | succ n2 ih20 =>
            intro j f hj hf he H locs hW ls hl
            refine lv_iload_n hx hb d_Submissions_findTwins_20 rfl (lv_at hl 3 rfl) ?_
            refine lv_aload_n hx hb d_Submissions_findTwins_21 rfl (lv_at hl 0 rfl) ?_
            refine R_get X hW i_Submissions rfl 5 (by decide) kf_Submissions_31 1 rfl rfl d_Submissions_findTwins_22 ?_
            refine N_icmp_ge_NN hx hb (by omega) (by omega) (tgt := 64) d_Submissions_findTwins_25 (by decide) (fun c25 => ?_) (fun c25 => ?_)
            · exfalso; omega
            · have q1 := hsp j (by omega)
              refine lv_aload_n hx hb d_Submissions_findTwins_28 rfl (lv_at hl 2 rfl) ?_
              refine lv_aload_n hx hb d_Submissions_findTwins_29 rfl (lv_at hl 0 rfl) ?_
              refine R_get X hW i_Submissions rfl 0 (by decide) kf_Submissions_9 1 rfl rfl d_Submissions_findTwins_30 ?_
              refine lv_iload_n hx hb d_Submissions_findTwins_33 rfl (lv_at hl 3 rfl) ?_
              refine R_iald X hW (t0 := 0) rfl 2 rfl (k := j) (by omega) (by decide) d_Submissions_findTwins_34 ?_
              refine R_iald X hW (t0 := 0) rfl 0 rfl (k := (sp j)) (by omega) (by decide) d_Submissions_findTwins_35 ?_
              refine lv_iconst (v := (-1)) hx hb d_Submissions_findTwins_36 (by decide +kernel) ?_
              refine N_icmp_ne_Om hx hb (fun z hz => by have := hf _ z q1 hz; omega) (tgt := 58) d_Submissions_findTwins_37 (by decide) (fun c37 => ?_) (fun c37 => ?_)
              · refine lv_iinc (v := (nI (j + 1))) (lv' := [(3, .int (nI (j + 1))), (0, .ref (h 16)), (1, .int (nI a)), (2, .ref (h 4))]) hx hb d_Submissions_findTwins_58 hl (k := 3) rfl (N_inc j) (by decide) rfl (fun ls hl => ?_)
                refine lv_goto (tgt := 20) hx hb d_Submissions_findTwins_61 (by decide) ?_
                exact ih20 (j + 1) f (by omega) (fun x z hx1 h => by have := hf x z hx1 h; omega) (by rw [← he, twG, if_neg (by simp [c37])]) _ _ hW ls (lv_sub hl [1, 2, 3, 0] rfl)
              · refine lv_aload_n hx hb d_Submissions_findTwins_40 rfl (lv_at hl 0 rfl) ?_
                refine lv_iload_n hx hb d_Submissions_findTwins_41 rfl (lv_at hl 1 rfl) ?_
                refine lv_iload_n hx hb d_Submissions_findTwins_42 rfl (lv_at hl 3 rfl) ?_
                refine R_callV (q0 := 1) (c_Submissions_isTwin l G cI cZ cJ h ns sp sq sec rt it ans a j ha (by omega) hsq han) X rfl hW cw_Submissions_39 ki_Submissions_isTwin ks_Submissions_isTwin rfl rfl ⟨rfl, rfl⟩ ⟨by decide, by decide⟩ ⟨Nat.zero_le _, Nat.zero_le _⟩ [false, true, true, true, true, true, true, true] rfl (Nat.le_of_ble_eq_true rfl) rfl rfl hl.1 rfl rfl (Nat.le_of_ble_eq_true rfl) d_Submissions_findTwins_43 rfl (fun H locs hW => ?_)
                have hW : Wr G A s.heap (w_SubT h cI cZ cJ f ns sp sq sec rt it ans) H locs := hW
                refine N_if_eq_B hx hb  (tgt := 58) d_Submissions_findTwins_46 (by decide) (fun c46 => ?_) (fun c46 => ?_)
                · refine lv_iinc (v := (nI (j + 1))) (lv' := [(3, .int (nI (j + 1))), (0, .ref (h 16)), (1, .int (nI a)), (2, .ref (h 4))]) hx hb d_Submissions_findTwins_58 hl (k := 3) rfl (N_inc j) (by decide) rfl (fun ls hl => ?_)
                  refine lv_goto (tgt := 20) hx hb d_Submissions_findTwins_61 (by decide) ?_
                  exact ih20 (j + 1) f (by omega) (fun x z hx1 h => by have := hf x z hx1 h; omega) (by rw [← he, twG, if_neg (by simp [c46])]) _ _ hW ls (lv_sub hl [1, 2, 3, 0] rfl)
                · refine lv_aload_n hx hb d_Submissions_findTwins_49 rfl (lv_at hl 2 rfl) ?_
                  refine lv_aload_n hx hb d_Submissions_findTwins_50 rfl (lv_at hl 0 rfl) ?_
                  refine R_get X hW i_Submissions rfl 0 (by decide) kf_Submissions_9 1 rfl rfl d_Submissions_findTwins_51 ?_
                  refine lv_iload_n hx hb d_Submissions_findTwins_54 rfl (lv_at hl 3 rfl) ?_
                  refine R_iald X hW (t0 := 0) rfl 2 rfl (k := j) (by omega) (by decide) d_Submissions_findTwins_55 ?_
                  refine lv_iload_n hx hb d_Submissions_findTwins_56 rfl (lv_at hl 3 rfl) ?_
                  refine R_iast X hW (t0 := 0) rfl 0 rfl (k := (sp j)) (by omega) (by decide) (some j) rfl d_Submissions_findTwins_57 (fun H locs hW => ?_)
                  have hW : Wr G A s.heap (w_SubT h cI cZ cJ (va_up f (sp j) (some j)) ns sp sq sec rt it ans) H locs := hW
                  refine lv_iinc (v := (nI (j + 1))) (lv' := [(3, .int (nI (j + 1))), (0, .ref (h 16)), (1, .int (nI a)), (2, .ref (h 4))]) hx hb d_Submissions_findTwins_58 hl (k := 3) rfl (N_inc j) (by decide) rfl (fun ls hl => ?_)
                  refine lv_goto (tgt := 20) hx hb d_Submissions_findTwins_61 (by decide) ?_
                  exact ih20 (j + 1) (va_up f (sp j) (some j)) (by omega) (fun x z hx1 h => by by_cases q : x = sp j; (subst q; rw [va_up_self] at h; cases h; omega); (rw [va_up_ne _ _ q] at h; have := hf x z hx1 h; omega)) (by rw [← he, twG, if_pos ⟨c37, c46⟩]) _ _ hW ls (lv_sub hl [1, 2, 3, 0] rfl)
        exact L20 ns 0 (upK none 20 tw) (by omega) (fun x z hx1 h => by rw [upK_lt _ _ _ _ hx1] at h; cases h) rfl _ _ hW ls (lv_sub hl [1, 2, 3, 0] rfl)
      · exfalso; omega
    | succ n ih2 =>
      intro i hi H locs hW ls hl
      refine lv_iload_n hx hb d_Submissions_findTwins_2 rfl (lv_at hl 3 rfl) ?_
      refine lv_bipush (v := (nI 20)) hx hb d_Submissions_findTwins_3 (by decide +kernel) ?_
      refine N_icmp_ge_NN hx hb (by omega) (by decide) (tgt := 18) d_Submissions_findTwins_5 (by decide) (fun c5 => ?_) (fun c5 => ?_)
      · exfalso; omega
      · refine lv_aload_n hx hb d_Submissions_findTwins_8 rfl (lv_at hl 2 rfl) ?_
        refine lv_iload_n hx hb d_Submissions_findTwins_9 rfl (lv_at hl 3 rfl) ?_
        refine lv_iconst (v := (-1)) hx hb d_Submissions_findTwins_10 (by decide +kernel) ?_
        refine R_iast X hW (t0 := 0) rfl 0 rfl (k := i) (by omega) (by decide) none rfl d_Submissions_findTwins_11 (fun H locs hW => ?_)
        have hW : Wr G A s.heap (w_SubT h cI cZ cJ (va_up (upK none i tw) i none) ns sp sq sec rt it ans) H locs := hW
        refine lv_iinc (v := (nI (i + 1))) (lv' := [(3, .int (nI (i + 1))), (0, .ref (h 16)), (1, .int (nI a)), (2, .ref (h 4))]) hx hb d_Submissions_findTwins_12 hl (k := 3) rfl (N_inc i) (by decide) rfl (fun ls hl => ?_)
        refine lv_goto (tgt := 2) hx hb d_Submissions_findTwins_15 (by decide) ?_
        exact ih2 (i + 1) (by omega) _ _ hW ls (lv_sub hl [1, 2, 3, 0] rfl)
  exact L2 20 0 (by omega) _ _ hW ls (lv_sub hl [1, 2, 3, 0] rfl)

theorem kb_Submissions_putInTime : Cond.code y_Submissions_putInTime b_Submissions_putInTime 3 none ∈ TBL := TBL_t (List.mem_append_right _ (List.mem_append_left _ (List.mem_of_getElem? (i := 116) rfl))) rfl
theorem km_Submissions_35 : Cond.methodLink "ContestRows$Submissions" 35 y_Submissions_putInTime ∈ TBL := TBL_t (List.mem_append_right _ (List.mem_append_left _ (List.mem_of_getElem? (i := 113) rfl))) rfl
theorem cw_Submissions_35 : Cw "ContestRows$Submissions" 35 y_Submissions_putInTime b_Submissions_putInTime 3 none 1 := ⟨kb_Submissions_putInTime, kn_Submissions, km_Submissions_35, by decide +kernel⟩
theorem ki_Submissions_putInTime : Cond.instanceMethod y_Submissions_putInTime ∈ TBL := TBL_t (List.mem_append_right _ (List.mem_append_left _ (List.mem_of_getElem? (i := 115) rfl))) rfl
theorem ks_Submissions_putInTime : Cond.selects "ContestRows$Submissions" y_Submissions_putInTime y_Submissions_putInTime ∈ TBL := TBL_in (List.mem_append_left _ (List.mem_map.mpr ⟨(y_Submissions_putInTime, 7), by decide +kernel, rfl⟩)) rfl
set_option maxHeartbeats 4000000 in
set_option maxRecDepth 100000 in
theorem c_Submissions_add_ok (l : Launch) (G : va_G) (cI cZ cJ : ClassId) (h : Nat → Nat) (ns : Nat) (sp : Nat → Nat) (sq : Nat → Nat) (sec : Nat → Nat) (rt : Nat → Bool) (it : Nat → Nat) (ans : Nat → Nat) (x : Nat) (y : Nat) (t : Nat) (w : Nat) (b : Bool) (hns : ns < 300) (hit : ∀ i, i < ns → it i < 300) (hse : ∀ i, i < 300 → sec i < 2 ^ 31) (ht : t < 2 ^ 31) : Ct l G (tyL cI cZ cJ) y_Submissions_add b_Submissions_add 6 (some .int) (rmL 1) [.ref (h 16), .int (nI x), .int (nI y), .int (nI t), .int (nI w), .int (bI b)] (w_Sub h cI cZ cJ ns sp sq sec rt it ans) (some (.int (nI ns))) (w_Sub h cI cZ cJ (ns + 1) (va_up sp ns x) (va_up sq ns y) (va_up sec ns t) (va_up rt ns b) (insG (ltT (va_up sec ns t)) ns ns it) (va_up ans ns w)) := by
  refine M_start (by decide) (Nat.le_of_ble_eq_true rfl) ?_
  intro p e s m args below meth c A Q ls X Y hW hl
  have hx := X.1.1
  have hb := X.1.2.1
  have hl : lv_has ls 6 [(0, .ref (h 16)), (1, .int (nI x)), (2, .int (nI y)), (3, .int (nI t)), (4, .int (nI w)), (5, .int (bI b))] := hl
  refine lv_aload_n hx hb d_Submissions_add_0 rfl (lv_at hl 0 rfl) ?_
  refine R_get X hW i_Submissions rfl 5 (by decide) kf_Submissions_31 0 rfl rfl d_Submissions_add_1 ?_
  refine lv_sipush (v := (nI 300)) hx hb d_Submissions_add_4 (by decide +kernel) ?_
  refine N_icmp_lt_NN hx hb (by omega) (by decide) (tgt := 12) d_Submissions_add_7 (by decide) (fun c7 => ?_) (fun c7 => ?_)
  · refine lv_aload_n hx hb d_Submissions_add_12 rfl (lv_at hl 0 rfl) ?_
    refine R_get X hW i_Submissions rfl 0 (by decide) kf_Submissions_9 0 rfl rfl d_Submissions_add_13 ?_
    refine lv_aload_n hx hb d_Submissions_add_16 rfl (lv_at hl 0 rfl) ?_
    refine R_get X hW i_Submissions rfl 5 (by decide) kf_Submissions_31 0 rfl rfl d_Submissions_add_17 ?_
    refine lv_iload_n hx hb d_Submissions_add_20 rfl (lv_at hl 1 rfl) ?_
    refine R_iast X hW (t0 := 0) rfl 1 rfl (k := ns) (by omega) (by decide) x rfl d_Submissions_add_21 (fun H locs hW => ?_)
    have hW : Wr G A s.heap (w_Sub h cI cZ cJ ns (va_up sp ns x) sq sec rt it ans) H locs := hW
    refine lv_aload_n hx hb d_Submissions_add_22 rfl (lv_at hl 0 rfl) ?_
    refine R_get X hW i_Submissions rfl 1 (by decide) kf_Submissions_15 0 rfl rfl d_Submissions_add_23 ?_
    refine lv_aload_n hx hb d_Submissions_add_26 rfl (lv_at hl 0 rfl) ?_
    refine R_get X hW i_Submissions rfl 5 (by decide) kf_Submissions_31 0 rfl rfl d_Submissions_add_27 ?_
    refine lv_iload_n hx hb d_Submissions_add_30 rfl (lv_at hl 2 rfl) ?_
    refine R_iast X hW (t0 := 0) rfl 2 rfl (k := ns) (by omega) (by decide) y rfl d_Submissions_add_31 (fun H locs hW => ?_)
    have hW : Wr G A s.heap (w_Sub h cI cZ cJ ns (va_up sp ns x) (va_up sq ns y) sec rt it ans) H locs := hW
    refine lv_aload_n hx hb d_Submissions_add_32 rfl (lv_at hl 0 rfl) ?_
    refine R_get X hW i_Submissions rfl 2 (by decide) kf_Submissions_18 0 rfl rfl d_Submissions_add_33 ?_
    refine lv_aload_n hx hb d_Submissions_add_36 rfl (lv_at hl 0 rfl) ?_
    refine R_get X hW i_Submissions rfl 5 (by decide) kf_Submissions_31 0 rfl rfl d_Submissions_add_37 ?_
    refine lv_iload_n hx hb d_Submissions_add_40 rfl (lv_at hl 3 rfl) ?_
    refine R_iast X hW (t0 := 0) rfl 3 rfl (k := ns) (by omega) (by decide) t rfl d_Submissions_add_41 (fun H locs hW => ?_)
    have hW : Wr G A s.heap (w_Sub h cI cZ cJ ns (va_up sp ns x) (va_up sq ns y) (va_up sec ns t) rt it ans) H locs := hW
    refine lv_aload_n hx hb d_Submissions_add_42 rfl (lv_at hl 0 rfl) ?_
    refine R_get X hW i_Submissions rfl 6 (by decide) kf_Submissions_28 0 rfl rfl d_Submissions_add_43 ?_
    refine lv_aload_n hx hb d_Submissions_add_46 rfl (lv_at hl 0 rfl) ?_
    refine R_get X hW i_Submissions rfl 5 (by decide) kf_Submissions_31 0 rfl rfl d_Submissions_add_47 ?_
    refine lv_iload hx hb d_Submissions_add_50 (lv_at hl 4 rfl) ?_
    refine R_iast X hW (t0 := 0) rfl 6 rfl (k := ns) (by omega) (by decide) w rfl d_Submissions_add_52 (fun H locs hW => ?_)
    have hW : Wr G A s.heap (w_Sub h cI cZ cJ ns (va_up sp ns x) (va_up sq ns y) (va_up sec ns t) rt it (va_up ans ns w)) H locs := hW
    refine lv_aload_n hx hb d_Submissions_add_53 rfl (lv_at hl 0 rfl) ?_
    refine R_get X hW i_Submissions rfl 3 (by decide) kf_Submissions_21 0 rfl rfl d_Submissions_add_54 ?_
    refine lv_aload_n hx hb d_Submissions_add_57 rfl (lv_at hl 0 rfl) ?_
    refine R_get X hW i_Submissions rfl 5 (by decide) kf_Submissions_31 0 rfl rfl d_Submissions_add_58 ?_
    refine lv_iload hx hb d_Submissions_add_61 (lv_at hl 5 rfl) ?_
    refine R_zast X hW (t0 := 1) rfl 4 rfl (k := ns) (by omega) (by decide) b rfl d_Submissions_add_63 (fun H locs hW => ?_)
    have hW : Wr G A s.heap (w_Sub h cI cZ cJ ns (va_up sp ns x) (va_up sq ns y) (va_up sec ns t) (va_up rt ns b) it (va_up ans ns w)) H locs := hW
    refine lv_aload_n hx hb d_Submissions_add_64 rfl (lv_at hl 0 rfl) ?_
    refine lv_aload_n hx hb d_Submissions_add_65 rfl (lv_at hl 0 rfl) ?_
    refine R_get X hW i_Submissions rfl 5 (by decide) kf_Submissions_31 0 rfl rfl d_Submissions_add_66 ?_
    refine R_callV (q0 := 0) (c_Submissions_putInTime l G cI cZ cJ h ns (va_up sp ns x) (va_up sq ns y) (va_up sec ns t) (va_up rt ns b) it (va_up ans ns w) ns hns hit (fun i hi => by have := hse i hi; simp only [va_up]; split <;> omega)) X rfl hW cw_Submissions_35 ki_Submissions_putInTime ks_Submissions_putInTime rfl rfl ⟨rfl, rfl⟩ ⟨by decide, by decide⟩ ⟨Nat.zero_le _, Nat.zero_le _⟩ [true, true, true, true, true, true, true] rfl (Nat.le_of_ble_eq_true rfl) rfl rfl hl.1 rfl rfl (Nat.le_of_ble_eq_true rfl) d_Submissions_add_69 rfl (fun H locs hW => ?_)
    have hW : Wr G A s.heap (w_Sub h cI cZ cJ ns (va_up sp ns x) (va_up sq ns y) (va_up sec ns t) (va_up rt ns b) (insG (ltT (va_up sec ns t)) ns ns it) (va_up ans ns w)) H locs := hW
    refine lv_aload_n hx hb d_Submissions_add_72 rfl (lv_at hl 0 rfl) ?_
    refine lv_dup hx hb d_Submissions_add_73 rfl ?_
    refine R_get X hW i_Submissions rfl 5 (by decide) kf_Submissions_31 0 rfl rfl d_Submissions_add_74 ?_
    refine lv_iconst (v := (nI 1)) hx hb d_Submissions_add_77 (by decide +kernel) ?_
    refine N_iadd hx hb d_Submissions_add_78 ?_
    refine R_put X hW i_Submissions rfl t_Submissions t_Submissions_ok n_Submissions 5 (by decide) kf_Submissions_31 rfl (ty := .int) (by decide +kernel) 0 rfl (v := .int (nI (ns + 1))) rfl rfl (Nat.le_of_ble_eq_true rfl) d_Submissions_add_79 (fun H locs hW => ?_)
    have hW : Wr G A s.heap (w_Sub h cI cZ cJ (ns + 1) (va_up sp ns x) (va_up sq ns y) (va_up sec ns t) (va_up rt ns b) (insG (ltT (va_up sec ns t)) ns ns it) (va_up ans ns w)) H locs := hW
    refine lv_aload_n hx hb d_Submissions_add_82 rfl (lv_at hl 0 rfl) ?_
    refine R_get X hW i_Submissions rfl 5 (by decide) kf_Submissions_31 0 rfl rfl d_Submissions_add_83 ?_
    refine lv_iconst (v := (nI 1)) hx hb d_Submissions_add_86 (by decide +kernel) ?_
    refine N_isub (r := ns) hx hb (by omega) (by omega) d_Submissions_add_87 ?_
    exact R_iret X Y hW rfl rfl d_Submissions_add_88
  · exfalso; omega

set_option maxHeartbeats 4000000 in
set_option maxRecDepth 100000 in
theorem c_Submissions_add_full (l : Launch) (G : va_G) (cI cZ cJ : ClassId) (h : Nat → Nat) (ns : Nat) (sp : Nat → Nat) (sq : Nat → Nat) (sec : Nat → Nat) (rt : Nat → Bool) (it : Nat → Nat) (ans : Nat → Nat) (x : Nat) (y : Nat) (t : Nat) (w : Nat) (b : Bool) (hns : ns = 300) : Ct l G (tyL cI cZ cJ) y_Submissions_add b_Submissions_add 6 (some .int) (rmL 1) [.ref (h 16), .int (nI x), .int (nI y), .int (nI t), .int (nI w), .int (bI b)] (w_Sub h cI cZ cJ ns sp sq sec rt it ans) (some (.int (-1))) (w_Sub h cI cZ cJ ns sp sq sec rt it ans) := by
  refine M_start (by decide) (Nat.le_of_ble_eq_true rfl) ?_
  intro p e s m args below meth c A Q ls X Y hW hl
  have hx := X.1.1
  have hb := X.1.2.1
  have hl : lv_has ls 6 [(0, .ref (h 16)), (1, .int (nI x)), (2, .int (nI y)), (3, .int (nI t)), (4, .int (nI w)), (5, .int (bI b))] := hl
  refine lv_aload_n hx hb d_Submissions_add_0 rfl (lv_at hl 0 rfl) ?_
  refine R_get X hW i_Submissions rfl 5 (by decide) kf_Submissions_31 0 rfl rfl d_Submissions_add_1 ?_
  refine lv_sipush (v := (nI 300)) hx hb d_Submissions_add_4 (by decide +kernel) ?_
  refine N_icmp_lt_NN hx hb (by omega) (by decide) (tgt := 12) d_Submissions_add_7 (by decide) (fun c7 => ?_) (fun c7 => ?_)
  · exfalso; omega
  · refine lv_iconst (v := (-1)) hx hb d_Submissions_add_10 (by decide +kernel) ?_
    exact R_iret X Y hW rfl rfl d_Submissions_add_11

theorem kb_Submissions_secondsBetween : Cond.code y_Submissions_secondsBetween b_Submissions_secondsBetween 3 (some .int) ∈ TBL := TBL_t (List.mem_append_right _ (List.mem_append_left _ (List.mem_of_getElem? (i := 222) rfl))) rfl
theorem km_Submissions_49 : Cond.methodLink "ContestRows$Submissions" 49 y_Submissions_secondsBetween ∈ TBL := TBL_t (List.mem_append_right _ (List.mem_append_left _ (List.mem_of_getElem? (i := 230) rfl))) rfl
theorem cw_Submissions_49 : Cw "ContestRows$Submissions" 49 y_Submissions_secondsBetween b_Submissions_secondsBetween 3 (some .int) 2 := ⟨kb_Submissions_secondsBetween, kn_Submissions, km_Submissions_49, by decide +kernel⟩
theorem ki_Submissions_secondsBetween : Cond.instanceMethod y_Submissions_secondsBetween ∈ TBL := TBL_t (List.mem_append_right _ (List.mem_append_left _ (List.mem_of_getElem? (i := 220) rfl))) rfl
theorem ks_Submissions_secondsBetween : Cond.selects "ContestRows$Submissions" y_Submissions_secondsBetween y_Submissions_secondsBetween ∈ TBL := TBL_t (List.mem_append_right _ (List.mem_append_left _ (List.mem_of_getElem? (i := 221) rfl))) rfl
set_option maxHeartbeats 4000000 in
set_option maxRecDepth 100000 in
theorem c_Submissions_tellPair (l : Launch) (G : va_G) (cI cZ cJ : ClassId) (h : Nat → Nat) (ns : Nat) (sp : Nat → Nat) (sq : Nat → Nat) (sec : Nat → Nat) (rt : Nat → Bool) (it : Nat → Nat) (ans : Nat → Nat) (a : Nat) (b : Nat) (w : Nat) (ha : a < 300) (hb0 : b < 300) (hw0 : w ≤ 3) (hse : ∀ i, i < 300 → sec i ≤ 1000000) : Ct l G (tyL cI cZ cJ) y_Submissions_tellPair b_Submissions_tellPair 4 (some .int) (rmL 2) [.ref (h 16), .int (nI a), .int (nI b), .int (nI w)] (w_Sub h cI cZ cJ ns sp sq sec rt it ans) (some (.int (nI (tlF sp sq sec a b w)))) (w_Sub h cI cZ cJ ns sp sq sec rt it ans) := by
  refine M_start (by decide) (Nat.le_of_ble_eq_true rfl) ?_
  intro p e s m args below meth c A Q ls X Y hW hl
  have hx := X.1.1
  have hb := X.1.2.1
  have hl : lv_has ls 4 [(0, .ref (h 16)), (1, .int (nI a)), (2, .int (nI b)), (3, .int (nI w))] := hl
  rcases (show w = 0 ∨ w = 1 ∨ w = 2 ∨ w = 3 by omega) with h9 | h9 | h9 | h9
  · subst h9
    refine lv_iload_n hx hb d_Submissions_tellPair_0 rfl (lv_at hl 3 rfl) ?_
    refine lv_tableIn (tgt := 28) hx hb d_Submissions_tellPair_1 (by decide +kernel) (by decide +kernel) (off := 27) (by decide +kernel) (by decide) ?_
    refine lv_aload_n hx hb d_Submissions_tellPair_28 rfl (lv_at hl 0 rfl) ?_
    refine R_get X hW i_Submissions rfl 0 (by decide) kf_Submissions_9 0 rfl rfl d_Submissions_tellPair_29 ?_
    refine lv_iload_n hx hb d_Submissions_tellPair_32 rfl (lv_at hl 1 rfl) ?_
    refine R_iald X hW (t0 := 0) rfl 1 rfl (k := a) (by omega) (by decide) d_Submissions_tellPair_33 ?_
    exact R_iret X Y hW rfl rfl d_Submissions_tellPair_34
  · subst h9
    refine lv_iload_n hx hb d_Submissions_tellPair_0 rfl (lv_at hl 3 rfl) ?_
    refine lv_tableIn (tgt := 35) hx hb d_Submissions_tellPair_1 (by decide +kernel) (by decide +kernel) (off := 34) (by decide +kernel) (by decide) ?_
    refine lv_aload_n hx hb d_Submissions_tellPair_35 rfl (lv_at hl 0 rfl) ?_
    refine R_get X hW i_Submissions rfl 0 (by decide) kf_Submissions_9 0 rfl rfl d_Submissions_tellPair_36 ?_
    refine lv_iload_n hx hb d_Submissions_tellPair_39 rfl (lv_at hl 2 rfl) ?_
    refine R_iald X hW (t0 := 0) rfl 1 rfl (k := b) (by omega) (by decide) d_Submissions_tellPair_40 ?_
    exact R_iret X Y hW rfl rfl d_Submissions_tellPair_41
  · subst h9
    refine lv_iload_n hx hb d_Submissions_tellPair_0 rfl (lv_at hl 3 rfl) ?_
    refine lv_tableIn (tgt := 42) hx hb d_Submissions_tellPair_1 (by decide +kernel) (by decide +kernel) (off := 41) (by decide +kernel) (by decide) ?_
    refine lv_aload_n hx hb d_Submissions_tellPair_42 rfl (lv_at hl 0 rfl) ?_
    refine R_get X hW i_Submissions rfl 1 (by decide) kf_Submissions_15 0 rfl rfl d_Submissions_tellPair_43 ?_
    refine lv_iload_n hx hb d_Submissions_tellPair_46 rfl (lv_at hl 1 rfl) ?_
    refine R_iald X hW (t0 := 0) rfl 2 rfl (k := a) (by omega) (by decide) d_Submissions_tellPair_47 ?_
    exact R_iret X Y hW rfl rfl d_Submissions_tellPair_48
  · subst h9
    refine lv_iload_n hx hb d_Submissions_tellPair_0 rfl (lv_at hl 3 rfl) ?_
    refine lv_tableOut (tgt := 49) hx hb d_Submissions_tellPair_1 (by decide +kernel) (by decide) ?_
    refine lv_aload_n hx hb d_Submissions_tellPair_49 rfl (lv_at hl 0 rfl) ?_
    refine lv_iload_n hx hb d_Submissions_tellPair_50 rfl (lv_at hl 1 rfl) ?_
    refine lv_iload_n hx hb d_Submissions_tellPair_51 rfl (lv_at hl 2 rfl) ?_
    refine R_callV (q0 := 0) (c_Submissions_secondsBetween l G cI cZ cJ h ns sp sq sec rt it ans a b ha hb0 hse) X rfl hW cw_Submissions_49 ki_Submissions_secondsBetween ks_Submissions_secondsBetween rfl rfl ⟨rfl, rfl⟩ ⟨by decide, by decide⟩ ⟨Nat.zero_le _, Nat.zero_le _⟩ [true, true, true, true, true, true, true] rfl (Nat.le_of_ble_eq_true rfl) rfl rfl hl.1 rfl rfl (Nat.le_of_ble_eq_true rfl) d_Submissions_tellPair_52 rfl (fun H locs hW => ?_)
    have hW : Wr G A s.heap (w_Sub h cI cZ cJ ns sp sq sec rt it ans) H locs := hW
    exact R_iret X Y hW rfl rfl d_Submissions_tellPair_55
