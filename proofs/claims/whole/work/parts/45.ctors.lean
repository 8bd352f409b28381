theorem km_Puzzles_5 : Cond.methodLink "ContestRows$Puzzles" 5 Lib.objectInit ∈ TBL := TBL_t (List.mem_append_left _ (List.mem_of_getElem? (i := 28) rfl)) rfl
theorem ki_obj : Cond.instanceMethod Lib.objectInit ∈ TBL := TBL_t (List.mem_append_left _ (List.mem_of_getElem? (i := 21) rfl)) rfl
theorem kb_obj : Cond.code Lib.objectInit ⟨#[0xb1]⟩ 1 none ∈ TBL := TBL_t (List.mem_append_left _ (List.mem_of_getElem? (i := 22) rfl)) rfl
theorem ka_I : Cond.arrayClass .int ∈ TBL := TBL_t (List.mem_append_left _ (List.mem_of_getElem? (i := 52) rfl)) rfl
theorem ka_Z : Cond.arrayClass .boolean ∈ TBL := TBL_t (List.mem_append_left _ (List.mem_of_getElem? (i := 53) rfl)) rfl
set_option maxHeartbeats 4000000 in
set_option maxRecDepth 100000 in
theorem ctr_Puzzles (l : Launch) (E : State → Prop) (G : va_G) (cI cZ cJ : ClassId) (a : Nat) : CtN l E G (tyL cI cZ cJ) y_Puzzles_init b_Puzzles_init 1 (rmN 1 5 1053) [.ref a] [(a, .inr (1, [.null, .int 0, .null, .null, .int 0, .null, .null]))] (fun wv => ∃ hh : Nat → Nat, hh 5 = a ∧ wv = w_Puz hh cI cZ cJ 0 0 (fun _ => 0) (fun _ => 0) (fun _ => false) (fun _ => 0) (fun _ => 0)) 5 1053 := by
  refine M_startN (by decide) (Nat.le_of_ble_eq_true rfl) ?_
  intro p e s m args below meth c A Q ls X Y hW hl hE hnm
  have hx := X.1.1
  have hb := X.1.2.1
  have hl : lv_has ls 1 [(0, .ref a)] := hl
  have hlocs : True := trivial
  have hW : Wr G A s.heap [(a, .inr (1, [.null, .int 0, .null, .null, .int 0, .null, .null]))] s.heap [] := hW
  skip
  refine lv_aload_n hx hb d_Puzzles_init_0 rfl (lv_at hl 0 rfl) ?_
  refine W.objInit hx hb X.1.2.2.2.1 (X.1.2.2.2.2 _ km_Puzzles_5) (X.1.2.2.2.2 _ ki_obj) (X.1.2.2.2.2 _ kb_obj) rfl (by rw [X.1.2.2.1]; exact hl.1) rfl d_Puzzles_init_1 (Nat.le_of_ble_eq_true rfl) (Nat.le_of_ble_eq_true rfl) ?_
  refine W.eq (g2 := F0 m 4 ls []) rfl ?_
  refine lv_aload_n hx hb d_Puzzles_init_4 rfl (lv_at hl 0 rfl) ?_
  refine lv_bipush (v := (nI 20)) hx hb d_Puzzles_init_5 (by decide +kernel) ?_
  refine R_newa (cA := cI) (t0 := 0) (n := 20) (a0 := (20, .inl (aE nI (fun _ => 0)))) X hW ka_I rfl (fun C h => by cases h) rfl (fun c => df_i c 20) (by decide) (by decide) (Nat.le_of_ble_eq_true rfl) (Nat.le_of_ble_eq_true rfl) d_Puzzles_init_7 (fun q7 H hW => ?_)
  have hW : Wr G A s.heap [(a, .inr (1, [.null, .int 0, .null, .null, .int 0, .null, .null])), (q7, .inl (cI, 20, .inl (aE nI (fun _ => 0))))] H [] := hW
  refine R_putF X hW i_Puzzles rfl t_Puzzles t_Puzzles_ok n_Puzzles 0 (by decide) kf_Puzzles_11 rfl hnm rfl (ty := .array .int) (by decide +kernel) 0 rfl (v := .ref q7) rfl rfl (Nat.le_of_ble_eq_true rfl) d_Puzzles_init_9 (fun H locs hW => ?_)
  have hW : Wr G A s.heap [(a, .inr (1, [.ref q7, .int 0, .null, .null, .int 0, .null, .null])), (q7, .inl (cI, 20, .inl (aE nI (fun _ => 0))))] H locs := hW
  refine lv_aload_n hx hb d_Puzzles_init_12 rfl (lv_at hl 0 rfl) ?_
  refine lv_bipush (v := (nI 20)) hx hb d_Puzzles_init_13 (by decide +kernel) ?_
  refine R_newa (cA := cI) (t0 := 0) (n := 20) (a0 := (20, .inl (aE nI (fun _ => 0)))) X hW ka_I rfl (fun C h => by cases h) rfl (fun c => df_i c 20) (by decide) (by decide) (Nat.le_of_ble_eq_true rfl) (Nat.le_of_ble_eq_true rfl) d_Puzzles_init_15 (fun q15 H hW => ?_)
  have hW : Wr G A s.heap [(a, .inr (1, [.ref q7, .int 0, .null, .null, .int 0, .null, .null])), (q7, .inl (cI, 20, .inl (aE nI (fun _ => 0)))), (q15, .inl (cI, 20, .inl (aE nI (fun _ => 0))))] H locs := hW
  refine R_putF X hW i_Puzzles rfl t_Puzzles t_Puzzles_ok n_Puzzles 2 (by decide) kf_Puzzles_15 rfl hnm rfl (ty := .array .int) (by decide +kernel) 0 rfl (v := .ref q15) rfl rfl (Nat.le_of_ble_eq_true rfl) d_Puzzles_init_17 (fun H locs hW => ?_)
  have hW : Wr G A s.heap [(a, .inr (1, [.ref q7, .int 0, .ref q15, .null, .int 0, .null, .null])), (q7, .inl (cI, 20, .inl (aE nI (fun _ => 0)))), (q15, .inl (cI, 20, .inl (aE nI (fun _ => 0))))] H locs := hW
  refine lv_aload_n hx hb d_Puzzles_init_20 rfl (lv_at hl 0 rfl) ?_
  refine lv_sipush (v := (nI 1001)) hx hb d_Puzzles_init_21 (by decide +kernel) ?_
  refine R_newa (cA := cZ) (t0 := 1) (n := 1001) (a0 := (1001, .inl (aE bI (fun _ => false)))) X hW ka_Z rfl (fun C h => by cases h) rfl (fun c => df_z c 1001) (by decide) (by decide) (Nat.le_of_ble_eq_true rfl) (Nat.le_of_ble_eq_true rfl) d_Puzzles_init_24 (fun q24 H hW => ?_)
  have hW : Wr G A s.heap [(a, .inr (1, [.ref q7, .int 0, .ref q15, .null, .int 0, .null, .null])), (q7, .inl (cI, 20, .inl (aE nI (fun _ => 0)))), (q15, .inl (cI, 20, .inl (aE nI (fun _ => 0)))), (q24, .inl (cZ, 1001, .inl (aE bI (fun _ => false))))] H locs := hW
  refine R_putF X hW i_Puzzles rfl t_Puzzles t_Puzzles_ok n_Puzzles 3 (by decide) kf_Puzzles_18 rfl hnm rfl (ty := .array .boolean) (by decide +kernel) 0 rfl (v := .ref q24) rfl rfl (Nat.le_of_ble_eq_true rfl) d_Puzzles_init_26 (fun H locs hW => ?_)
  have hW : Wr G A s.heap [(a, .inr (1, [.ref q7, .int 0, .ref q15, .ref q24, .int 0, .null, .null])), (q7, .inl (cI, 20, .inl (aE nI (fun _ => 0)))), (q15, .inl (cI, 20, .inl (aE nI (fun _ => 0)))), (q24, .inl (cZ, 1001, .inl (aE bI (fun _ => false))))] H locs := hW
  refine lv_aload_n hx hb d_Puzzles_init_29 rfl (lv_at hl 0 rfl) ?_
  refine lv_bipush (v := (nI 6)) hx hb d_Puzzles_init_30 (by decide +kernel) ?_
  refine R_newa (cA := cI) (t0 := 0) (n := 6) (a0 := (6, .inl (aE nI (fun _ => 0)))) X hW ka_I rfl (fun C h => by cases h) rfl (fun c => df_i c 6) (by decide) (by decide) (Nat.le_of_ble_eq_true rfl) (Nat.le_of_ble_eq_true rfl) d_Puzzles_init_32 (fun q32 H hW => ?_)
  have hW : Wr G A s.heap [(a, .inr (1, [.ref q7, .int 0, .ref q15, .ref q24, .int 0, .null, .null])), (q7, .inl (cI, 20, .inl (aE nI (fun _ => 0)))), (q15, .inl (cI, 20, .inl (aE nI (fun _ => 0)))), (q24, .inl (cZ, 1001, .inl (aE bI (fun _ => false)))), (q32, .inl (cI, 6, .inl (aE nI (fun _ => 0))))] H locs := hW
  refine R_putF X hW i_Puzzles rfl t_Puzzles t_Puzzles_ok n_Puzzles 5 (by decide) kf_Puzzles_22 rfl hnm rfl (ty := .array .int) (by decide +kernel) 0 rfl (v := .ref q32) rfl rfl (Nat.le_of_ble_eq_true rfl) d_Puzzles_init_34 (fun H locs hW => ?_)
  have hW : Wr G A s.heap [(a, .inr (1, [.ref q7, .int 0, .ref q15, .ref q24, .int 0, .ref q32, .null])), (q7, .inl (cI, 20, .inl (aE nI (fun _ => 0)))), (q15, .inl (cI, 20, .inl (aE nI (fun _ => 0)))), (q24, .inl (cZ, 1001, .inl (aE bI (fun _ => false)))), (q32, .inl (cI, 6, .inl (aE nI (fun _ => 0))))] H locs := hW
  refine lv_aload_n hx hb d_Puzzles_init_37 rfl (lv_at hl 0 rfl) ?_
  refine lv_bipush (v := (nI 6)) hx hb d_Puzzles_init_38 (by decide +kernel) ?_
  refine R_newa (cA := cI) (t0 := 0) (n := 6) (a0 := (6, .inl (aE nI (fun _ => 0)))) X hW ka_I rfl (fun C h => by cases h) rfl (fun c => df_i c 6) (by decide) (by decide) (Nat.le_of_ble_eq_true rfl) (Nat.le_of_ble_eq_true rfl) d_Puzzles_init_40 (fun q40 H hW => ?_)
  have hW : Wr G A s.heap [(a, .inr (1, [.ref q7, .int 0, .ref q15, .ref q24, .int 0, .ref q32, .null])), (q7, .inl (cI, 20, .inl (aE nI (fun _ => 0)))), (q15, .inl (cI, 20, .inl (aE nI (fun _ => 0)))), (q24, .inl (cZ, 1001, .inl (aE bI (fun _ => false)))), (q32, .inl (cI, 6, .inl (aE nI (fun _ => 0)))), (q40, .inl (cI, 6, .inl (aE nI (fun _ => 0))))] H locs := hW
  refine R_putF X hW i_Puzzles rfl t_Puzzles t_Puzzles_ok n_Puzzles 6 (by decide) kf_Puzzles_25 rfl hnm rfl (ty := .array .int) (by decide +kernel) 0 rfl (v := .ref q40) rfl rfl (Nat.le_of_ble_eq_true rfl) d_Puzzles_init_42 (fun H locs hW => ?_)
  have hW : Wr G A s.heap [(a, .inr (1, [.ref q7, .int 0, .ref q15, .ref q24, .int 0, .ref q32, .ref q40])), (q7, .inl (cI, 20, .inl (aE nI (fun _ => 0)))), (q15, .inl (cI, 20, .inl (aE nI (fun _ => 0)))), (q24, .inl (cZ, 1001, .inl (aE bI (fun _ => false)))), (q32, .inl (cI, 6, .inl (aE nI (fun _ => 0)))), (q40, .inl (cI, 6, .inl (aE nI (fun _ => 0))))] H locs := hW
  have hW : Wr G A s.heap (w_Puz (fun j => ([a, q7, q15, q24, q32, q40] : List Nat).getD (j - 5) 0) cI cZ cJ 0 0 (fun _ => 0) (fun _ => 0) (fun _ => false) (fun _ => 0) (fun _ => 0)) H locs := hW.sub [0, 1, 2, 3, 4, 5] rfl rfl
  exact R_vretN X Y hW ⟨_, rfl, rfl⟩ (Nat.le_of_ble_eq_true rfl) (Nat.le_of_ble_eq_true rfl) d_Puzzles_init_45

theorem km_Persons_3 : Cond.methodLink "ContestRows$Persons" 3 Lib.objectInit ∈ TBL := TBL_t (List.mem_append_left _ (List.mem_of_getElem? (i := 59) rfl)) rfl
theorem ka_J : Cond.arrayClass .long ∈ TBL := TBL_t (List.mem_append_left _ (List.mem_of_getElem? (i := 81) rfl)) rfl
set_option maxHeartbeats 4000000 in
set_option maxRecDepth 100000 in
theorem ctr_Persons (l : Launch) (E : State → Prop) (G : va_G) (cI cZ cJ : ClassId) (a : Nat) : CtN l E G (tyL cI cZ cJ) y_Persons_init b_Persons_init 1 (rmN 1 4 80) [.ref a] [(a, .inr (0, [.null, .null, .null, .null, .int 0]))] (fun wv => ∃ hh : Nat → Nat, hh 11 = a ∧ wv = w_Per hh cI cZ cJ 0 (fun _ => some 0) (fun _ => 0) (fun _ => 0) (fun _ => 0)) 4 80 := by
  refine M_startN (by decide) (Nat.le_of_ble_eq_true rfl) ?_
  intro p e s m args below meth c A Q ls X Y hW hl hE hnm
  have hx := X.1.1
  have hb := X.1.2.1
  have hl : lv_has ls 1 [(0, .ref a)] := hl
  have hlocs : True := trivial
  have hW : Wr G A s.heap [(a, .inr (0, [.null, .null, .null, .null, .int 0]))] s.heap [] := hW
  skip
  refine lv_aload_n hx hb d_Persons_init_0 rfl (lv_at hl 0 rfl) ?_
  refine W.objInit hx hb X.1.2.2.2.1 (X.1.2.2.2.2 _ km_Persons_3) (X.1.2.2.2.2 _ ki_obj) (X.1.2.2.2.2 _ kb_obj) rfl (by rw [X.1.2.2.1]; exact hl.1) rfl d_Persons_init_1 (Nat.le_of_ble_eq_true rfl) (Nat.le_of_ble_eq_true rfl) ?_
  refine W.eq (g2 := F0 m 4 ls []) rfl ?_
  refine lv_aload_n hx hb d_Persons_init_4 rfl (lv_at hl 0 rfl) ?_
  refine lv_bipush (v := (nI 20)) hx hb d_Persons_init_5 (by decide +kernel) ?_
  refine R_newa (cA := cI) (t0 := 0) (n := 20) (a0 := (20, .inl (aE oI (fun _ => some 0)))) X hW ka_I rfl (fun C h => by cases h) rfl (fun c => df_io c 20) (by decide) (by decide) (Nat.le_of_ble_eq_true rfl) (Nat.le_of_ble_eq_true rfl) d_Persons_init_7 (fun q7 H hW => ?_)
  have hW : Wr G A s.heap [(a, .inr (0, [.null, .null, .null, .null, .int 0])), (q7, .inl (cI, 20, .inl (aE oI (fun _ => some 0))))] H [] := hW
  refine R_putF X hW i_Persons rfl t_Persons t_Persons_ok n_Persons 0 (by decide) kf_Persons_9 rfl hnm rfl (ty := .array .int) (by decide +kernel) 0 rfl (v := .ref q7) rfl rfl (Nat.le_of_ble_eq_true rfl) d_Persons_init_9 (fun H locs hW => ?_)
  have hW : Wr G A s.heap [(a, .inr (0, [.ref q7, .null, .null, .null, .int 0])), (q7, .inl (cI, 20, .inl (aE oI (fun _ => some 0))))] H locs := hW
  refine lv_aload_n hx hb d_Persons_init_12 rfl (lv_at hl 0 rfl) ?_
  refine lv_bipush (v := (nI 20)) hx hb d_Persons_init_13 (by decide +kernel) ?_
  refine R_newa (cA := cJ) (t0 := 2) (n := 20) (a0 := (20, .inr (.inl (aF lN (fun _ => 0))))) X hW ka_J rfl (fun C h => by cases h) rfl (fun c => df_l c 20) (by decide) (by decide) (Nat.le_of_ble_eq_true rfl) (Nat.le_of_ble_eq_true rfl) d_Persons_init_15 (fun q15 H hW => ?_)
  have hW : Wr G A s.heap [(a, .inr (0, [.ref q7, .null, .null, .null, .int 0])), (q7, .inl (cI, 20, .inl (aE oI (fun _ => some 0)))), (q15, .inl (cJ, 20, .inr (.inl (aF lN (fun _ => 0)))))] H locs := hW
  refine R_putF X hW i_Persons rfl t_Persons t_Persons_ok n_Persons 1 (by decide) kf_Persons_15 rfl hnm rfl (ty := .array .long) (by decide +kernel) 0 rfl (v := .ref q15) rfl rfl (Nat.le_of_ble_eq_true rfl) d_Persons_init_17 (fun H locs hW => ?_)
  have hW : Wr G A s.heap [(a, .inr (0, [.ref q7, .ref q15, .null, .null, .int 0])), (q7, .inl (cI, 20, .inl (aE oI (fun _ => some 0)))), (q15, .inl (cJ, 20, .inr (.inl (aF lN (fun _ => 0)))))] H locs := hW
  refine lv_aload_n hx hb d_Persons_init_20 rfl (lv_at hl 0 rfl) ?_
  refine lv_bipush (v := (nI 20)) hx hb d_Persons_init_21 (by decide +kernel) ?_
  refine R_newa (cA := cJ) (t0 := 2) (n := 20) (a0 := (20, .inr (.inl (aF lN (fun _ => 0))))) X hW ka_J rfl (fun C h => by cases h) rfl (fun c => df_l c 20) (by decide) (by decide) (Nat.le_of_ble_eq_true rfl) (Nat.le_of_ble_eq_true rfl) d_Persons_init_23 (fun q23 H hW => ?_)
  have hW : Wr G A s.heap [(a, .inr (0, [.ref q7, .ref q15, .null, .null, .int 0])), (q7, .inl (cI, 20, .inl (aE oI (fun _ => some 0)))), (q15, .inl (cJ, 20, .inr (.inl (aF lN (fun _ => 0))))), (q23, .inl (cJ, 20, .inr (.inl (aF lN (fun _ => 0)))))] H locs := hW
  refine R_putF X hW i_Persons rfl t_Persons t_Persons_ok n_Persons 2 (by decide) kf_Persons_19 rfl hnm rfl (ty := .array .long) (by decide +kernel) 0 rfl (v := .ref q23) rfl rfl (Nat.le_of_ble_eq_true rfl) d_Persons_init_25 (fun H locs hW => ?_)
  have hW : Wr G A s.heap [(a, .inr (0, [.ref q7, .ref q15, .ref q23, .null, .int 0])), (q7, .inl (cI, 20, .inl (aE oI (fun _ => some 0)))), (q15, .inl (cJ, 20, .inr (.inl (aF lN (fun _ => 0))))), (q23, .inl (cJ, 20, .inr (.inl (aF lN (fun _ => 0)))))] H locs := hW
  refine lv_aload_n hx hb d_Persons_init_28 rfl (lv_at hl 0 rfl) ?_
  refine lv_bipush (v := (nI 20)) hx hb d_Persons_init_29 (by decide +kernel) ?_
  refine R_newa (cA := cI) (t0 := 0) (n := 20) (a0 := (20, .inl (aE nI (fun _ => 0)))) X hW ka_I rfl (fun C h => by cases h) rfl (fun c => df_i c 20) (by decide) (by decide) (Nat.le_of_ble_eq_true rfl) (Nat.le_of_ble_eq_true rfl) d_Persons_init_31 (fun q31 H hW => ?_)
  have hW : Wr G A s.heap [(a, .inr (0, [.ref q7, .ref q15, .ref q23, .null, .int 0])), (q7, .inl (cI, 20, .inl (aE oI (fun _ => some 0)))), (q15, .inl (cJ, 20, .inr (.inl (aF lN (fun _ => 0))))), (q23, .inl (cJ, 20, .inr (.inl (aF lN (fun _ => 0))))), (q31, .inl (cI, 20, .inl (aE nI (fun _ => 0))))] H locs := hW
  refine R_putF X hW i_Persons rfl t_Persons t_Persons_ok n_Persons 3 (by decide) kf_Persons_22 rfl hnm rfl (ty := .array .int) (by decide +kernel) 0 rfl (v := .ref q31) rfl rfl (Nat.le_of_ble_eq_true rfl) d_Persons_init_33 (fun H locs hW => ?_)
  have hW : Wr G A s.heap [(a, .inr (0, [.ref q7, .ref q15, .ref q23, .ref q31, .int 0])), (q7, .inl (cI, 20, .inl (aE oI (fun _ => some 0)))), (q15, .inl (cJ, 20, .inr (.inl (aF lN (fun _ => 0))))), (q23, .inl (cJ, 20, .inr (.inl (aF lN (fun _ => 0))))), (q31, .inl (cI, 20, .inl (aE nI (fun _ => 0))))] H locs := hW
  have hW : Wr G A s.heap (w_Per (fun j => ([a, q7, q15, q23, q31] : List Nat).getD (j - 11) 0) cI cZ cJ 0 (fun _ => some 0) (fun _ => 0) (fun _ => 0) (fun _ => 0)) H locs := hW.sub [0, 1, 2, 3, 4] rfl rfl
  exact R_vretN X Y hW ⟨_, rfl, rfl⟩ (Nat.le_of_ble_eq_true rfl) (Nat.le_of_ble_eq_true rfl) d_Persons_init_36

theorem km_Submissions_3 : Cond.methodLink "ContestRows$Submissions" 3 Lib.objectInit ∈ TBL := TBL_t (List.mem_append_left _ (List.mem_of_getElem? (i := 87) rfl)) rfl
set_option maxHeartbeats 4000000 in
set_option maxRecDepth 100000 in
theorem ctr_Submissions (l : Launch) (E : State → Prop) (G : va_G) (cI cZ cJ : ClassId) (a : Nat) : CtN l E G (tyL cI cZ cJ) y_Submissions_init b_Submissions_init 1 (rmN 1 6 1800) [.ref a] [(a, .inr (4, [.null, .null, .null, .null, .null, .int 0, .null]))] (fun wv => ∃ hh : Nat → Nat, hh 16 = a ∧ wv = w_Sub hh cI cZ cJ 0 (fun _ => 0) (fun _ => 0) (fun _ => 0) (fun _ => false) (fun _ => 0) (fun _ => 0)) 6 1800 := by
  refine M_startN (by decide) (Nat.le_of_ble_eq_true rfl) ?_
  intro p e s m args below meth c A Q ls X Y hW hl hE hnm
  have hx := X.1.1
  have hb := X.1.2.1
  have hl : lv_has ls 1 [(0, .ref a)] := hl
  have hlocs : True := trivial
  have hW : Wr G A s.heap [(a, .inr (4, [.null, .null, .null, .null, .null, .int 0, .null]))] s.heap [] := hW
  skip
  refine lv_aload_n hx hb d_Submissions_init_0 rfl (lv_at hl 0 rfl) ?_
  refine W.objInit hx hb X.1.2.2.2.1 (X.1.2.2.2.2 _ km_Submissions_3) (X.1.2.2.2.2 _ ki_obj) (X.1.2.2.2.2 _ kb_obj) rfl (by rw [X.1.2.2.1]; exact hl.1) rfl d_Submissions_init_1 (Nat.le_of_ble_eq_true rfl) (Nat.le_of_ble_eq_true rfl) ?_
  refine W.eq (g2 := F0 m 4 ls []) rfl ?_
  refine lv_aload_n hx hb d_Submissions_init_4 rfl (lv_at hl 0 rfl) ?_
  refine lv_sipush (v := (nI 300)) hx hb d_Submissions_init_5 (by decide +kernel) ?_
  refine R_newa (cA := cI) (t0 := 0) (n := 300) (a0 := (300, .inl (aE nI (fun _ => 0)))) X hW ka_I rfl (fun C h => by cases h) rfl (fun c => df_i c 300) (by decide) (by decide) (Nat.le_of_ble_eq_true rfl) (Nat.le_of_ble_eq_true rfl) d_Submissions_init_8 (fun q8 H hW => ?_)
  have hW : Wr G A s.heap [(a, .inr (4, [.null, .null, .null, .null, .null, .int 0, .null])), (q8, .inl (cI, 300, .inl (aE nI (fun _ => 0))))] H [] := hW
  refine R_putF X hW i_Submissions rfl t_Submissions t_Submissions_ok n_Submissions 0 (by decide) kf_Submissions_9 rfl hnm rfl (ty := .array .int) (by decide +kernel) 0 rfl (v := .ref q8) rfl rfl (Nat.le_of_ble_eq_true rfl) d_Submissions_init_10 (fun H locs hW => ?_)
  have hW : Wr G A s.heap [(a, .inr (4, [.ref q8, .null, .null, .null, .null, .int 0, .null])), (q8, .inl (cI, 300, .inl (aE nI (fun _ => 0))))] H locs := hW
  refine lv_aload_n hx hb d_Submissions_init_13 rfl (lv_at hl 0 rfl) ?_
  refine lv_sipush (v := (nI 300)) hx hb d_Submissions_init_14 (by decide +kernel) ?_
  refine R_newa (cA := cI) (t0 := 0) (n := 300) (a0 := (300, .inl (aE nI (fun _ => 0)))) X hW ka_I rfl (fun C h => by cases h) rfl (fun c => df_i c 300) (by decide) (by decide) (Nat.le_of_ble_eq_true rfl) (Nat.le_of_ble_eq_true rfl) d_Submissions_init_17 (fun q17 H hW => ?_)
  have hW : Wr G A s.heap [(a, .inr (4, [.ref q8, .null, .null, .null, .null, .int 0, .null])), (q8, .inl (cI, 300, .inl (aE nI (fun _ => 0)))), (q17, .inl (cI, 300, .inl (aE nI (fun _ => 0))))] H locs := hW
  refine R_putF X hW i_Submissions rfl t_Submissions t_Submissions_ok n_Submissions 1 (by decide) kf_Submissions_15 rfl hnm rfl (ty := .array .int) (by decide +kernel) 0 rfl (v := .ref q17) rfl rfl (Nat.le_of_ble_eq_true rfl) d_Submissions_init_19 (fun H locs hW => ?_)
  have hW : Wr G A s.heap [(a, .inr (4, [.ref q8, .ref q17, .null, .null, .null, .int 0, .null])), (q8, .inl (cI, 300, .inl (aE nI (fun _ => 0)))), (q17, .inl (cI, 300, .inl (aE nI (fun _ => 0))))] H locs := hW
  refine lv_aload_n hx hb d_Submissions_init_22 rfl (lv_at hl 0 rfl) ?_
  refine lv_sipush (v := (nI 300)) hx hb d_Submissions_init_23 (by decide +kernel) ?_
  refine R_newa (cA := cI) (t0 := 0) (n := 300) (a0 := (300, .inl (aE nI (fun _ => 0)))) X hW ka_I rfl (fun C h => by cases h) rfl (fun c => df_i c 300) (by decide) (by decide) (Nat.le_of_ble_eq_true rfl) (Nat.le_of_ble_eq_true rfl) d_Submissions_init_26 (fun q26 H hW => ?_)
  have hW : Wr G A s.heap [(a, .inr (4, [.ref q8, .ref q17, .null, .null, .null, .int 0, .null])), (q8, .inl (cI, 300, .inl (aE nI (fun _ => 0)))), (q17, .inl (cI, 300, .inl (aE nI (fun _ => 0)))), (q26, .inl (cI, 300, .inl (aE nI (fun _ => 0))))] H locs := hW
  refine R_putF X hW i_Submissions rfl t_Submissions t_Submissions_ok n_Submissions 2 (by decide) kf_Submissions_18 rfl hnm rfl (ty := .array .int) (by decide +kernel) 0 rfl (v := .ref q26) rfl rfl (Nat.le_of_ble_eq_true rfl) d_Submissions_init_28 (fun H locs hW => ?_)
  have hW : Wr G A s.heap [(a, .inr (4, [.ref q8, .ref q17, .ref q26, .null, .null, .int 0, .null])), (q8, .inl (cI, 300, .inl (aE nI (fun _ => 0)))), (q17, .inl (cI, 300, .inl (aE nI (fun _ => 0)))), (q26, .inl (cI, 300, .inl (aE nI (fun _ => 0))))] H locs := hW
  refine lv_aload_n hx hb d_Submissions_init_31 rfl (lv_at hl 0 rfl) ?_
  refine lv_sipush (v := (nI 300)) hx hb d_Submissions_init_32 (by decide +kernel) ?_
  refine R_newa (cA := cZ) (t0 := 1) (n := 300) (a0 := (300, .inl (aE bI (fun _ => false)))) X hW ka_Z rfl (fun C h => by cases h) rfl (fun c => df_z c 300) (by decide) (by decide) (Nat.le_of_ble_eq_true rfl) (Nat.le_of_ble_eq_true rfl) d_Submissions_init_35 (fun q35 H hW => ?_)
  have hW : Wr G A s.heap [(a, .inr (4, [.ref q8, .ref q17, .ref q26, .null, .null, .int 0, .null])), (q8, .inl (cI, 300, .inl (aE nI (fun _ => 0)))), (q17, .inl (cI, 300, .inl (aE nI (fun _ => 0)))), (q26, .inl (cI, 300, .inl (aE nI (fun _ => 0)))), (q35, .inl (cZ, 300, .inl (aE bI (fun _ => false))))] H locs := hW
  refine R_putF X hW i_Submissions rfl t_Submissions t_Submissions_ok n_Submissions 3 (by decide) kf_Submissions_21 rfl hnm rfl (ty := .array .boolean) (by decide +kernel) 0 rfl (v := .ref q35) rfl rfl (Nat.le_of_ble_eq_true rfl) d_Submissions_init_37 (fun H locs hW => ?_)
  have hW : Wr G A s.heap [(a, .inr (4, [.ref q8, .ref q17, .ref q26, .ref q35, .null, .int 0, .null])), (q8, .inl (cI, 300, .inl (aE nI (fun _ => 0)))), (q17, .inl (cI, 300, .inl (aE nI (fun _ => 0)))), (q26, .inl (cI, 300, .inl (aE nI (fun _ => 0)))), (q35, .inl (cZ, 300, .inl (aE bI (fun _ => false))))] H locs := hW
  refine lv_aload_n hx hb d_Submissions_init_40 rfl (lv_at hl 0 rfl) ?_
  refine lv_sipush (v := (nI 300)) hx hb d_Submissions_init_41 (by decide +kernel) ?_
  refine R_newa (cA := cI) (t0 := 0) (n := 300) (a0 := (300, .inl (aE nI (fun _ => 0)))) X hW ka_I rfl (fun C h => by cases h) rfl (fun c => df_i c 300) (by decide) (by decide) (Nat.le_of_ble_eq_true rfl) (Nat.le_of_ble_eq_true rfl) d_Submissions_init_44 (fun q44 H hW => ?_)
  have hW : Wr G A s.heap [(a, .inr (4, [.ref q8, .ref q17, .ref q26, .ref q35, .null, .int 0, .null])), (q8, .inl (cI, 300, .inl (aE nI (fun _ => 0)))), (q17, .inl (cI, 300, .inl (aE nI (fun _ => 0)))), (q26, .inl (cI, 300, .inl (aE nI (fun _ => 0)))), (q35, .inl (cZ, 300, .inl (aE bI (fun _ => false)))), (q44, .inl (cI, 300, .inl (aE nI (fun _ => 0))))] H locs := hW
  refine R_putF X hW i_Submissions rfl t_Submissions t_Submissions_ok n_Submissions 4 (by decide) kf_Submissions_25 rfl hnm rfl (ty := .array .int) (by decide +kernel) 0 rfl (v := .ref q44) rfl rfl (Nat.le_of_ble_eq_true rfl) d_Submissions_init_46 (fun H locs hW => ?_)
  have hW : Wr G A s.heap [(a, .inr (4, [.ref q8, .ref q17, .ref q26, .ref q35, .ref q44, .int 0, .null])), (q8, .inl (cI, 300, .inl (aE nI (fun _ => 0)))), (q17, .inl (cI, 300, .inl (aE nI (fun _ => 0)))), (q26, .inl (cI, 300, .inl (aE nI (fun _ => 0)))), (q35, .inl (cZ, 300, .inl (aE bI (fun _ => false)))), (q44, .inl (cI, 300, .inl (aE nI (fun _ => 0))))] H locs := hW
  refine lv_aload_n hx hb d_Submissions_init_49 rfl (lv_at hl 0 rfl) ?_
  refine lv_sipush (v := (nI 300)) hx hb d_Submissions_init_50 (by decide +kernel) ?_
  refine R_newa (cA := cI) (t0 := 0) (n := 300) (a0 := (300, .inl (aE nI (fun _ => 0)))) X hW ka_I rfl (fun C h => by cases h) rfl (fun c => df_i c 300) (by decide) (by decide) (Nat.le_of_ble_eq_true rfl) (Nat.le_of_ble_eq_true rfl) d_Submissions_init_53 (fun q53 H hW => ?_)
  have hW : Wr G A s.heap [(a, .inr (4, [.ref q8, .ref q17, .ref q26, .ref q35, .ref q44, .int 0, .null])), (q8, .inl (cI, 300, .inl (aE nI (fun _ => 0)))), (q17, .inl (cI, 300, .inl (aE nI (fun _ => 0)))), (q26, .inl (cI, 300, .inl (aE nI (fun _ => 0)))), (q35, .inl (cZ, 300, .inl (aE bI (fun _ => false)))), (q44, .inl (cI, 300, .inl (aE nI (fun _ => 0)))), (q53, .inl (cI, 300, .inl (aE nI (fun _ => 0))))] H locs := hW
  refine R_putF X hW i_Submissions rfl t_Submissions t_Submissions_ok n_Submissions 6 (by decide) kf_Submissions_28 rfl hnm rfl (ty := .array .int) (by decide +kernel) 0 rfl (v := .ref q53) rfl rfl (Nat.le_of_ble_eq_true rfl) d_Submissions_init_55 (fun H locs hW => ?_)
  have hW : Wr G A s.heap [(a, .inr (4, [.ref q8, .ref q17, .ref q26, .ref q35, .ref q44, .int 0, .ref q53])), (q8, .inl (cI, 300, .inl (aE nI (fun _ => 0)))), (q17, .inl (cI, 300, .inl (aE nI (fun _ => 0)))), (q26, .inl (cI, 300, .inl (aE nI (fun _ => 0)))), (q35, .inl (cZ, 300, .inl (aE bI (fun _ => false)))), (q44, .inl (cI, 300, .inl (aE nI (fun _ => 0)))), (q53, .inl (cI, 300, .inl (aE nI (fun _ => 0))))] H locs := hW
  have hW : Wr G A s.heap (w_Sub (fun j => ([a, q8, q17, q26, q35, q44, q53] : List Nat).getD (j - 16) 0) cI cZ cJ 0 (fun _ => 0) (fun _ => 0) (fun _ => 0) (fun _ => false) (fun _ => 0) (fun _ => 0)) H locs := hW.sub [0, 1, 2, 3, 4, 5, 6] rfl rfl
  exact R_vretN X Y hW ⟨_, rfl, rfl⟩ (Nat.le_of_ble_eq_true rfl) (Nat.le_of_ble_eq_true rfl) d_Submissions_init_58

theorem km_RuleText_1 : Cond.methodLink "ContestRows$RuleText" 1 Lib.objectInit ∈ TBL := TBL_t (List.mem_append_left _ (List.mem_of_getElem? (i := 121) rfl)) rfl
set_option maxHeartbeats 4000000 in
set_option maxRecDepth 100000 in
theorem ctr_RuleText (l : Launch) (E : State → Prop) (G : va_G) (cI cZ cJ : ClassId) (a : Nat) : CtN l E G (tyL cI cZ cJ) y_RuleText_init b_RuleText_init 1 (rmN 1 1 100) [.ref a] [(a, .inr (2, [.null, .int 0]))] (fun wv => ∃ hh : Nat → Nat, hh 23 = a ∧ wv = w_Txt hh cI cZ cJ 0 (fun _ => 0)) 1 100 := by
  refine M_startN (by decide) (Nat.le_of_ble_eq_true rfl) ?_
  intro p e s m args below meth c A Q ls X Y hW hl hE hnm
  have hx := X.1.1
  have hb := X.1.2.1
  have hl : lv_has ls 1 [(0, .ref a)] := hl
  have hlocs : True := trivial
  have hW : Wr G A s.heap [(a, .inr (2, [.null, .int 0]))] s.heap [] := hW
  skip
  refine lv_aload_n hx hb d_RuleText_init_0 rfl (lv_at hl 0 rfl) ?_
  refine W.objInit hx hb X.1.2.2.2.1 (X.1.2.2.2.2 _ km_RuleText_1) (X.1.2.2.2.2 _ ki_obj) (X.1.2.2.2.2 _ kb_obj) rfl (by rw [X.1.2.2.1]; exact hl.1) rfl d_RuleText_init_1 (Nat.le_of_ble_eq_true rfl) (Nat.le_of_ble_eq_true rfl) ?_
  refine W.eq (g2 := F0 m 4 ls []) rfl ?_
  refine lv_aload_n hx hb d_RuleText_init_4 rfl (lv_at hl 0 rfl) ?_
  refine lv_bipush (v := (nI 100)) hx hb d_RuleText_init_5 (by decide +kernel) ?_
  refine R_newa (cA := cI) (t0 := 0) (n := 100) (a0 := (100, .inl (aE nI (fun _ => 0)))) X hW ka_I rfl (fun C h => by cases h) rfl (fun c => df_i c 100) (by decide) (by decide) (Nat.le_of_ble_eq_true rfl) (Nat.le_of_ble_eq_true rfl) d_RuleText_init_7 (fun q7 H hW => ?_)
  have hW : Wr G A s.heap [(a, .inr (2, [.null, .int 0])), (q7, .inl (cI, 100, .inl (aE nI (fun _ => 0))))] H [] := hW
  refine R_putF X hW i_RuleText rfl t_RuleText t_RuleText_ok n_RuleText 0 (by decide) kf_RuleText_9 rfl hnm rfl (ty := .array .int) (by decide +kernel) 0 rfl (v := .ref q7) rfl rfl (Nat.le_of_ble_eq_true rfl) d_RuleText_init_9 (fun H locs hW => ?_)
  have hW : Wr G A s.heap [(a, .inr (2, [.ref q7, .int 0])), (q7, .inl (cI, 100, .inl (aE nI (fun _ => 0))))] H locs := hW
  have hW : Wr G A s.heap (w_Txt (fun j => ([a, q7] : List Nat).getD (j - 23) 0) cI cZ cJ 0 (fun _ => 0)) H locs := hW.sub [0, 1] rfl rfl
  exact R_vretN X Y hW ⟨_, rfl, rfl⟩ (Nat.le_of_ble_eq_true rfl) (Nat.le_of_ble_eq_true rfl) d_RuleText_init_12

theorem km_Rules_1 : Cond.methodLink "ContestRows$Rules" 1 Lib.objectInit ∈ TBL := TBL_t (List.mem_append_left _ (List.mem_of_getElem? (i := 134) rfl)) rfl
set_option maxHeartbeats 4000000 in
set_option maxRecDepth 100000 in
theorem ctr_Rules (l : Launch) (E : State → Prop) (G : va_G) (cI cZ cJ : ClassId) (a : Nat) : CtN l E G (tyL cI cZ cJ) y_Rules_init b_Rules_init 1 (rmN 1 2 10) [.ref a] [(a, .inr (3, [.null, .null]))] (fun wv => ∃ hh : Nat → Nat, hh 25 = a ∧ wv = w_Rul hh cI cZ cJ (va_up (va_up (va_up (va_up (va_up (fun _ => 0) 0 100) 1 0) 2 0) 3 3600) 4 1) (va_up (va_up (va_up (va_up (va_up (fun _ => 0) 0 100) 1 0) 2 0) 3 3600) 4 1)) 2 10 := by
  refine M_startN (by decide) (Nat.le_of_ble_eq_true rfl) ?_
  intro p e s m args below meth c A Q ls X Y hW hl hE hnm
  have hx := X.1.1
  have hb := X.1.2.1
  have hl : lv_has ls 1 [(0, .ref a)] := hl
  have hlocs : True := trivial
  have hW : Wr G A s.heap [(a, .inr (3, [.null, .null]))] s.heap [] := hW
  skip
  refine lv_aload_n hx hb d_Rules_init_0 rfl (lv_at hl 0 rfl) ?_
  refine W.objInit hx hb X.1.2.2.2.1 (X.1.2.2.2.2 _ km_Rules_1) (X.1.2.2.2.2 _ ki_obj) (X.1.2.2.2.2 _ kb_obj) rfl (by rw [X.1.2.2.1]; exact hl.1) rfl d_Rules_init_1 (Nat.le_of_ble_eq_true rfl) (Nat.le_of_ble_eq_true rfl) ?_
  refine W.eq (g2 := F0 m 4 ls []) rfl ?_
  refine lv_aload_n hx hb d_Rules_init_4 rfl (lv_at hl 0 rfl) ?_
  refine lv_iconst (v := (nI 5)) hx hb d_Rules_init_5 (by decide +kernel) ?_
  refine R_newa (cA := cI) (t0 := 0) (n := 5) (a0 := (5, .inl (aE nI (fun _ => 0)))) X hW ka_I rfl (fun C h => by cases h) rfl (fun c => df_i c 5) (by decide) (by decide) (Nat.le_of_ble_eq_true rfl) (Nat.le_of_ble_eq_true rfl) d_Rules_init_6 (fun q6 H hW => ?_)
  have hW : Wr G A s.heap [(a, .inr (3, [.null, .null])), (q6, .inl (cI, 5, .inl (aE nI (fun _ => 0))))] H [] := hW
  refine lv_dup hx hb d_Rules_init_8 rfl ?_
  refine lv_iconst (v := (nI 0)) hx hb d_Rules_init_9 (by decide +kernel) ?_
  refine lv_bipush (v := (nI 100)) hx hb d_Rules_init_10 (by decide +kernel) ?_
  refine R_iast X hW (t0 := 0) rfl 1 rfl (k := 0) (by decide) (by decide) 100 rfl d_Rules_init_12 (fun H locs hW => ?_)
  have hW : Wr G A s.heap [(a, .inr (3, [.null, .null])), (q6, .inl (cI, 5, .inl (aE nI (va_up (fun _ => 0) 0 100))))] H locs := hW
  refine lv_dup hx hb d_Rules_init_13 rfl ?_
  refine lv_iconst (v := (nI 1)) hx hb d_Rules_init_14 (by decide +kernel) ?_
  refine lv_iconst (v := (nI 0)) hx hb d_Rules_init_15 (by decide +kernel) ?_
  refine R_iast X hW (t0 := 0) rfl 1 rfl (k := 1) (by decide) (by decide) 0 rfl d_Rules_init_16 (fun H locs hW => ?_)
  have hW : Wr G A s.heap [(a, .inr (3, [.null, .null])), (q6, .inl (cI, 5, .inl (aE nI (va_up (va_up (fun _ => 0) 0 100) 1 0))))] H locs := hW
  refine lv_dup hx hb d_Rules_init_17 rfl ?_
  refine lv_iconst (v := (nI 2)) hx hb d_Rules_init_18 (by decide +kernel) ?_
  refine lv_iconst (v := (nI 0)) hx hb d_Rules_init_19 (by decide +kernel) ?_
  refine R_iast X hW (t0 := 0) rfl 1 rfl (k := 2) (by decide) (by decide) 0 rfl d_Rules_init_20 (fun H locs hW => ?_)
  have hW : Wr G A s.heap [(a, .inr (3, [.null, .null])), (q6, .inl (cI, 5, .inl (aE nI (va_up (va_up (va_up (fun _ => 0) 0 100) 1 0) 2 0))))] H locs := hW
  refine lv_dup hx hb d_Rules_init_21 rfl ?_
  refine lv_iconst (v := (nI 3)) hx hb d_Rules_init_22 (by decide +kernel) ?_
  refine lv_sipush (v := (nI 3600)) hx hb d_Rules_init_23 (by decide +kernel) ?_
  refine R_iast X hW (t0 := 0) rfl 1 rfl (k := 3) (by decide) (by decide) 3600 rfl d_Rules_init_26 (fun H locs hW => ?_)
  have hW : Wr G A s.heap [(a, .inr (3, [.null, .null])), (q6, .inl (cI, 5, .inl (aE nI (va_up (va_up (va_up (va_up (fun _ => 0) 0 100) 1 0) 2 0) 3 3600))))] H locs := hW
  refine lv_dup hx hb d_Rules_init_27 rfl ?_
  refine lv_iconst (v := (nI 4)) hx hb d_Rules_init_28 (by decide +kernel) ?_
  refine lv_iconst (v := (nI 1)) hx hb d_Rules_init_29 (by decide +kernel) ?_
  refine R_iast X hW (t0 := 0) rfl 1 rfl (k := 4) (by decide) (by decide) 1 rfl d_Rules_init_30 (fun H locs hW => ?_)
  have hW : Wr G A s.heap [(a, .inr (3, [.null, .null])), (q6, .inl (cI, 5, .inl (aE nI (va_up (va_up (va_up (va_up (va_up (fun _ => 0) 0 100) 1 0) 2 0) 3 3600) 4 1))))] H locs := hW
  refine R_putF X hW i_Rules rfl t_Rules t_Rules_ok n_Rules 0 (by decide) kf_Rules_7 rfl hnm rfl (ty := .array .int) (by decide +kernel) 0 rfl (v := .ref q6) rfl rfl (Nat.le_of_ble_eq_true rfl) d_Rules_init_31 (fun H locs hW => ?_)
  have hW : Wr G A s.heap [(a, .inr (3, [.ref q6, .null])), (q6, .inl (cI, 5, .inl (aE nI (va_up (va_up (va_up (va_up (va_up (fun _ => 0) 0 100) 1 0) 2 0) 3 3600) 4 1))))] H locs := hW
  refine lv_aload_n hx hb d_Rules_init_34 rfl (lv_at hl 0 rfl) ?_
  refine lv_iconst (v := (nI 5)) hx hb d_Rules_init_35 (by decide +kernel) ?_
  refine R_newa (cA := cI) (t0 := 0) (n := 5) (a0 := (5, .inl (aE nI (fun _ => 0)))) X hW ka_I rfl (fun C h => by cases h) rfl (fun c => df_i c 5) (by decide) (by decide) (Nat.le_of_ble_eq_true rfl) (Nat.le_of_ble_eq_true rfl) d_Rules_init_36 (fun q36 H hW => ?_)
  have hW : Wr G A s.heap [(a, .inr (3, [.ref q6, .null])), (q6, .inl (cI, 5, .inl (aE nI (va_up (va_up (va_up (va_up (va_up (fun _ => 0) 0 100) 1 0) 2 0) 3 3600) 4 1)))), (q36, .inl (cI, 5, .inl (aE nI (fun _ => 0))))] H locs := hW
  refine lv_dup hx hb d_Rules_init_38 rfl ?_
  refine lv_iconst (v := (nI 0)) hx hb d_Rules_init_39 (by decide +kernel) ?_
  refine lv_bipush (v := (nI 100)) hx hb d_Rules_init_40 (by decide +kernel) ?_
  refine R_iast X hW (t0 := 0) rfl 2 rfl (k := 0) (by decide) (by decide) 100 rfl d_Rules_init_42 (fun H locs hW => ?_)
  have hW : Wr G A s.heap [(a, .inr (3, [.ref q6, .null])), (q6, .inl (cI, 5, .inl (aE nI (va_up (va_up (va_up (va_up (va_up (fun _ => 0) 0 100) 1 0) 2 0) 3 3600) 4 1)))), (q36, .inl (cI, 5, .inl (aE nI (va_up (fun _ => 0) 0 100))))] H locs := hW
  refine lv_dup hx hb d_Rules_init_43 rfl ?_
  refine lv_iconst (v := (nI 1)) hx hb d_Rules_init_44 (by decide +kernel) ?_
  refine lv_iconst (v := (nI 0)) hx hb d_Rules_init_45 (by decide +kernel) ?_
  refine R_iast X hW (t0 := 0) rfl 2 rfl (k := 1) (by decide) (by decide) 0 rfl d_Rules_init_46 (fun H locs hW => ?_)
  have hW : Wr G A s.heap [(a, .inr (3, [.ref q6, .null])), (q6, .inl (cI, 5, .inl (aE nI (va_up (va_up (va_up (va_up (va_up (fun _ => 0) 0 100) 1 0) 2 0) 3 3600) 4 1)))), (q36, .inl (cI, 5, .inl (aE nI (va_up (va_up (fun _ => 0) 0 100) 1 0))))] H locs := hW
  refine lv_dup hx hb d_Rules_init_47 rfl ?_
  refine lv_iconst (v := (nI 2)) hx hb d_Rules_init_48 (by decide +kernel) ?_
  refine lv_iconst (v := (nI 0)) hx hb d_Rules_init_49 (by decide +kernel) ?_
  refine R_iast X hW (t0 := 0) rfl 2 rfl (k := 2) (by decide) (by decide) 0 rfl d_Rules_init_50 (fun H locs hW => ?_)
  have hW : Wr G A s.heap [(a, .inr (3, [.ref q6, .null])), (q6, .inl (cI, 5, .inl (aE nI (va_up (va_up (va_up (va_up (va_up (fun _ => 0) 0 100) 1 0) 2 0) 3 3600) 4 1)))), (q36, .inl (cI, 5, .inl (aE nI (va_up (va_up (va_up (fun _ => 0) 0 100) 1 0) 2 0))))] H locs := hW
  refine lv_dup hx hb d_Rules_init_51 rfl ?_
  refine lv_iconst (v := (nI 3)) hx hb d_Rules_init_52 (by decide +kernel) ?_
  refine lv_sipush (v := (nI 3600)) hx hb d_Rules_init_53 (by decide +kernel) ?_
  refine R_iast X hW (t0 := 0) rfl 2 rfl (k := 3) (by decide) (by decide) 3600 rfl d_Rules_init_56 (fun H locs hW => ?_)
  have hW : Wr G A s.heap [(a, .inr (3, [.ref q6, .null])), (q6, .inl (cI, 5, .inl (aE nI (va_up (va_up (va_up (va_up (va_up (fun _ => 0) 0 100) 1 0) 2 0) 3 3600) 4 1)))), (q36, .inl (cI, 5, .inl (aE nI (va_up (va_up (va_up (va_up (fun _ => 0) 0 100) 1 0) 2 0) 3 3600))))] H locs := hW
  refine lv_dup hx hb d_Rules_init_57 rfl ?_
  refine lv_iconst (v := (nI 4)) hx hb d_Rules_init_58 (by decide +kernel) ?_
  refine lv_iconst (v := (nI 1)) hx hb d_Rules_init_59 (by decide +kernel) ?_
  refine R_iast X hW (t0 := 0) rfl 2 rfl (k := 4) (by decide) (by decide) 1 rfl d_Rules_init_60 (fun H locs hW => ?_)
  have hW : Wr G A s.heap [(a, .inr (3, [.ref q6, .null])), (q6, .inl (cI, 5, .inl (aE nI (va_up (va_up (va_up (va_up (va_up (fun _ => 0) 0 100) 1 0) 2 0) 3 3600) 4 1)))), (q36, .inl (cI, 5, .inl (aE nI (va_up (va_up (va_up (va_up (va_up (fun _ => 0) 0 100) 1 0) 2 0) 3 3600) 4 1))))] H locs := hW
  refine R_putF X hW i_Rules rfl t_Rules t_Rules_ok n_Rules 1 (by decide) kf_Rules_13 rfl hnm rfl (ty := .array .int) (by decide +kernel) 0 rfl (v := .ref q36) rfl rfl (Nat.le_of_ble_eq_true rfl) d_Rules_init_61 (fun H locs hW => ?_)
  have hW : Wr G A s.heap [(a, .inr (3, [.ref q6, .ref q36])), (q6, .inl (cI, 5, .inl (aE nI (va_up (va_up (va_up (va_up (va_up (fun _ => 0) 0 100) 1 0) 2 0) 3 3600) 4 1)))), (q36, .inl (cI, 5, .inl (aE nI (va_up (va_up (va_up (va_up (va_up (fun _ => 0) 0 100) 1 0) 2 0) 3 3600) 4 1))))] H locs := hW
  have hW : Wr G A s.heap (w_Rul (fun j => ([a, q6, q36] : List Nat).getD (j - 25) 0) cI cZ cJ (va_up (va_up (va_up (va_up (va_up (fun _ => 0) 0 100) 1 0) 2 0) 3 3600) 4 1) (va_up (va_up (va_up (va_up (va_up (fun _ => 0) 0 100) 1 0) 2 0) 3 3600) 4 1)) H locs := hW.sub [0, 1, 2] rfl rfl
  exact R_vretN X Y hW ⟨_, rfl, rfl⟩ (Nat.le_of_ble_eq_true rfl) (Nat.le_of_ble_eq_true rfl) d_Rules_init_64
