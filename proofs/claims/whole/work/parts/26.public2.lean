set_option maxHeartbeats 4000000 in
set_option maxRecDepth 100000 in
theorem c_Top_points_bad (l : Launch) (G : va_G) (cI cZ cJ : ClassId) (h : Nat → Nat) (wr : Nat → Nat) (se : Nat → Bool) (ga : Nat → Option Nat) (tw : Nat → Option Nat) (np : Nat) (tot : Nat) (gr : Nat → Nat) (fa : Nat → Nat) (re : Nat → Bool) (ss : Nat → Nat) (sc : Nat → Nat) (ne : Nat) (stt : Nat → Option Nat) (sco : Nat → Nat) (tim : Nat → Nat) (cnt : Nat → Nat) (ns : Nat) (sp : Nat → Nat) (sq : Nat → Nat) (sec : Nat → Nat) (rt : Nat → Bool) (it : Nat → Nat) (ans : Nat → Nat) (tl : Nat) (un : Nat → Nat) (nw : Nat → Nat) (td : Nat → Nat) (x : Int32) (y : Int32) (hbad : ¬ (inB x ne = true ∧ inB y np = true)) (hn : ne ≤ 20 ∧ np ≤ 20) : Ct l G (tyL cI cZ cJ) y_Top_points b_Top_points 3 (some .long) (rmL 1) [.ref (h 0), .int x, .int y] (w_All h cI cZ cJ wr se ga tw np tot gr fa re ss sc ne stt sco tim cnt ns sp sq sec rt it ans tl un nw td) (some (.long (oL none))) (w_All h cI cZ cJ wr se ga tw np tot gr fa re ss sc ne stt sco tim cnt ns sp sq sec rt it ans tl un nw td) := by
  refine M_start (by decide) (Nat.le_of_ble_eq_true rfl) ?_
  intro p e s m args below meth c A Q ls X Y hW hl
  have hx := X.1.1
  have hb := X.1.2.1
  have hl : lv_has ls 3 [(0, .ref (h 0)), (1, .int x), (2, .int y)] := hl
  refine lv_aload_n hx hb d_Top_points_0 rfl (lv_at hl 0 rfl) ?_
  refine R_get X hW i_Top rfl 1 (by decide) kf_Top_19 0 rfl rfl d_Top_points_1 ?_
  refine lv_iload_n hx hb d_Top_points_4 rfl (lv_at hl 1 rfl) ?_
  refine R_callV (q0 := 11) (c_Persons_has l G cI cZ cJ h ne stt sco tim cnt x (by omega)) X rfl hW cw_Top_76 ki_Persons_has ks_Persons_has rfl rfl ⟨rfl, rfl⟩ ⟨by decide, by decide⟩ ⟨Nat.zero_le _, Nat.zero_le _⟩ [false, false, false, false, false, false, false, false, false, false, false, true, true, true, true, true, false, false, false, false, false, false, false, false, false, false, false, false] rfl (Nat.le_of_ble_eq_true rfl) rfl rfl hl.1 rfl rfl (Nat.le_of_ble_eq_true rfl) d_Top_points_5 rfl (fun H locs hW => ?_)
  have hW : Wr G A s.heap (w_All h cI cZ cJ wr se ga tw np tot gr fa re ss sc ne stt sco tim cnt ns sp sq sec rt it ans tl un nw td) H locs := hW
  refine N_if_eq_B hx hb  (tgt := 22) d_Top_points_8 (by decide) (fun c8 => ?_) (fun c8 => ?_)
  · refine lv_ldc2 hx hb X.1.2.2.2.1 (X.1.2.2.2.2 _ kl_Top_101) d_Top_points_22 ?_
    exact R_lret X Y hW rfl rfl d_Top_points_25
  · refine lv_aload_n hx hb d_Top_points_11 rfl (lv_at hl 0 rfl) ?_
    refine R_get X hW i_Top rfl 0 (by decide) kf_Top_10 0 rfl rfl d_Top_points_12 ?_
    refine lv_iload_n hx hb d_Top_points_15 rfl (lv_at hl 2 rfl) ?_
    refine R_callV (q0 := 5) (c_Puzzles_has l G cI cZ cJ h np tot gr fa re ss sc y (by omega)) X rfl hW cw_Top_87 ki_Puzzles_has ks_Puzzles_has rfl rfl ⟨rfl, rfl⟩ ⟨by decide, by decide⟩ ⟨Nat.zero_le _, Nat.zero_le _⟩ [false, false, false, false, false, true, true, true, true, true, true, false, false, false, false, false, false, false, false, false, false, false, false, false, false, false, false, false] rfl (Nat.le_of_ble_eq_true rfl) rfl rfl hl.1 rfl rfl (Nat.le_of_ble_eq_true rfl) d_Top_points_16 rfl (fun H locs hW => ?_)
    have hW : Wr G A s.heap (w_All h cI cZ cJ wr se ga tw np tot gr fa re ss sc ne stt sco tim cnt ns sp sq sec rt it ans tl un nw td) H locs := hW
    refine N_if_ne_B hx hb  (tgt := 26) d_Top_points_19 (by decide) (fun c19 => ?_) (fun c19 => ?_)
    · exact absurd ⟨c8, c19⟩ hbad
    · refine lv_ldc2 hx hb X.1.2.2.2.1 (X.1.2.2.2.2 _ kl_Top_101) d_Top_points_22 ?_
      exact R_lret X Y hW rfl rfl d_Top_points_25

set_option maxHeartbeats 4000000 in
set_option maxRecDepth 100000 in
theorem c_Top_score_bad (l : Launch) (G : va_G) (cI cZ cJ : ClassId) (h : Nat → Nat) (wr : Nat → Nat) (se : Nat → Bool) (ga : Nat → Option Nat) (tw : Nat → Option Nat) (np : Nat) (tot : Nat) (gr : Nat → Nat) (fa : Nat → Nat) (re : Nat → Bool) (ss : Nat → Nat) (sc : Nat → Nat) (ne : Nat) (stt : Nat → Option Nat) (sco : Nat → Nat) (tim : Nat → Nat) (cnt : Nat → Nat) (ns : Nat) (sp : Nat → Nat) (sq : Nat → Nat) (sec : Nat → Nat) (rt : Nat → Bool) (it : Nat → Nat) (ans : Nat → Nat) (tl : Nat) (un : Nat → Nat) (nw : Nat → Nat) (td : Nat → Nat) (x : Int32) (w : Int32) (hbad : ¬ (inB x ne = true ∧ 0 ≤ w.toInt ∧ w.toInt ≤ 3)) (hn : ne ≤ 20) : Ct l G (tyL cI cZ cJ) y_Top_score b_Top_score 3 (some .long) (rmL 1) [.ref (h 0), .int x, .int w] (w_All h cI cZ cJ wr se ga tw np tot gr fa re ss sc ne stt sco tim cnt ns sp sq sec rt it ans tl un nw td) (some (.long (oL none))) (w_All h cI cZ cJ wr se ga tw np tot gr fa re ss sc ne stt sco tim cnt ns sp sq sec rt it ans tl un nw td) := by
  refine M_start (by decide) (Nat.le_of_ble_eq_true rfl) ?_
  intro p e s m args below meth c A Q ls X Y hW hl
  have hx := X.1.1
  have hb := X.1.2.1
  have hl : lv_has ls 3 [(0, .ref (h 0)), (1, .int x), (2, .int w)] := hl
  refine lv_aload_n hx hb d_Top_score_0 rfl (lv_at hl 0 rfl) ?_
  refine R_get X hW i_Top rfl 1 (by decide) kf_Top_19 0 rfl rfl d_Top_score_1 ?_
  refine lv_iload_n hx hb d_Top_score_4 rfl (lv_at hl 1 rfl) ?_
  refine R_callV (q0 := 11) (c_Persons_has l G cI cZ cJ h ne stt sco tim cnt x (by omega)) X rfl hW cw_Top_76 ki_Persons_has ks_Persons_has rfl rfl ⟨rfl, rfl⟩ ⟨by decide, by decide⟩ ⟨Nat.zero_le _, Nat.zero_le _⟩ [false, false, false, false, false, false, false, false, false, false, false, true, true, true, true, true, false, false, false, false, false, false, false, false, false, false, false, false] rfl (Nat.le_of_ble_eq_true rfl) rfl rfl hl.1 rfl rfl (Nat.le_of_ble_eq_true rfl) d_Top_score_5 rfl (fun H locs hW => ?_)
  have hW : Wr G A s.heap (w_All h cI cZ cJ wr se ga tw np tot gr fa re ss sc ne stt sco tim cnt ns sp sq sec rt it ans tl un nw td) H locs := hW
  refine N_if_eq_B hx hb  (tgt := 20) d_Top_score_8 (by decide) (fun c8 => ?_) (fun c8 => ?_)
  · refine lv_ldc2 hx hb X.1.2.2.2.1 (X.1.2.2.2.2 _ kl_Top_101) d_Top_score_20 ?_
    exact R_lret X Y hW rfl rfl d_Top_score_23
  · refine lv_iload_n hx hb d_Top_score_11 rfl (lv_at hl 2 rfl) ?_
    refine N_if_lt_R hx hb  (tgt := 20) d_Top_score_12 (by decide) (fun c12 => ?_) (fun c12 => ?_)
    · refine lv_ldc2 hx hb X.1.2.2.2.1 (X.1.2.2.2.2 _ kl_Top_101) d_Top_score_20 ?_
      exact R_lret X Y hW rfl rfl d_Top_score_23
    · refine lv_iload_n hx hb d_Top_score_15 rfl (lv_at hl 2 rfl) ?_
      refine lv_iconst (v := (nI 3)) hx hb d_Top_score_16 (by decide +kernel) ?_
      refine N_icmp_le_RN hx hb (by decide) (tgt := 24) d_Top_score_17 (by decide) (fun c17 => ?_) (fun c17 => ?_)
      · exact absurd ⟨c8, by omega, by omega⟩ hbad
      · refine lv_ldc2 hx hb X.1.2.2.2.1 (X.1.2.2.2.2 _ kl_Top_101) d_Top_score_20 ?_
        exact R_lret X Y hW rfl rfl d_Top_score_23

set_option maxHeartbeats 4000000 in
set_option maxRecDepth 100000 in
theorem c_Top_place_bad (l : Launch) (G : va_G) (cI cZ cJ : ClassId) (h : Nat → Nat) (wr : Nat → Nat) (se : Nat → Bool) (ga : Nat → Option Nat) (tw : Nat → Option Nat) (np : Nat) (tot : Nat) (gr : Nat → Nat) (fa : Nat → Nat) (re : Nat → Bool) (ss : Nat → Nat) (sc : Nat → Nat) (ne : Nat) (stt : Nat → Option Nat) (sco : Nat → Nat) (tim : Nat → Nat) (cnt : Nat → Nat) (ns : Nat) (sp : Nat → Nat) (sq : Nat → Nat) (sec : Nat → Nat) (rt : Nat → Bool) (it : Nat → Nat) (ans : Nat → Nat) (tl : Nat) (un : Nat → Nat) (nw : Nat → Nat) (td : Nat → Nat) (x : Int32) (hbad : inB x ne = false) (hn : ne ≤ 20) : Ct l G (tyL cI cZ cJ) y_Top_place b_Top_place 2 (some .int) (rmL 1) [.ref (h 0), .int x] (w_All h cI cZ cJ wr se ga tw np tot gr fa re ss sc ne stt sco tim cnt ns sp sq sec rt it ans tl un nw td) (some (.int (-1))) (w_All h cI cZ cJ wr se ga tw np tot gr fa re ss sc ne stt sco tim cnt ns sp sq sec rt it ans tl un nw td) := by
  refine M_start (by decide) (Nat.le_of_ble_eq_true rfl) ?_
  intro p e s m args below meth c A Q ls X Y hW hl
  have hx := X.1.1
  have hb := X.1.2.1
  have hl : lv_has ls 2 [(0, .ref (h 0)), (1, .int x)] := hl
  refine lv_aload_n hx hb d_Top_place_0 rfl (lv_at hl 0 rfl) ?_
  refine R_get X hW i_Top rfl 1 (by decide) kf_Top_19 0 rfl rfl d_Top_place_1 ?_
  refine lv_iload_n hx hb d_Top_place_4 rfl (lv_at hl 1 rfl) ?_
  refine R_callV (q0 := 11) (c_Persons_has l G cI cZ cJ h ne stt sco tim cnt x (by omega)) X rfl hW cw_Top_76 ki_Persons_has ks_Persons_has rfl rfl ⟨rfl, rfl⟩ ⟨by decide, by decide⟩ ⟨Nat.zero_le _, Nat.zero_le _⟩ [false, false, false, false, false, false, false, false, false, false, false, true, true, true, true, true, false, false, false, false, false, false, false, false, false, false, false, false] rfl (Nat.le_of_ble_eq_true rfl) rfl rfl hl.1 rfl rfl (Nat.le_of_ble_eq_true rfl) d_Top_place_5 rfl (fun H locs hW => ?_)
  have hW : Wr G A s.heap (w_All h cI cZ cJ wr se ga tw np tot gr fa re ss sc ne stt sco tim cnt ns sp sq sec rt it ans tl un nw td) H locs := hW
  refine N_if_ne_B hx hb  (tgt := 13) d_Top_place_8 (by decide) (fun c8 => ?_) (fun c8 => ?_)
  · exfalso; rw [hbad] at c8; cases c8
  · refine lv_iconst (v := (-1)) hx hb d_Top_place_11 (by decide +kernel) ?_
    exact R_iret X Y hW rfl rfl d_Top_place_12

set_option maxHeartbeats 4000000 in
set_option maxRecDepth 100000 in
theorem c_Top_shared_bad (l : Launch) (G : va_G) (cI cZ cJ : ClassId) (h : Nat → Nat) (wr : Nat → Nat) (se : Nat → Bool) (ga : Nat → Option Nat) (tw : Nat → Option Nat) (np : Nat) (tot : Nat) (gr : Nat → Nat) (fa : Nat → Nat) (re : Nat → Bool) (ss : Nat → Nat) (sc : Nat → Nat) (ne : Nat) (stt : Nat → Option Nat) (sco : Nat → Nat) (tim : Nat → Nat) (cnt : Nat → Nat) (ns : Nat) (sp : Nat → Nat) (sq : Nat → Nat) (sec : Nat → Nat) (rt : Nat → Bool) (it : Nat → Nat) (ans : Nat → Nat) (tl : Nat) (un : Nat → Nat) (nw : Nat → Nat) (td : Nat → Nat) (x : Int32) (y : Int32) (hbad : ¬ (inB x ne = true ∧ inB y ne = true)) (hn : ne ≤ 20) : Ct l G (tyL cI cZ cJ) y_Top_shared b_Top_shared 3 (some .boolean) (rmL 1) [.ref (h 0), .int x, .int y] (w_All h cI cZ cJ wr se ga tw np tot gr fa re ss sc ne stt sco tim cnt ns sp sq sec rt it ans tl un nw td) (some (.int (bI false))) (w_All h cI cZ cJ wr se ga tw np tot gr fa re ss sc ne stt sco tim cnt ns sp sq sec rt it ans tl un nw td) := by
  refine M_start (by decide) (Nat.le_of_ble_eq_true rfl) ?_
  intro p e s m args below meth c A Q ls X Y hW hl
  have hx := X.1.1
  have hb := X.1.2.1
  have hl : lv_has ls 3 [(0, .ref (h 0)), (1, .int x), (2, .int y)] := hl
  refine lv_aload_n hx hb d_Top_shared_0 rfl (lv_at hl 0 rfl) ?_
  refine R_get X hW i_Top rfl 1 (by decide) kf_Top_19 0 rfl rfl d_Top_shared_1 ?_
  refine lv_iload_n hx hb d_Top_shared_4 rfl (lv_at hl 1 rfl) ?_
  refine R_callV (q0 := 11) (c_Persons_has l G cI cZ cJ h ne stt sco tim cnt x (by omega)) X rfl hW cw_Top_76 ki_Persons_has ks_Persons_has rfl rfl ⟨rfl, rfl⟩ ⟨by decide, by decide⟩ ⟨Nat.zero_le _, Nat.zero_le _⟩ [false, false, false, false, false, false, false, false, false, false, false, true, true, true, true, true, false, false, false, false, false, false, false, false, false, false, false, false] rfl (Nat.le_of_ble_eq_true rfl) rfl rfl hl.1 rfl rfl (Nat.le_of_ble_eq_true rfl) d_Top_shared_5 rfl (fun H locs hW => ?_)
  have hW : Wr G A s.heap (w_All h cI cZ cJ wr se ga tw np tot gr fa re ss sc ne stt sco tim cnt ns sp sq sec rt it ans tl un nw td) H locs := hW
  refine N_if_eq_B hx hb  (tgt := 22) d_Top_shared_8 (by decide) (fun c8 => ?_) (fun c8 => ?_)
  · refine lv_iconst (v := (nI 0)) hx hb d_Top_shared_22 (by decide +kernel) ?_
    exact R_zret X Y hW rfl false (by decide +kernel) rfl d_Top_shared_23
  · refine lv_aload_n hx hb d_Top_shared_11 rfl (lv_at hl 0 rfl) ?_
    refine R_get X hW i_Top rfl 1 (by decide) kf_Top_19 0 rfl rfl d_Top_shared_12 ?_
    refine lv_iload_n hx hb d_Top_shared_15 rfl (lv_at hl 2 rfl) ?_
    refine R_callV (q0 := 11) (c_Persons_has l G cI cZ cJ h ne stt sco tim cnt y (by omega)) X rfl hW cw_Top_76 ki_Persons_has ks_Persons_has rfl rfl ⟨rfl, rfl⟩ ⟨by decide, by decide⟩ ⟨Nat.zero_le _, Nat.zero_le _⟩ [false, false, false, false, false, false, false, false, false, false, false, true, true, true, true, true, false, false, false, false, false, false, false, false, false, false, false, false] rfl (Nat.le_of_ble_eq_true rfl) rfl rfl hl.1 rfl rfl (Nat.le_of_ble_eq_true rfl) d_Top_shared_16 rfl (fun H locs hW => ?_)
    have hW : Wr G A s.heap (w_All h cI cZ cJ wr se ga tw np tot gr fa re ss sc ne stt sco tim cnt ns sp sq sec rt it ans tl un nw td) H locs := hW
    refine N_if_ne_B hx hb  (tgt := 24) d_Top_shared_19 (by decide) (fun c19 => ?_) (fun c19 => ?_)
    · exact absurd ⟨c8, c19⟩ hbad
    · refine lv_iconst (v := (nI 0)) hx hb d_Top_shared_22 (by decide +kernel) ?_
      exact R_zret X Y hW rfl false (by decide +kernel) rfl d_Top_shared_23

set_option maxHeartbeats 4000000 in
set_option maxRecDepth 100000 in
theorem c_Top_points_ok (l : Launch) (G : va_G) (cI cZ cJ : ClassId) (h : Nat → Nat) (wr : Nat → Nat) (se : Nat → Bool) (ga : Nat → Option Nat) (tw : Nat → Option Nat) (np : Nat) (tot : Nat) (gr : Nat → Nat) (fa : Nat → Nat) (re : Nat → Bool) (ss : Nat → Nat) (sc : Nat → Nat) (ne : Nat) (stt : Nat → Option Nat) (sco : Nat → Nat) (tim : Nat → Nat) (cnt : Nat → Nat) (ns : Nat) (sp : Nat → Nat) (sq : Nat → Nat) (sec : Nat → Nat) (rt : Nat → Bool) (it : Nat → Nat) (ans : Nat → Nat) (tl : Nat) (un : Nat → Nat) (nw : Nat → Nat) (td : Nat → Nat) (x : Nat) (y : Nat) (hx0 : x < ne) (hy0 : y < np) (hI : IS np ne ns gr nw sp sq sec it ans stt) : Ct l G (tyL cI cZ cJ) y_Top_points b_Top_points 3 (some .long) (rmL 4) [.ref (h 0), .int (nI x), .int (nI y)] (w_All h cI cZ cJ wr se ga tw np tot gr fa re ss sc ne stt sco tim cnt ns sp sq sec rt it ans tl un nw td) (some (.long (oL ((woF gr nw sp sq sec it rt stt ns x (wr, se, ga, sco, tim, cnt)).2.2.1 y)))) (w_All h cI cZ cJ ((woF gr nw sp sq sec it rt stt ns x (wr, se, ga, sco, tim, cnt)).1) ((woF gr nw sp sq sec it rt stt ns x (wr, se, ga, sco, tim, cnt)).2.1) ((woF gr nw sp sq sec it rt stt ns x (wr, se, ga, sco, tim, cnt)).2.2.1) tw np tot gr fa re ss sc ne stt ((woF gr nw sp sq sec it rt stt ns x (wr, se, ga, sco, tim, cnt)).2.2.2.1) ((woF gr nw sp sq sec it rt stt ns x (wr, se, ga, sco, tim, cnt)).2.2.2.2.1) ((woF gr nw sp sq sec it rt stt ns x (wr, se, ga, sco, tim, cnt)).2.2.2.2.2) ns sp sq sec rt it ans tl un nw td) := by
  refine M_start (by decide) (Nat.le_of_ble_eq_true rfl) ?_
  intro p e s m args below meth c A Q ls X Y hW hl
  have hx := X.1.1
  have hb := X.1.2.1
  have hl : lv_has ls 3 [(0, .ref (h 0)), (1, .int (nI x)), (2, .int (nI y))] := hl
  obtain ⟨z1, z2, z3, z4, z5, z6, z7, z8, z9, z10, z11, z12, z13⟩ := id hI
  refine lv_aload_n hx hb d_Top_points_0 rfl (lv_at hl 0 rfl) ?_
  refine R_get X hW i_Top rfl 1 (by decide) kf_Top_19 0 rfl rfl d_Top_points_1 ?_
  refine lv_iload_n hx hb d_Top_points_4 rfl (lv_at hl 1 rfl) ?_
  refine R_callV (q0 := 11) (c_Persons_has l G cI cZ cJ h ne stt sco tim cnt (nI x) (by omega)) X rfl hW cw_Top_76 ki_Persons_has ks_Persons_has rfl rfl ⟨rfl, rfl⟩ ⟨by decide, by decide⟩ ⟨Nat.zero_le _, Nat.zero_le _⟩ [false, false, false, false, false, false, false, false, false, false, false, true, true, true, true, true, false, false, false, false, false, false, false, false, false, false, false, false] rfl (Nat.le_of_ble_eq_true rfl) rfl rfl hl.1 rfl rfl (Nat.le_of_ble_eq_true rfl) d_Top_points_5 rfl (fun H locs hW => ?_)
  have hW : Wr G A s.heap (w_All h cI cZ cJ wr se ga tw np tot gr fa re ss sc ne stt sco tim cnt ns sp sq sec rt it ans tl un nw td) H locs := hW
  refine N_if_eq_B hx hb  (tgt := 22) d_Top_points_8 (by decide) (fun c8 => ?_) (fun c8 => ?_)
  · exfalso; rw [inB_nI (by omega) (by omega)] at c8; cases c8
  · refine lv_aload_n hx hb d_Top_points_11 rfl (lv_at hl 0 rfl) ?_
    refine R_get X hW i_Top rfl 0 (by decide) kf_Top_10 0 rfl rfl d_Top_points_12 ?_
    refine lv_iload_n hx hb d_Top_points_15 rfl (lv_at hl 2 rfl) ?_
    refine R_callV (q0 := 5) (c_Puzzles_has l G cI cZ cJ h np tot gr fa re ss sc (nI y) (by omega)) X rfl hW cw_Top_87 ki_Puzzles_has ks_Puzzles_has rfl rfl ⟨rfl, rfl⟩ ⟨by decide, by decide⟩ ⟨Nat.zero_le _, Nat.zero_le _⟩ [false, false, false, false, false, true, true, true, true, true, true, false, false, false, false, false, false, false, false, false, false, false, false, false, false, false, false, false] rfl (Nat.le_of_ble_eq_true rfl) rfl rfl hl.1 rfl rfl (Nat.le_of_ble_eq_true rfl) d_Top_points_16 rfl (fun H locs hW => ?_)
    have hW : Wr G A s.heap (w_All h cI cZ cJ wr se ga tw np tot gr fa re ss sc ne stt sco tim cnt ns sp sq sec rt it ans tl un nw td) H locs := hW
    refine N_if_ne_B hx hb  (tgt := 26) d_Top_points_19 (by decide) (fun c19 => ?_) (fun c19 => ?_)
    · refine lv_aload_n hx hb d_Top_points_26 rfl (lv_at hl 0 rfl) ?_
      refine lv_iload_n hx hb d_Top_points_27 rfl (lv_at hl 1 rfl) ?_
      refine R_callV (q0 := 0) (c_Top_workOut l G cI cZ cJ h wr se ga tw np tot gr fa re ss sc ne stt sco tim cnt ns sp sq sec rt it ans tl un nw td x (by omega) hI) X rfl hW cw_Top_114 ki_Top_workOut ks_Top_workOut rfl rfl ⟨rfl, rfl⟩ ⟨by decide, by decide⟩ ⟨Nat.zero_le _, Nat.zero_le _⟩ [true, true, true, true, true, true, true, true, true, true, true, true, true, true, true, true, true, true, true, true, true, true, true, true, true, true, true, true] rfl (Nat.le_of_ble_eq_true rfl) rfl rfl hl.1 rfl rfl (Nat.le_of_ble_eq_true rfl) d_Top_points_28 rfl (fun H locs hW => ?_)
      have hW : Wr G A s.heap (w_All h cI cZ cJ ((woF gr nw sp sq sec it rt stt ns x (wr, se, ga, sco, tim, cnt)).1) ((woF gr nw sp sq sec it rt stt ns x (wr, se, ga, sco, tim, cnt)).2.1) ((woF gr nw sp sq sec it rt stt ns x (wr, se, ga, sco, tim, cnt)).2.2.1) tw np tot gr fa re ss sc ne stt ((woF gr nw sp sq sec it rt stt ns x (wr, se, ga, sco, tim, cnt)).2.2.2.1) ((woF gr nw sp sq sec it rt stt ns x (wr, se, ga, sco, tim, cnt)).2.2.2.2.1) ((woF gr nw sp sq sec it rt stt ns x (wr, se, ga, sco, tim, cnt)).2.2.2.2.2) ns sp sq sec rt it ans tl un nw td) H locs := hW
      refine lv_aload_n hx hb d_Top_points_31 rfl (lv_at hl 0 rfl) ?_
      refine R_get X hW i_Top rfl 7 (by decide) kf_Top_52 0 rfl rfl d_Top_points_32 ?_
      refine lv_iload_n hx hb d_Top_points_35 rfl (lv_at hl 2 rfl) ?_
      refine R_lald X hW (t0 := 2) rfl 3 rfl (k := y) (by omega) (by decide) d_Top_points_36 ?_
      exact R_lret X Y hW rfl rfl d_Top_points_37
    · exfalso; rw [inB_nI (by omega) (by omega)] at c19; cases c19

theorem kf_Top_118 : Cond.fieldLink "ContestRows" 118 "ContestRows$Persons" "scores" "[J" ∈ TBL := TBL_t (List.mem_append_left _ (List.mem_of_getElem? (i := 63) rfl)) rfl
set_option maxHeartbeats 4000000 in
set_option maxRecDepth 100000 in
theorem c_Top_score_0 (l : Launch) (G : va_G) (cI cZ cJ : ClassId) (h : Nat → Nat) (wr : Nat → Nat) (se : Nat → Bool) (ga : Nat → Option Nat) (tw : Nat → Option Nat) (np : Nat) (tot : Nat) (gr : Nat → Nat) (fa : Nat → Nat) (re : Nat → Bool) (ss : Nat → Nat) (sc : Nat → Nat) (ne : Nat) (stt : Nat → Option Nat) (sco : Nat → Nat) (tim : Nat → Nat) (cnt : Nat → Nat) (ns : Nat) (sp : Nat → Nat) (sq : Nat → Nat) (sec : Nat → Nat) (rt : Nat → Bool) (it : Nat → Nat) (ans : Nat → Nat) (tl : Nat) (un : Nat → Nat) (nw : Nat → Nat) (td : Nat → Nat) (x : Nat) (w : Nat) (hx0 : x < ne) (hw0 : w = 0) (hI : IS np ne ns gr nw sp sq sec it ans stt) : Ct l G (tyL cI cZ cJ) y_Top_score b_Top_score 3 (some .long) (rmL 4) [.ref (h 0), .int (nI x), .int (nI w)] (w_All h cI cZ cJ wr se ga tw np tot gr fa re ss sc ne stt sco tim cnt ns sp sq sec rt it ans tl un nw td) (some (.long (lN ((woF gr nw sp sq sec it rt stt ns x (wr, se, ga, sco, tim, cnt)).2.2.2.1 x)))) (w_All h cI cZ cJ ((woF gr nw sp sq sec it rt stt ns x (wr, se, ga, sco, tim, cnt)).1) ((woF gr nw sp sq sec it rt stt ns x (wr, se, ga, sco, tim, cnt)).2.1) ((woF gr nw sp sq sec it rt stt ns x (wr, se, ga, sco, tim, cnt)).2.2.1) tw np tot gr fa re ss sc ne stt ((woF gr nw sp sq sec it rt stt ns x (wr, se, ga, sco, tim, cnt)).2.2.2.1) ((woF gr nw sp sq sec it rt stt ns x (wr, se, ga, sco, tim, cnt)).2.2.2.2.1) ((woF gr nw sp sq sec it rt stt ns x (wr, se, ga, sco, tim, cnt)).2.2.2.2.2) ns sp sq sec rt it ans tl un nw td) := by
  refine M_start (by decide) (Nat.le_of_ble_eq_true rfl) ?_
  intro p e s m args below meth c A Q ls X Y hW hl
  have hx := X.1.1
  have hb := X.1.2.1
  have hl : lv_has ls 3 [(0, .ref (h 0)), (1, .int (nI x)), (2, .int (nI w))] := hl
  obtain ⟨z1, z2, z3, z4, z5, z6, z7, z8, z9, z10, z11, z12, z13⟩ := id hI
  refine lv_aload_n hx hb d_Top_score_0 rfl (lv_at hl 0 rfl) ?_
  refine R_get X hW i_Top rfl 1 (by decide) kf_Top_19 0 rfl rfl d_Top_score_1 ?_
  refine lv_iload_n hx hb d_Top_score_4 rfl (lv_at hl 1 rfl) ?_
  refine R_callV (q0 := 11) (c_Persons_has l G cI cZ cJ h ne stt sco tim cnt (nI x) (by omega)) X rfl hW cw_Top_76 ki_Persons_has ks_Persons_has rfl rfl ⟨rfl, rfl⟩ ⟨by decide, by decide⟩ ⟨Nat.zero_le _, Nat.zero_le _⟩ [false, false, false, false, false, false, false, false, false, false, false, true, true, true, true, true, false, false, false, false, false, false, false, false, false, false, false, false] rfl (Nat.le_of_ble_eq_true rfl) rfl rfl hl.1 rfl rfl (Nat.le_of_ble_eq_true rfl) d_Top_score_5 rfl (fun H locs hW => ?_)
  have hW : Wr G A s.heap (w_All h cI cZ cJ wr se ga tw np tot gr fa re ss sc ne stt sco tim cnt ns sp sq sec rt it ans tl un nw td) H locs := hW
  refine N_if_eq_B hx hb  (tgt := 20) d_Top_score_8 (by decide) (fun c8 => ?_) (fun c8 => ?_)
  · exfalso; rw [inB_nI (by omega) (by omega)] at c8; cases c8
  · refine lv_iload_n hx hb d_Top_score_11 rfl (lv_at hl 2 rfl) ?_
    refine N_if_lt_N hx hb (by omega) (tgt := 20) d_Top_score_12 (by decide) (fun c12 => ?_) (fun c12 => ?_)
    · exfalso; omega
    · refine lv_iload_n hx hb d_Top_score_15 rfl (lv_at hl 2 rfl) ?_
      refine lv_iconst (v := (nI 3)) hx hb d_Top_score_16 (by decide +kernel) ?_
      refine N_icmp_le_NN hx hb (by omega) (by decide) (tgt := 24) d_Top_score_17 (by decide) (fun c17 => ?_) (fun c17 => ?_)
      · refine lv_iload_n hx hb d_Top_score_24 rfl (lv_at hl 2 rfl) ?_
        refine lv_iconst (v := (nI 3)) hx hb d_Top_score_25 (by decide +kernel) ?_
        refine N_icmp_ne_NN hx hb (by omega) (by decide) (tgt := 50) d_Top_score_26 (by decide) (fun c26 => ?_) (fun c26 => ?_)
        · refine lv_aload_n hx hb d_Top_score_50 rfl (lv_at hl 0 rfl) ?_
          refine lv_iload_n hx hb d_Top_score_51 rfl (lv_at hl 1 rfl) ?_
          refine R_callV (q0 := 0) (c_Top_workOut l G cI cZ cJ h wr se ga tw np tot gr fa re ss sc ne stt sco tim cnt ns sp sq sec rt it ans tl un nw td x (by omega) hI) X rfl hW cw_Top_114 ki_Top_workOut ks_Top_workOut rfl rfl ⟨rfl, rfl⟩ ⟨by decide, by decide⟩ ⟨Nat.zero_le _, Nat.zero_le _⟩ [true, true, true, true, true, true, true, true, true, true, true, true, true, true, true, true, true, true, true, true, true, true, true, true, true, true, true, true] rfl (Nat.le_of_ble_eq_true rfl) rfl rfl hl.1 rfl rfl (Nat.le_of_ble_eq_true rfl) d_Top_score_52 rfl (fun H locs hW => ?_)
          have hW : Wr G A s.heap (w_All h cI cZ cJ ((woF gr nw sp sq sec it rt stt ns x (wr, se, ga, sco, tim, cnt)).1) ((woF gr nw sp sq sec it rt stt ns x (wr, se, ga, sco, tim, cnt)).2.1) ((woF gr nw sp sq sec it rt stt ns x (wr, se, ga, sco, tim, cnt)).2.2.1) tw np tot gr fa re ss sc ne stt ((woF gr nw sp sq sec it rt stt ns x (wr, se, ga, sco, tim, cnt)).2.2.2.1) ((woF gr nw sp sq sec it rt stt ns x (wr, se, ga, sco, tim, cnt)).2.2.2.2.1) ((woF gr nw sp sq sec it rt stt ns x (wr, se, ga, sco, tim, cnt)).2.2.2.2.2) ns sp sq sec rt it ans tl un nw td) H locs := hW
          refine lv_iload_n hx hb d_Top_score_55 rfl (lv_at hl 2 rfl) ?_
          refine N_if_ne_N hx hb (by omega) (tgt := 69) d_Top_score_56 (by decide) (fun c56 => ?_) (fun c56 => ?_)
          · exfalso; omega
          · refine lv_aload_n hx hb d_Top_score_59 rfl (lv_at hl 0 rfl) ?_
            refine R_get X hW i_Top rfl 1 (by decide) kf_Top_19 0 rfl rfl d_Top_score_60 ?_
            refine R_get X hW i_Persons rfl 1 (by decide) kf_Top_118 11 rfl rfl d_Top_score_63 ?_
            refine lv_iload_n hx hb d_Top_score_66 rfl (lv_at hl 1 rfl) ?_
            refine R_lald X hW (t0 := 2) rfl 13 rfl (k := x) (by omega) (by decide) d_Top_score_67 ?_
            exact R_lret X Y hW rfl rfl d_Top_score_68
        · exfalso; omega
      · exfalso; omega

theorem kf_Top_121 : Cond.fieldLink "ContestRows" 121 "ContestRows$Persons" "times" "[J" ∈ TBL := TBL_t (List.mem_append_left _ (List.mem_of_getElem? (i := 65) rfl)) rfl
set_option maxHeartbeats 4000000 in
set_option maxRecDepth 100000 in
theorem c_Top_score_1 (l : Launch) (G : va_G) (cI cZ cJ : ClassId) (h : Nat → Nat) (wr : Nat → Nat) (se : Nat → Bool) (ga : Nat → Option Nat) (tw : Nat → Option Nat) (np : Nat) (tot : Nat) (gr : Nat → Nat) (fa : Nat → Nat) (re : Nat → Bool) (ss : Nat → Nat) (sc : Nat → Nat) (ne : Nat) (stt : Nat → Option Nat) (sco : Nat → Nat) (tim : Nat → Nat) (cnt : Nat → Nat) (ns : Nat) (sp : Nat → Nat) (sq : Nat → Nat) (sec : Nat → Nat) (rt : Nat → Bool) (it : Nat → Nat) (ans : Nat → Nat) (tl : Nat) (un : Nat → Nat) (nw : Nat → Nat) (td : Nat → Nat) (x : Nat) (w : Nat) (hx0 : x < ne) (hw0 : w = 1) (hI : IS np ne ns gr nw sp sq sec it ans stt) : Ct l G (tyL cI cZ cJ) y_Top_score b_Top_score 3 (some .long) (rmL 4) [.ref (h 0), .int (nI x), .int (nI w)] (w_All h cI cZ cJ wr se ga tw np tot gr fa re ss sc ne stt sco tim cnt ns sp sq sec rt it ans tl un nw td) (some (.long (lN ((woF gr nw sp sq sec it rt stt ns x (wr, se, ga, sco, tim, cnt)).2.2.2.2.1 x)))) (w_All h cI cZ cJ ((woF gr nw sp sq sec it rt stt ns x (wr, se, ga, sco, tim, cnt)).1) ((woF gr nw sp sq sec it rt stt ns x (wr, se, ga, sco, tim, cnt)).2.1) ((woF gr nw sp sq sec it rt stt ns x (wr, se, ga, sco, tim, cnt)).2.2.1) tw np tot gr fa re ss sc ne stt ((woF gr nw sp sq sec it rt stt ns x (wr, se, ga, sco, tim, cnt)).2.2.2.1) ((woF gr nw sp sq sec it rt stt ns x (wr, se, ga, sco, tim, cnt)).2.2.2.2.1) ((woF gr nw sp sq sec it rt stt ns x (wr, se, ga, sco, tim, cnt)).2.2.2.2.2) ns sp sq sec rt it ans tl un nw td) := by
  refine M_start (by decide) (Nat.le_of_ble_eq_true rfl) ?_
  intro p e s m args below meth c A Q ls X Y hW hl
  have hx := X.1.1
  have hb := X.1.2.1
  have hl : lv_has ls 3 [(0, .ref (h 0)), (1, .int (nI x)), (2, .int (nI w))] := hl
  obtain ⟨z1, z2, z3, z4, z5, z6, z7, z8, z9, z10, z11, z12, z13⟩ := id hI
  refine lv_aload_n hx hb d_Top_score_0 rfl (lv_at hl 0 rfl) ?_
  refine R_get X hW i_Top rfl 1 (by decide) kf_Top_19 0 rfl rfl d_Top_score_1 ?_
  refine lv_iload_n hx hb d_Top_score_4 rfl (lv_at hl 1 rfl) ?_
  refine R_callV (q0 := 11) (c_Persons_has l G cI cZ cJ h ne stt sco tim cnt (nI x) (by omega)) X rfl hW cw_Top_76 ki_Persons_has ks_Persons_has rfl rfl ⟨rfl, rfl⟩ ⟨by decide, by decide⟩ ⟨Nat.zero_le _, Nat.zero_le _⟩ [false, false, false, false, false, false, false, false, false, false, false, true, true, true, true, true, false, false, false, false, false, false, false, false, false, false, false, false] rfl (Nat.le_of_ble_eq_true rfl) rfl rfl hl.1 rfl rfl (Nat.le_of_ble_eq_true rfl) d_Top_score_5 rfl (fun H locs hW => ?_)
  have hW : Wr G A s.heap (w_All h cI cZ cJ wr se ga tw np tot gr fa re ss sc ne stt sco tim cnt ns sp sq sec rt it ans tl un nw td) H locs := hW
  refine N_if_eq_B hx hb  (tgt := 20) d_Top_score_8 (by decide) (fun c8 => ?_) (fun c8 => ?_)
  · exfalso; rw [inB_nI (by omega) (by omega)] at c8; cases c8
  · refine lv_iload_n hx hb d_Top_score_11 rfl (lv_at hl 2 rfl) ?_
    refine N_if_lt_N hx hb (by omega) (tgt := 20) d_Top_score_12 (by decide) (fun c12 => ?_) (fun c12 => ?_)
    · exfalso; omega
    · refine lv_iload_n hx hb d_Top_score_15 rfl (lv_at hl 2 rfl) ?_
      refine lv_iconst (v := (nI 3)) hx hb d_Top_score_16 (by decide +kernel) ?_
      refine N_icmp_le_NN hx hb (by omega) (by decide) (tgt := 24) d_Top_score_17 (by decide) (fun c17 => ?_) (fun c17 => ?_)
      · refine lv_iload_n hx hb d_Top_score_24 rfl (lv_at hl 2 rfl) ?_
        refine lv_iconst (v := (nI 3)) hx hb d_Top_score_25 (by decide +kernel) ?_
        refine N_icmp_ne_NN hx hb (by omega) (by decide) (tgt := 50) d_Top_score_26 (by decide) (fun c26 => ?_) (fun c26 => ?_)
        · refine lv_aload_n hx hb d_Top_score_50 rfl (lv_at hl 0 rfl) ?_
          refine lv_iload_n hx hb d_Top_score_51 rfl (lv_at hl 1 rfl) ?_
          refine R_callV (q0 := 0) (c_Top_workOut l G cI cZ cJ h wr se ga tw np tot gr fa re ss sc ne stt sco tim cnt ns sp sq sec rt it ans tl un nw td x (by omega) hI) X rfl hW cw_Top_114 ki_Top_workOut ks_Top_workOut rfl rfl ⟨rfl, rfl⟩ ⟨by decide, by decide⟩ ⟨Nat.zero_le _, Nat.zero_le _⟩ [true, true, true, true, true, true, true, true, true, true, true, true, true, true, true, true, true, true, true, true, true, true, true, true, true, true, true, true] rfl (Nat.le_of_ble_eq_true rfl) rfl rfl hl.1 rfl rfl (Nat.le_of_ble_eq_true rfl) d_Top_score_52 rfl (fun H locs hW => ?_)
          have hW : Wr G A s.heap (w_All h cI cZ cJ ((woF gr nw sp sq sec it rt stt ns x (wr, se, ga, sco, tim, cnt)).1) ((woF gr nw sp sq sec it rt stt ns x (wr, se, ga, sco, tim, cnt)).2.1) ((woF gr nw sp sq sec it rt stt ns x (wr, se, ga, sco, tim, cnt)).2.2.1) tw np tot gr fa re ss sc ne stt ((woF gr nw sp sq sec it rt stt ns x (wr, se, ga, sco, tim, cnt)).2.2.2.1) ((woF gr nw sp sq sec it rt stt ns x (wr, se, ga, sco, tim, cnt)).2.2.2.2.1) ((woF gr nw sp sq sec it rt stt ns x (wr, se, ga, sco, tim, cnt)).2.2.2.2.2) ns sp sq sec rt it ans tl un nw td) H locs := hW
          refine lv_iload_n hx hb d_Top_score_55 rfl (lv_at hl 2 rfl) ?_
          refine N_if_ne_N hx hb (by omega) (tgt := 69) d_Top_score_56 (by decide) (fun c56 => ?_) (fun c56 => ?_)
          · refine lv_iload_n hx hb d_Top_score_69 rfl (lv_at hl 2 rfl) ?_
            refine lv_iconst (v := (nI 1)) hx hb d_Top_score_70 (by decide +kernel) ?_
            refine N_icmp_ne_NN hx hb (by omega) (by decide) (tgt := 86) d_Top_score_71 (by decide) (fun c71 => ?_) (fun c71 => ?_)
            · exfalso; omega
            · refine lv_aload_n hx hb d_Top_score_74 rfl (lv_at hl 0 rfl) ?_
              refine R_get X hW i_Top rfl 1 (by decide) kf_Top_19 0 rfl rfl d_Top_score_75 ?_
              refine R_get X hW i_Persons rfl 2 (by decide) kf_Top_121 11 rfl rfl d_Top_score_78 ?_
              refine lv_iload_n hx hb d_Top_score_81 rfl (lv_at hl 1 rfl) ?_
              refine R_lald X hW (t0 := 2) rfl 14 rfl (k := x) (by omega) (by decide) d_Top_score_82 ?_
              refine lv_goto (tgt := 96) hx hb d_Top_score_83 (by decide) ?_
              exact R_lret X Y hW rfl rfl d_Top_score_96
          · exfalso; omega
        · exfalso; omega
      · exfalso; omega

theorem kf_Top_124 : Cond.fieldLink "ContestRows" 124 "ContestRows$Persons" "counts" "[I" ∈ TBL := TBL_t (List.mem_append_left _ (List.mem_of_getElem? (i := 67) rfl)) rfl
set_option maxHeartbeats 4000000 in
set_option maxRecDepth 100000 in
theorem c_Top_score_2 (l : Launch) (G : va_G) (cI cZ cJ : ClassId) (h : Nat → Nat) (wr : Nat → Nat) (se : Nat → Bool) (ga : Nat → Option Nat) (tw : Nat → Option Nat) (np : Nat) (tot : Nat) (gr : Nat → Nat) (fa : Nat → Nat) (re : Nat → Bool) (ss : Nat → Nat) (sc : Nat → Nat) (ne : Nat) (stt : Nat → Option Nat) (sco : Nat → Nat) (tim : Nat → Nat) (cnt : Nat → Nat) (ns : Nat) (sp : Nat → Nat) (sq : Nat → Nat) (sec : Nat → Nat) (rt : Nat → Bool) (it : Nat → Nat) (ans : Nat → Nat) (tl : Nat) (un : Nat → Nat) (nw : Nat → Nat) (td : Nat → Nat) (x : Nat) (w : Nat) (hx0 : x < ne) (hw0 : w = 2) (hI : IS np ne ns gr nw sp sq sec it ans stt) (hc0 : (woF gr nw sp sq sec it rt stt ns x (wr, se, ga, sco, tim, cnt)).2.2.2.2.2 x < 2 ^ 31) : Ct l G (tyL cI cZ cJ) y_Top_score b_Top_score 3 (some .long) (rmL 4) [.ref (h 0), .int (nI x), .int (nI w)] (w_All h cI cZ cJ wr se ga tw np tot gr fa re ss sc ne stt sco tim cnt ns sp sq sec rt it ans tl un nw td) (some (.long (lN ((woF gr nw sp sq sec it rt stt ns x (wr, se, ga, sco, tim, cnt)).2.2.2.2.2 x)))) (w_All h cI cZ cJ ((woF gr nw sp sq sec it rt stt ns x (wr, se, ga, sco, tim, cnt)).1) ((woF gr nw sp sq sec it rt stt ns x (wr, se, ga, sco, tim, cnt)).2.1) ((woF gr nw sp sq sec it rt stt ns x (wr, se, ga, sco, tim, cnt)).2.2.1) tw np tot gr fa re ss sc ne stt ((woF gr nw sp sq sec it rt stt ns x (wr, se, ga, sco, tim, cnt)).2.2.2.1) ((woF gr nw sp sq sec it rt stt ns x (wr, se, ga, sco, tim, cnt)).2.2.2.2.1) ((woF gr nw sp sq sec it rt stt ns x (wr, se, ga, sco, tim, cnt)).2.2.2.2.2) ns sp sq sec rt it ans tl un nw td) := by
  refine M_start (by decide) (Nat.le_of_ble_eq_true rfl) ?_
  intro p e s m args below meth c A Q ls X Y hW hl
  have hx := X.1.1
  have hb := X.1.2.1
  have hl : lv_has ls 3 [(0, .ref (h 0)), (1, .int (nI x)), (2, .int (nI w))] := hl
  obtain ⟨z1, z2, z3, z4, z5, z6, z7, z8, z9, z10, z11, z12, z13⟩ := id hI
  refine lv_aload_n hx hb d_Top_score_0 rfl (lv_at hl 0 rfl) ?_
  refine R_get X hW i_Top rfl 1 (by decide) kf_Top_19 0 rfl rfl d_Top_score_1 ?_
  refine lv_iload_n hx hb d_Top_score_4 rfl (lv_at hl 1 rfl) ?_
  refine R_callV (q0 := 11) (c_Persons_has l G cI cZ cJ h ne stt sco tim cnt (nI x) (by omega)) X rfl hW cw_Top_76 ki_Persons_has ks_Persons_has rfl rfl ⟨rfl, rfl⟩ ⟨by decide, by decide⟩ ⟨Nat.zero_le _, Nat.zero_le _⟩ [false, false, false, false, false, false, false, false, false, false, false, true, true, true, true, true, false, false, false, false, false, false, false, false, false, false, false, false] rfl (Nat.le_of_ble_eq_true rfl) rfl rfl hl.1 rfl rfl (Nat.le_of_ble_eq_true rfl) d_Top_score_5 rfl (fun H locs hW => ?_)
  have hW : Wr G A s.heap (w_All h cI cZ cJ wr se ga tw np tot gr fa re ss sc ne stt sco tim cnt ns sp sq sec rt it ans tl un nw td) H locs := hW
  refine N_if_eq_B hx hb  (tgt := 20) d_Top_score_8 (by decide) (fun c8 => ?_) (fun c8 => ?_)
  · exfalso; rw [inB_nI (by omega) (by omega)] at c8; cases c8
  · refine lv_iload_n hx hb d_Top_score_11 rfl (lv_at hl 2 rfl) ?_
    refine N_if_lt_N hx hb (by omega) (tgt := 20) d_Top_score_12 (by decide) (fun c12 => ?_) (fun c12 => ?_)
    · exfalso; omega
    · refine lv_iload_n hx hb d_Top_score_15 rfl (lv_at hl 2 rfl) ?_
      refine lv_iconst (v := (nI 3)) hx hb d_Top_score_16 (by decide +kernel) ?_
      refine N_icmp_le_NN hx hb (by omega) (by decide) (tgt := 24) d_Top_score_17 (by decide) (fun c17 => ?_) (fun c17 => ?_)
      · refine lv_iload_n hx hb d_Top_score_24 rfl (lv_at hl 2 rfl) ?_
        refine lv_iconst (v := (nI 3)) hx hb d_Top_score_25 (by decide +kernel) ?_
        refine N_icmp_ne_NN hx hb (by omega) (by decide) (tgt := 50) d_Top_score_26 (by decide) (fun c26 => ?_) (fun c26 => ?_)
        · refine lv_aload_n hx hb d_Top_score_50 rfl (lv_at hl 0 rfl) ?_
          refine lv_iload_n hx hb d_Top_score_51 rfl (lv_at hl 1 rfl) ?_
          refine R_callV (q0 := 0) (c_Top_workOut l G cI cZ cJ h wr se ga tw np tot gr fa re ss sc ne stt sco tim cnt ns sp sq sec rt it ans tl un nw td x (by omega) hI) X rfl hW cw_Top_114 ki_Top_workOut ks_Top_workOut rfl rfl ⟨rfl, rfl⟩ ⟨by decide, by decide⟩ ⟨Nat.zero_le _, Nat.zero_le _⟩ [true, true, true, true, true, true, true, true, true, true, true, true, true, true, true, true, true, true, true, true, true, true, true, true, true, true, true, true] rfl (Nat.le_of_ble_eq_true rfl) rfl rfl hl.1 rfl rfl (Nat.le_of_ble_eq_true rfl) d_Top_score_52 rfl (fun H locs hW => ?_)
          have hW : Wr G A s.heap (w_All h cI cZ cJ ((woF gr nw sp sq sec it rt stt ns x (wr, se, ga, sco, tim, cnt)).1) ((woF gr nw sp sq sec it rt stt ns x (wr, se, ga, sco, tim, cnt)).2.1) ((woF gr nw sp sq sec it rt stt ns x (wr, se, ga, sco, tim, cnt)).2.2.1) tw np tot gr fa re ss sc ne stt ((woF gr nw sp sq sec it rt stt ns x (wr, se, ga, sco, tim, cnt)).2.2.2.1) ((woF gr nw sp sq sec it rt stt ns x (wr, se, ga, sco, tim, cnt)).2.2.2.2.1) ((woF gr nw sp sq sec it rt stt ns x (wr, se, ga, sco, tim, cnt)).2.2.2.2.2) ns sp sq sec rt it ans tl un nw td) H locs := hW
          refine lv_iload_n hx hb d_Top_score_55 rfl (lv_at hl 2 rfl) ?_
          refine N_if_ne_N hx hb (by omega) (tgt := 69) d_Top_score_56 (by decide) (fun c56 => ?_) (fun c56 => ?_)
          · refine lv_iload_n hx hb d_Top_score_69 rfl (lv_at hl 2 rfl) ?_
            refine lv_iconst (v := (nI 1)) hx hb d_Top_score_70 (by decide +kernel) ?_
            refine N_icmp_ne_NN hx hb (by omega) (by decide) (tgt := 86) d_Top_score_71 (by decide) (fun c71 => ?_) (fun c71 => ?_)
            · refine lv_aload_n hx hb d_Top_score_86 rfl (lv_at hl 0 rfl) ?_
              refine R_get X hW i_Top rfl 1 (by decide) kf_Top_19 0 rfl rfl d_Top_score_87 ?_
              refine R_get X hW i_Persons rfl 3 (by decide) kf_Top_124 11 rfl rfl d_Top_score_90 ?_
              refine lv_iload_n hx hb d_Top_score_93 rfl (lv_at hl 1 rfl) ?_
              refine R_iald X hW (t0 := 0) rfl 15 rfl (k := x) (by omega) (by decide) d_Top_score_94 ?_
              refine N_i2l hx hb hc0 d_Top_score_95 ?_
              exact R_lret X Y hW rfl rfl d_Top_score_96
            · exfalso; omega
          · exfalso; omega
        · exfalso; omega
      · exfalso; omega

theorem kb_Rules_timesPart : Cond.code y_Rules_timesPart b_Rules_timesPart 1 (some .boolean) ∈ TBL := TBL_t (List.mem_append_right _ (List.mem_append_left _ (List.mem_of_getElem? (i := 172) rfl))) rfl
theorem km_Top_106 : Cond.methodLink "ContestRows" 106 y_Rules_timesPart ∈ TBL := TBL_t (List.mem_append_right _ (List.mem_append_left _ (List.mem_of_getElem? (i := 169) rfl))) rfl
theorem cw_Top_106 : Cw "ContestRows" 106 y_Rules_timesPart b_Rules_timesPart 1 (some .boolean) 0 := ⟨kb_Rules_timesPart, kn_Rules, km_Top_106, by decide +kernel⟩
theorem ki_Rules_timesPart : Cond.instanceMethod y_Rules_timesPart ∈ TBL := TBL_t (List.mem_append_right _ (List.mem_append_left _ (List.mem_of_getElem? (i := 170) rfl))) rfl
theorem ks_Rules_timesPart : Cond.selects "ContestRows$Rules" y_Rules_timesPart y_Rules_timesPart ∈ TBL := TBL_t (List.mem_append_right _ (List.mem_append_left _ (List.mem_of_getElem? (i := 171) rfl))) rfl
theorem km_Top_130 : Cond.methodLink "ContestRows" 130 y_Persons_alike ∈ TBL := TBL_t (List.mem_append_right _ (List.mem_append_left _ (List.mem_of_getElem? (i := 206) rfl))) rfl
theorem cw_Top_130 : Cw "ContestRows" 130 y_Persons_alike b_Persons_alike 4 (some .boolean) 3 := ⟨kb_Persons_alike, kn_Persons, km_Top_130, by decide +kernel⟩
set_option maxHeartbeats 4000000 in
set_option maxRecDepth 100000 in
theorem c_Top_shared_ok (l : Launch) (G : va_G) (cI cZ cJ : ClassId) (h : Nat → Nat) (wr : Nat → Nat) (se : Nat → Bool) (ga : Nat → Option Nat) (tw : Nat → Option Nat) (np : Nat) (tot : Nat) (gr : Nat → Nat) (fa : Nat → Nat) (re : Nat → Bool) (ss : Nat → Nat) (sc : Nat → Nat) (ne : Nat) (stt : Nat → Option Nat) (sco : Nat → Nat) (tim : Nat → Nat) (cnt : Nat → Nat) (ns : Nat) (sp : Nat → Nat) (sq : Nat → Nat) (sec : Nat → Nat) (rt : Nat → Bool) (it : Nat → Nat) (ans : Nat → Nat) (tl : Nat) (un : Nat → Nat) (nw : Nat → Nat) (td : Nat → Nat) (x : Nat) (y : Nat) (hx0 : x < ne) (hy0 : y < ne) (hI : IS np ne ns gr nw sp sq sec it ans stt) (hsc : ∀ i, i < 20 → (woF gr nw sp sq sec it rt stt ns y (woF gr nw sp sq sec it rt stt ns x (wr, se, ga, sco, tim, cnt))).2.2.2.1 i < 2 ^ 63) (htm : ∀ i, i < 20 → (woF gr nw sp sq sec it rt stt ns y (woF gr nw sp sq sec it rt stt ns x (wr, se, ga, sco, tim, cnt))).2.2.2.2.1 i < 2 ^ 63) : Ct l G (tyL cI cZ cJ) y_Top_shared b_Top_shared 3 (some .boolean) (rmL 4) [.ref (h 0), .int (nI x), .int (nI y)] (w_All h cI cZ cJ wr se ga tw np tot gr fa re ss sc ne stt sco tim cnt ns sp sq sec rt it ans tl un nw td) (some (.int (bI (alk (woF gr nw sp sq sec it rt stt ns y (woF gr nw sp sq sec it rt stt ns x (wr, se, ga, sco, tim, cnt))).2.2.2.1 (woF gr nw sp sq sec it rt stt ns y (woF gr nw sp sq sec it rt stt ns x (wr, se, ga, sco, tim, cnt))).2.2.2.2.1 (decide (nw 4 = 1)) x y)))) (w_All h cI cZ cJ ((woF gr nw sp sq sec it rt stt ns y (woF gr nw sp sq sec it rt stt ns x (wr, se, ga, sco, tim, cnt))).1) ((woF gr nw sp sq sec it rt stt ns y (woF gr nw sp sq sec it rt stt ns x (wr, se, ga, sco, tim, cnt))).2.1) ((woF gr nw sp sq sec it rt stt ns y (woF gr nw sp sq sec it rt stt ns x (wr, se, ga, sco, tim, cnt))).2.2.1) tw np tot gr fa re ss sc ne stt ((woF gr nw sp sq sec it rt stt ns y (woF gr nw sp sq sec it rt stt ns x (wr, se, ga, sco, tim, cnt))).2.2.2.1) ((woF gr nw sp sq sec it rt stt ns y (woF gr nw sp sq sec it rt stt ns x (wr, se, ga, sco, tim, cnt))).2.2.2.2.1) ((woF gr nw sp sq sec it rt stt ns y (woF gr nw sp sq sec it rt stt ns x (wr, se, ga, sco, tim, cnt))).2.2.2.2.2) ns sp sq sec rt it ans tl un nw td) := by
  refine M_start (by decide) (Nat.le_of_ble_eq_true rfl) ?_
  intro p e s m args below meth c A Q ls X Y hW hl
  have hx := X.1.1
  have hb := X.1.2.1
  have hl : lv_has ls 3 [(0, .ref (h 0)), (1, .int (nI x)), (2, .int (nI y))] := hl
  obtain ⟨z1, z2, z3, z4, z5, z6, z7, z8, z9, z10, z11, z12, z13⟩ := id hI
  refine lv_aload_n hx hb d_Top_shared_0 rfl (lv_at hl 0 rfl) ?_
  refine R_get X hW i_Top rfl 1 (by decide) kf_Top_19 0 rfl rfl d_Top_shared_1 ?_
  refine lv_iload_n hx hb d_Top_shared_4 rfl (lv_at hl 1 rfl) ?_
  refine R_callV (q0 := 11) (c_Persons_has l G cI cZ cJ h ne stt sco tim cnt (nI x) (by omega)) X rfl hW cw_Top_76 ki_Persons_has ks_Persons_has rfl rfl ⟨rfl, rfl⟩ ⟨by decide, by decide⟩ ⟨Nat.zero_le _, Nat.zero_le _⟩ [false, false, false, false, false, false, false, false, false, false, false, true, true, true, true, true, false, false, false, false, false, false, false, false, false, false, false, false] rfl (Nat.le_of_ble_eq_true rfl) rfl rfl hl.1 rfl rfl (Nat.le_of_ble_eq_true rfl) d_Top_shared_5 rfl (fun H locs hW => ?_)
  have hW : Wr G A s.heap (w_All h cI cZ cJ wr se ga tw np tot gr fa re ss sc ne stt sco tim cnt ns sp sq sec rt it ans tl un nw td) H locs := hW
  refine N_if_eq_B hx hb  (tgt := 22) d_Top_shared_8 (by decide) (fun c8 => ?_) (fun c8 => ?_)
  · exfalso; rw [inB_nI (by omega) (by omega)] at c8; cases c8
  · refine lv_aload_n hx hb d_Top_shared_11 rfl (lv_at hl 0 rfl) ?_
    refine R_get X hW i_Top rfl 1 (by decide) kf_Top_19 0 rfl rfl d_Top_shared_12 ?_
    refine lv_iload_n hx hb d_Top_shared_15 rfl (lv_at hl 2 rfl) ?_
    refine R_callV (q0 := 11) (c_Persons_has l G cI cZ cJ h ne stt sco tim cnt (nI y) (by omega)) X rfl hW cw_Top_76 ki_Persons_has ks_Persons_has rfl rfl ⟨rfl, rfl⟩ ⟨by decide, by decide⟩ ⟨Nat.zero_le _, Nat.zero_le _⟩ [false, false, false, false, false, false, false, false, false, false, false, true, true, true, true, true, false, false, false, false, false, false, false, false, false, false, false, false] rfl (Nat.le_of_ble_eq_true rfl) rfl rfl hl.1 rfl rfl (Nat.le_of_ble_eq_true rfl) d_Top_shared_16 rfl (fun H locs hW => ?_)
    have hW : Wr G A s.heap (w_All h cI cZ cJ wr se ga tw np tot gr fa re ss sc ne stt sco tim cnt ns sp sq sec rt it ans tl un nw td) H locs := hW
    refine N_if_ne_B hx hb  (tgt := 24) d_Top_shared_19 (by decide) (fun c19 => ?_) (fun c19 => ?_)
    · refine lv_aload_n hx hb d_Top_shared_24 rfl (lv_at hl 0 rfl) ?_
      refine lv_iload_n hx hb d_Top_shared_25 rfl (lv_at hl 1 rfl) ?_
      refine R_callV (q0 := 0) (c_Top_workOut l G cI cZ cJ h wr se ga tw np tot gr fa re ss sc ne stt sco tim cnt ns sp sq sec rt it ans tl un nw td x (by omega) hI) X rfl hW cw_Top_114 ki_Top_workOut ks_Top_workOut rfl rfl ⟨rfl, rfl⟩ ⟨by decide, by decide⟩ ⟨Nat.zero_le _, Nat.zero_le _⟩ [true, true, true, true, true, true, true, true, true, true, true, true, true, true, true, true, true, true, true, true, true, true, true, true, true, true, true, true] rfl (Nat.le_of_ble_eq_true rfl) rfl rfl hl.1 rfl rfl (Nat.le_of_ble_eq_true rfl) d_Top_shared_26 rfl (fun H locs hW => ?_)
      have hW : Wr G A s.heap (w_All h cI cZ cJ ((woF gr nw sp sq sec it rt stt ns x (wr, se, ga, sco, tim, cnt)).1) ((woF gr nw sp sq sec it rt stt ns x (wr, se, ga, sco, tim, cnt)).2.1) ((woF gr nw sp sq sec it rt stt ns x (wr, se, ga, sco, tim, cnt)).2.2.1) tw np tot gr fa re ss sc ne stt ((woF gr nw sp sq sec it rt stt ns x (wr, se, ga, sco, tim, cnt)).2.2.2.1) ((woF gr nw sp sq sec it rt stt ns x (wr, se, ga, sco, tim, cnt)).2.2.2.2.1) ((woF gr nw sp sq sec it rt stt ns x (wr, se, ga, sco, tim, cnt)).2.2.2.2.2) ns sp sq sec rt it ans tl un nw td) H locs := hW
      obtain ⟨u1, hu1⟩ : ∃ u, u = woF gr nw sp sq sec it rt stt ns x (wr, se, ga, sco, tim, cnt) := ⟨_, rfl⟩
      rw [← hu1] at hW hsc htm
      have hW : Wr G A s.heap (w_All h cI cZ cJ u1.1 u1.2.1 u1.2.2.1 tw np tot gr fa re ss sc ne stt u1.2.2.2.1 u1.2.2.2.2.1 u1.2.2.2.2.2 ns sp sq sec rt it ans tl un nw td) H locs := hW
      refine lv_aload_n hx hb d_Top_shared_29 rfl (lv_at hl 0 rfl) ?_
      refine lv_iload_n hx hb d_Top_shared_30 rfl (lv_at hl 2 rfl) ?_
      refine R_callV (q0 := 0) (c_Top_workOut l G cI cZ cJ h u1.1 u1.2.1 u1.2.2.1 tw np tot gr fa re ss sc ne stt u1.2.2.2.1 u1.2.2.2.2.1 u1.2.2.2.2.2 ns sp sq sec rt it ans tl un nw td y (by omega) hI) X rfl hW cw_Top_114 ki_Top_workOut ks_Top_workOut rfl rfl ⟨rfl, rfl⟩ ⟨by decide, by decide⟩ ⟨Nat.zero_le _, Nat.zero_le _⟩ [true, true, true, true, true, true, true, true, true, true, true, true, true, true, true, true, true, true, true, true, true, true, true, true, true, true, true, true] rfl (Nat.le_of_ble_eq_true rfl) rfl rfl hl.1 rfl rfl (Nat.le_of_ble_eq_true rfl) d_Top_shared_31 rfl (fun H locs hW => ?_)
      have hW : Wr G A s.heap (w_All h cI cZ cJ ((woF gr nw sp sq sec it rt stt ns y (u1.1, u1.2.1, u1.2.2.1, u1.2.2.2.1, u1.2.2.2.2.1, u1.2.2.2.2.2)).1) ((woF gr nw sp sq sec it rt stt ns y (u1.1, u1.2.1, u1.2.2.1, u1.2.2.2.1, u1.2.2.2.2.1, u1.2.2.2.2.2)).2.1) ((woF gr nw sp sq sec it rt stt ns y (u1.1, u1.2.1, u1.2.2.1, u1.2.2.2.1, u1.2.2.2.2.1, u1.2.2.2.2.2)).2.2.1) tw np tot gr fa re ss sc ne stt ((woF gr nw sp sq sec it rt stt ns y (u1.1, u1.2.1, u1.2.2.1, u1.2.2.2.1, u1.2.2.2.2.1, u1.2.2.2.2.2)).2.2.2.1) ((woF gr nw sp sq sec it rt stt ns y (u1.1, u1.2.1, u1.2.2.1, u1.2.2.2.1, u1.2.2.2.2.1, u1.2.2.2.2.2)).2.2.2.2.1) ((woF gr nw sp sq sec it rt stt ns y (u1.1, u1.2.1, u1.2.2.1, u1.2.2.2.1, u1.2.2.2.2.1, u1.2.2.2.2.2)).2.2.2.2.2) ns sp sq sec rt it ans tl un nw td) H locs := hW
      rw [tk_eta] at hW
      obtain ⟨u2, hu2⟩ : ∃ u, u = woF gr nw sp sq sec it rt stt ns y u1 := ⟨_, rfl⟩
      rw [← hu2] at hW hsc htm
      have hW : Wr G A s.heap (w_All h cI cZ cJ u2.1 u2.2.1 u2.2.2.1 tw np tot gr fa re ss sc ne stt u2.2.2.2.1 u2.2.2.2.2.1 u2.2.2.2.2.2 ns sp sq sec rt it ans tl un nw td) H locs := hW
      refine lv_aload_n hx hb d_Top_shared_34 rfl (lv_at hl 0 rfl) ?_
      refine R_get X hW i_Top rfl 1 (by decide) kf_Top_19 0 rfl rfl d_Top_shared_35 ?_
      refine lv_iload_n hx hb d_Top_shared_38 rfl (lv_at hl 1 rfl) ?_
      refine lv_iload_n hx hb d_Top_shared_39 rfl (lv_at hl 2 rfl) ?_
      refine lv_aload_n hx hb d_Top_shared_40 rfl (lv_at hl 0 rfl) ?_
      refine R_get X hW i_Top rfl 4 (by decide) kf_Top_40 0 rfl rfl d_Top_shared_41 ?_
      refine R_callV (q0 := 25) (c_Rules_timesPart l G cI cZ cJ h nw td z5) X rfl hW cw_Top_106 ki_Rules_timesPart ks_Rules_timesPart rfl rfl ⟨rfl, rfl⟩ ⟨by decide, by decide⟩ ⟨Nat.zero_le _, Nat.zero_le _⟩ [false, false, false, false, false, false, false, false, false, false, false, false, false, false, false, false, false, false, false, false, false, false, false, false, false, true, true, true] rfl (Nat.le_of_ble_eq_true rfl) rfl rfl hl.1 rfl rfl (Nat.le_of_ble_eq_true rfl) d_Top_shared_44 rfl (fun H locs hW => ?_)
      have hW : Wr G A s.heap (w_All h cI cZ cJ u2.1 u2.2.1 u2.2.2.1 tw np tot gr fa re ss sc ne stt u2.2.2.2.1 u2.2.2.2.2.1 u2.2.2.2.2.2 ns sp sq sec rt it ans tl un nw td) H locs := hW
      refine R_callV (q0 := 11) (c_Persons_alike l G cI cZ cJ h ne stt u2.2.2.2.1 u2.2.2.2.2.1 u2.2.2.2.2.2 x y (decide (nw 4 = 1)) (by omega) (by omega) hsc htm) X rfl hW cw_Top_130 ki_Persons_alike ks_Persons_alike rfl rfl ⟨rfl, rfl⟩ ⟨by decide, by decide⟩ ⟨Nat.zero_le _, Nat.zero_le _⟩ [false, false, false, false, false, false, false, false, false, false, false, true, true, true, true, true, false, false, false, false, false, false, false, false, false, false, false, false] rfl (Nat.le_of_ble_eq_true rfl) rfl rfl hl.1 rfl rfl (Nat.le_of_ble_eq_true rfl) d_Top_shared_47 rfl (fun H locs hW => ?_)
      have hW : Wr G A s.heap (w_All h cI cZ cJ u2.1 u2.2.1 u2.2.2.1 tw np tot gr fa re ss sc ne stt u2.2.2.2.1 u2.2.2.2.2.1 u2.2.2.2.2.2 ns sp sq sec rt it ans tl un nw td) H locs := hW
      exact R_zret X Y hW (by rw [hu2, hu1]) (alk u2.2.2.2.1 u2.2.2.2.2.1 (decide (nw 4 = 1)) x y) rfl (by rw [hu2, hu1]) d_Top_shared_50
    · exfalso; rw [inB_nI (by omega) (by omega)] at c19; cases c19

theorem kb_Top_workOutAll : Cond.code y_Top_workOutAll b_Top_workOutAll 2 none ∈ TBL := TBL_t (List.mem_append_right _ (List.mem_append_left _ (List.mem_of_getElem? (i := 145) rfl))) rfl
theorem km_Top_103 : Cond.methodLink "ContestRows" 103 y_Top_workOutAll ∈ TBL := TBL_t (List.mem_append_right _ (List.mem_append_left _ (List.mem_of_getElem? (i := 142) rfl))) rfl
theorem cw_Top_103 : Cw "ContestRows" 103 y_Top_workOutAll b_Top_workOutAll 2 none 0 := ⟨kb_Top_workOutAll, kn_Top, km_Top_103, by decide +kernel⟩
theorem ki_Top_workOutAll : Cond.instanceMethod y_Top_workOutAll ∈ TBL := TBL_t (List.mem_append_right _ (List.mem_append_left _ (List.mem_of_getElem? (i := 144) rfl))) rfl
theorem ks_Top_workOutAll : Cond.selects "ContestRows" y_Top_workOutAll y_Top_workOutAll ∈ TBL := TBL_in (List.mem_append_left _ (List.mem_map.mpr ⟨(y_Top_workOutAll, 9), by decide +kernel, rfl⟩)) rfl
theorem km_Top_110 : Cond.methodLink "ContestRows" 110 y_Persons_rankOf ∈ TBL := TBL_t (List.mem_append_right _ (List.mem_append_left _ (List.mem_of_getElem? (i := 173) rfl))) rfl
theorem cw_Top_110 : Cw "ContestRows" 110 y_Persons_rankOf b_Persons_rankOf 5 (some .int) 2 := ⟨kb_Persons_rankOf, kn_Persons, km_Top_110, by decide +kernel⟩
set_option maxHeartbeats 4000000 in
set_option maxRecDepth 100000 in
theorem c_Top_score_3 (l : Launch) (G : va_G) (cI cZ cJ : ClassId) (h : Nat → Nat) (wr : Nat → Nat) (se : Nat → Bool) (ga : Nat → Option Nat) (tw : Nat → Option Nat) (np : Nat) (tot : Nat) (gr : Nat → Nat) (fa : Nat → Nat) (re : Nat → Bool) (ss : Nat → Nat) (sc : Nat → Nat) (ne : Nat) (stt : Nat → Option Nat) (sco : Nat → Nat) (tim : Nat → Nat) (cnt : Nat → Nat) (ns : Nat) (sp : Nat → Nat) (sq : Nat → Nat) (sec : Nat → Nat) (rt : Nat → Bool) (it : Nat → Nat) (ans : Nat → Nat) (tl : Nat) (un : Nat → Nat) (nw : Nat → Nat) (td : Nat → Nat) (x : Nat) (w : Nat) (hx0 : x < ne) (hw0 : w = 3) (hI : IS np ne ns gr nw sp sq sec it ans stt) (hsc : ∀ i, i < 20 → (waF gr nw sp sq sec it rt stt ns ne (wr, se, ga, sco, tim, cnt)).2.2.2.1 i < 2 ^ 63) (htm : ∀ i, i < 20 → (waF gr nw sp sq sec it rt stt ns ne (wr, se, ga, sco, tim, cnt)).2.2.2.2.1 i < 2 ^ 63) : Ct l G (tyL cI cZ cJ) y_Top_score b_Top_score 3 (some .long) (rmL 5) [.ref (h 0), .int (nI x), .int (nI w)] (w_All h cI cZ cJ wr se ga tw np tot gr fa re ss sc ne stt sco tim cnt ns sp sq sec rt it ans tl un nw td) (some (.long (lN (1 + cntF (fun k => ahd (waF gr nw sp sq sec it rt stt ns ne (wr, se, ga, sco, tim, cnt)).2.2.2.1 (waF gr nw sp sq sec it rt stt ns ne (wr, se, ga, sco, tim, cnt)).2.2.2.2.1 (decide (nw 4 = 1)) k x) ne)))) (w_All h cI cZ cJ ((waF gr nw sp sq sec it rt stt ns ne (wr, se, ga, sco, tim, cnt)).1) ((waF gr nw sp sq sec it rt stt ns ne (wr, se, ga, sco, tim, cnt)).2.1) ((waF gr nw sp sq sec it rt stt ns ne (wr, se, ga, sco, tim, cnt)).2.2.1) tw np tot gr fa re ss sc ne stt ((waF gr nw sp sq sec it rt stt ns ne (wr, se, ga, sco, tim, cnt)).2.2.2.1) ((waF gr nw sp sq sec it rt stt ns ne (wr, se, ga, sco, tim, cnt)).2.2.2.2.1) ((waF gr nw sp sq sec it rt stt ns ne (wr, se, ga, sco, tim, cnt)).2.2.2.2.2) ns sp sq sec rt it ans tl un nw td) := by
  refine M_start (by decide) (Nat.le_of_ble_eq_true rfl) ?_
  intro p e s m args below meth c A Q ls X Y hW hl
  have hx := X.1.1
  have hb := X.1.2.1
  have hl : lv_has ls 3 [(0, .ref (h 0)), (1, .int (nI x)), (2, .int (nI w))] := hl
  obtain ⟨z1, z2, z3, z4, z5, z6, z7, z8, z9, z10, z11, z12, z13⟩ := id hI
  refine lv_aload_n hx hb d_Top_score_0 rfl (lv_at hl 0 rfl) ?_
  refine R_get X hW i_Top rfl 1 (by decide) kf_Top_19 0 rfl rfl d_Top_score_1 ?_
  refine lv_iload_n hx hb d_Top_score_4 rfl (lv_at hl 1 rfl) ?_
  refine R_callV (q0 := 11) (c_Persons_has l G cI cZ cJ h ne stt sco tim cnt (nI x) (by omega)) X rfl hW cw_Top_76 ki_Persons_has ks_Persons_has rfl rfl ⟨rfl, rfl⟩ ⟨by decide, by decide⟩ ⟨Nat.zero_le _, Nat.zero_le _⟩ [false, false, false, false, false, false, false, false, false, false, false, true, true, true, true, true, false, false, false, false, false, false, false, false, false, false, false, false] rfl (Nat.le_of_ble_eq_true rfl) rfl rfl hl.1 rfl rfl (Nat.le_of_ble_eq_true rfl) d_Top_score_5 rfl (fun H locs hW => ?_)
  have hW : Wr G A s.heap (w_All h cI cZ cJ wr se ga tw np tot gr fa re ss sc ne stt sco tim cnt ns sp sq sec rt it ans tl un nw td) H locs := hW
  refine N_if_eq_B hx hb  (tgt := 20) d_Top_score_8 (by decide) (fun c8 => ?_) (fun c8 => ?_)
  · exfalso; rw [inB_nI (by omega) (by omega)] at c8; cases c8
  · refine lv_iload_n hx hb d_Top_score_11 rfl (lv_at hl 2 rfl) ?_
    refine N_if_lt_N hx hb (by omega) (tgt := 20) d_Top_score_12 (by decide) (fun c12 => ?_) (fun c12 => ?_)
    · exfalso; omega
    · refine lv_iload_n hx hb d_Top_score_15 rfl (lv_at hl 2 rfl) ?_
      refine lv_iconst (v := (nI 3)) hx hb d_Top_score_16 (by decide +kernel) ?_
      refine N_icmp_le_NN hx hb (by omega) (by decide) (tgt := 24) d_Top_score_17 (by decide) (fun c17 => ?_) (fun c17 => ?_)
      · refine lv_iload_n hx hb d_Top_score_24 rfl (lv_at hl 2 rfl) ?_
        refine lv_iconst (v := (nI 3)) hx hb d_Top_score_25 (by decide +kernel) ?_
        refine N_icmp_ne_NN hx hb (by omega) (by decide) (tgt := 50) d_Top_score_26 (by decide) (fun c26 => ?_) (fun c26 => ?_)
        · exfalso; omega
        · refine lv_aload_n hx hb d_Top_score_29 rfl (lv_at hl 0 rfl) ?_
          refine R_callV (q0 := 0) (c_Top_workOutAll l G cI cZ cJ h wr se ga tw np tot gr fa re ss sc ne stt sco tim cnt ns sp sq sec rt it ans tl un nw td hI) X rfl hW cw_Top_103 ki_Top_workOutAll ks_Top_workOutAll rfl rfl ⟨rfl, rfl⟩ ⟨by decide, by decide⟩ ⟨Nat.zero_le _, Nat.zero_le _⟩ [true, true, true, true, true, true, true, true, true, true, true, true, true, true, true, true, true, true, true, true, true, true, true, true, true, true, true, true] rfl (Nat.le_of_ble_eq_true rfl) rfl rfl hl.1 rfl rfl (Nat.le_of_ble_eq_true rfl) d_Top_score_30 rfl (fun H locs hW => ?_)
          have hW : Wr G A s.heap (w_All h cI cZ cJ ((waF gr nw sp sq sec it rt stt ns ne (wr, se, ga, sco, tim, cnt)).1) ((waF gr nw sp sq sec it rt stt ns ne (wr, se, ga, sco, tim, cnt)).2.1) ((waF gr nw sp sq sec it rt stt ns ne (wr, se, ga, sco, tim, cnt)).2.2.1) tw np tot gr fa re ss sc ne stt ((waF gr nw sp sq sec it rt stt ns ne (wr, se, ga, sco, tim, cnt)).2.2.2.1) ((waF gr nw sp sq sec it rt stt ns ne (wr, se, ga, sco, tim, cnt)).2.2.2.2.1) ((waF gr nw sp sq sec it rt stt ns ne (wr, se, ga, sco, tim, cnt)).2.2.2.2.2) ns sp sq sec rt it ans tl un nw td) H locs := hW
          refine lv_aload_n hx hb d_Top_score_33 rfl (lv_at hl 0 rfl) ?_
          refine R_get X hW i_Top rfl 1 (by decide) kf_Top_19 0 rfl rfl d_Top_score_34 ?_
          refine lv_iload_n hx hb d_Top_score_37 rfl (lv_at hl 1 rfl) ?_
          refine lv_aload_n hx hb d_Top_score_38 rfl (lv_at hl 0 rfl) ?_
          refine R_get X hW i_Top rfl 4 (by decide) kf_Top_40 0 rfl rfl d_Top_score_39 ?_
          refine R_callV (q0 := 25) (c_Rules_timesPart l G cI cZ cJ h nw td z5) X rfl hW cw_Top_106 ki_Rules_timesPart ks_Rules_timesPart rfl rfl ⟨rfl, rfl⟩ ⟨by decide, by decide⟩ ⟨Nat.zero_le _, Nat.zero_le _⟩ [false, false, false, false, false, false, false, false, false, false, false, false, false, false, false, false, false, false, false, false, false, false, false, false, false, true, true, true] rfl (Nat.le_of_ble_eq_true rfl) rfl rfl hl.1 rfl rfl (Nat.le_of_ble_eq_true rfl) d_Top_score_42 rfl (fun H locs hW => ?_)
          have hW : Wr G A s.heap (w_All h cI cZ cJ ((waF gr nw sp sq sec it rt stt ns ne (wr, se, ga, sco, tim, cnt)).1) ((waF gr nw sp sq sec it rt stt ns ne (wr, se, ga, sco, tim, cnt)).2.1) ((waF gr nw sp sq sec it rt stt ns ne (wr, se, ga, sco, tim, cnt)).2.2.1) tw np tot gr fa re ss sc ne stt ((waF gr nw sp sq sec it rt stt ns ne (wr, se, ga, sco, tim, cnt)).2.2.2.1) ((waF gr nw sp sq sec it rt stt ns ne (wr, se, ga, sco, tim, cnt)).2.2.2.2.1) ((waF gr nw sp sq sec it rt stt ns ne (wr, se, ga, sco, tim, cnt)).2.2.2.2.2) ns sp sq sec rt it ans tl un nw td) H locs := hW
          refine R_callV (q0 := 11) (c_Persons_rankOf l G cI cZ cJ h ne stt ((waF gr nw sp sq sec it rt stt ns ne (wr, se, ga, sco, tim, cnt)).2.2.2.1) ((waF gr nw sp sq sec it rt stt ns ne (wr, se, ga, sco, tim, cnt)).2.2.2.2.1) ((waF gr nw sp sq sec it rt stt ns ne (wr, se, ga, sco, tim, cnt)).2.2.2.2.2) x (decide (nw 4 = 1)) (by omega) z2 hsc htm) X rfl hW cw_Top_110 ki_Persons_rankOf ks_Persons_rankOf rfl rfl ⟨rfl, rfl⟩ ⟨by decide, by decide⟩ ⟨Nat.zero_le _, Nat.zero_le _⟩ [false, false, false, false, false, false, false, false, false, false, false, true, true, true, true, true, false, false, false, false, false, false, false, false, false, false, false, false] rfl (Nat.le_of_ble_eq_true rfl) rfl rfl hl.1 rfl rfl (Nat.le_of_ble_eq_true rfl) d_Top_score_45 rfl (fun H locs hW => ?_)
          have hW : Wr G A s.heap (w_All h cI cZ cJ ((waF gr nw sp sq sec it rt stt ns ne (wr, se, ga, sco, tim, cnt)).1) ((waF gr nw sp sq sec it rt stt ns ne (wr, se, ga, sco, tim, cnt)).2.1) ((waF gr nw sp sq sec it rt stt ns ne (wr, se, ga, sco, tim, cnt)).2.2.1) tw np tot gr fa re ss sc ne stt ((waF gr nw sp sq sec it rt stt ns ne (wr, se, ga, sco, tim, cnt)).2.2.2.1) ((waF gr nw sp sq sec it rt stt ns ne (wr, se, ga, sco, tim, cnt)).2.2.2.2.1) ((waF gr nw sp sq sec it rt stt ns ne (wr, se, ga, sco, tim, cnt)).2.2.2.2.2) ns sp sq sec rt it ans tl un nw td) H locs := hW
          have y9 := cntF_le (fun k => ahd (waF gr nw sp sq sec it rt stt ns ne (wr, se, ga, sco, tim, cnt)).2.2.2.1 (waF gr nw sp sq sec it rt stt ns ne (wr, se, ga, sco, tim, cnt)).2.2.2.2.1 (decide (nw 4 = 1)) k x) ne
          refine N_i2l hx hb (by omega) d_Top_score_48 ?_
          exact R_lret X Y hW rfl rfl d_Top_score_49
      · exfalso; omega

theorem kb_Persons_inPlace : Cond.code y_Persons_inPlace b_Persons_inPlace 4 (some .int) ∈ TBL := TBL_t (List.mem_append_right _ (List.mem_append_left _ (List.mem_of_getElem? (i := 192) rfl))) rfl
theorem km_Top_127 : Cond.methodLink "ContestRows" 127 y_Persons_inPlace ∈ TBL := TBL_t (List.mem_append_right _ (List.mem_append_left _ (List.mem_of_getElem? (i := 189) rfl))) rfl
theorem cw_Top_127 : Cw "ContestRows" 127 y_Persons_inPlace b_Persons_inPlace 4 (some .int) 2 := ⟨kb_Persons_inPlace, kn_Persons, km_Top_127, by decide +kernel⟩
theorem ki_Persons_inPlace : Cond.instanceMethod y_Persons_inPlace ∈ TBL := TBL_t (List.mem_append_right _ (List.mem_append_left _ (List.mem_of_getElem? (i := 190) rfl))) rfl
theorem ks_Persons_inPlace : Cond.selects "ContestRows$Persons" y_Persons_inPlace y_Persons_inPlace ∈ TBL := TBL_t (List.mem_append_right _ (List.mem_append_left _ (List.mem_of_getElem? (i := 191) rfl))) rfl
set_option maxHeartbeats 4000000 in
set_option maxRecDepth 100000 in
theorem c_Top_place_ok (l : Launch) (G : va_G) (cI cZ cJ : ClassId) (h : Nat → Nat) (wr : Nat → Nat) (se : Nat → Bool) (ga : Nat → Option Nat) (tw : Nat → Option Nat) (np : Nat) (tot : Nat) (gr : Nat → Nat) (fa : Nat → Nat) (re : Nat → Bool) (ss : Nat → Nat) (sc : Nat → Nat) (ne : Nat) (stt : Nat → Option Nat) (sco : Nat → Nat) (tim : Nat → Nat) (cnt : Nat → Nat) (ns : Nat) (sp : Nat → Nat) (sq : Nat → Nat) (sec : Nat → Nat) (rt : Nat → Bool) (it : Nat → Nat) (ans : Nat → Nat) (tl : Nat) (un : Nat → Nat) (nw : Nat → Nat) (td : Nat → Nat) (x : Nat) (hx0 : x < ne) (hI : IS np ne ns gr nw sp sq sec it ans stt) (hsc : ∀ i, i < 20 → (waF gr nw sp sq sec it rt stt ns ne (wr, se, ga, sco, tim, cnt)).2.2.2.1 i < 2 ^ 63) (htm : ∀ i, i < 20 → (waF gr nw sp sq sec it rt stt ns ne (wr, se, ga, sco, tim, cnt)).2.2.2.2.1 i < 2 ^ 63) : Ct l G (tyL cI cZ cJ) y_Top_place b_Top_place 2 (some .int) (rmL 5) [.ref (h 0), .int (nI x)] (w_All h cI cZ cJ wr se ga tw np tot gr fa re ss sc ne stt sco tim cnt ns sp sq sec rt it ans tl un nw td) (some (.int (oI (fstG (fun q => decide (hmb (waF gr nw sp sq sec it rt stt ns ne (wr, se, ga, sco, tim, cnt)).2.2.2.1 (waF gr nw sp sq sec it rt stt ns ne (wr, se, ga, sco, tim, cnt)).2.2.2.2.1 ne (decide (nw 4 = 1)) q = x)) ne 0)))) (w_All h cI cZ cJ ((waF gr nw sp sq sec it rt stt ns ne (wr, se, ga, sco, tim, cnt)).1) ((waF gr nw sp sq sec it rt stt ns ne (wr, se, ga, sco, tim, cnt)).2.1) ((waF gr nw sp sq sec it rt stt ns ne (wr, se, ga, sco, tim, cnt)).2.2.1) tw np tot gr fa re ss sc ne stt ((waF gr nw sp sq sec it rt stt ns ne (wr, se, ga, sco, tim, cnt)).2.2.2.1) ((waF gr nw sp sq sec it rt stt ns ne (wr, se, ga, sco, tim, cnt)).2.2.2.2.1) ((waF gr nw sp sq sec it rt stt ns ne (wr, se, ga, sco, tim, cnt)).2.2.2.2.2) ns sp sq sec rt it ans tl un nw td) := by
  refine M_start (by decide) (Nat.le_of_ble_eq_true rfl) ?_
  intro p e s m args below meth c A Q ls X Y hW hl
  have hx := X.1.1
  have hb := X.1.2.1
  have hl : lv_has ls 2 [(0, .ref (h 0)), (1, .int (nI x))] := hl
  obtain ⟨z1, z2, z3, z4, z5, z6, z7, z8, z9, z10, z11, z12, z13⟩ := id hI
  refine lv_aload_n hx hb d_Top_place_0 rfl (lv_at hl 0 rfl) ?_
  refine R_get X hW i_Top rfl 1 (by decide) kf_Top_19 0 rfl rfl d_Top_place_1 ?_
  refine lv_iload_n hx hb d_Top_place_4 rfl (lv_at hl 1 rfl) ?_
  refine R_callV (q0 := 11) (c_Persons_has l G cI cZ cJ h ne stt sco tim cnt (nI x) (by omega)) X rfl hW cw_Top_76 ki_Persons_has ks_Persons_has rfl rfl ⟨rfl, rfl⟩ ⟨by decide, by decide⟩ ⟨Nat.zero_le _, Nat.zero_le _⟩ [false, false, false, false, false, false, false, false, false, false, false, true, true, true, true, true, false, false, false, false, false, false, false, false, false, false, false, false] rfl (Nat.le_of_ble_eq_true rfl) rfl rfl hl.1 rfl rfl (Nat.le_of_ble_eq_true rfl) d_Top_place_5 rfl (fun H locs hW => ?_)
  have hW : Wr G A s.heap (w_All h cI cZ cJ wr se ga tw np tot gr fa re ss sc ne stt sco tim cnt ns sp sq sec rt it ans tl un nw td) H locs := hW
  refine N_if_ne_B hx hb  (tgt := 13) d_Top_place_8 (by decide) (fun c8 => ?_) (fun c8 => ?_)
  · refine lv_aload_n hx hb d_Top_place_13 rfl (lv_at hl 0 rfl) ?_
    refine R_callV (q0 := 0) (c_Top_workOutAll l G cI cZ cJ h wr se ga tw np tot gr fa re ss sc ne stt sco tim cnt ns sp sq sec rt it ans tl un nw td hI) X rfl hW cw_Top_103 ki_Top_workOutAll ks_Top_workOutAll rfl rfl ⟨rfl, rfl⟩ ⟨by decide, by decide⟩ ⟨Nat.zero_le _, Nat.zero_le _⟩ [true, true, true, true, true, true, true, true, true, true, true, true, true, true, true, true, true, true, true, true, true, true, true, true, true, true, true, true] rfl (Nat.le_of_ble_eq_true rfl) rfl rfl hl.1 rfl rfl (Nat.le_of_ble_eq_true rfl) d_Top_place_14 rfl (fun H locs hW => ?_)
    have hW : Wr G A s.heap (w_All h cI cZ cJ ((waF gr nw sp sq sec it rt stt ns ne (wr, se, ga, sco, tim, cnt)).1) ((waF gr nw sp sq sec it rt stt ns ne (wr, se, ga, sco, tim, cnt)).2.1) ((waF gr nw sp sq sec it rt stt ns ne (wr, se, ga, sco, tim, cnt)).2.2.1) tw np tot gr fa re ss sc ne stt ((waF gr nw sp sq sec it rt stt ns ne (wr, se, ga, sco, tim, cnt)).2.2.2.1) ((waF gr nw sp sq sec it rt stt ns ne (wr, se, ga, sco, tim, cnt)).2.2.2.2.1) ((waF gr nw sp sq sec it rt stt ns ne (wr, se, ga, sco, tim, cnt)).2.2.2.2.2) ns sp sq sec rt it ans tl un nw td) H locs := hW
    refine lv_aload_n hx hb d_Top_place_17 rfl (lv_at hl 0 rfl) ?_
    refine R_get X hW i_Top rfl 1 (by decide) kf_Top_19 0 rfl rfl d_Top_place_18 ?_
    refine lv_iload_n hx hb d_Top_place_21 rfl (lv_at hl 1 rfl) ?_
    refine lv_aload_n hx hb d_Top_place_22 rfl (lv_at hl 0 rfl) ?_
    refine R_get X hW i_Top rfl 4 (by decide) kf_Top_40 0 rfl rfl d_Top_place_23 ?_
    refine R_callV (q0 := 25) (c_Rules_timesPart l G cI cZ cJ h nw td z5) X rfl hW cw_Top_106 ki_Rules_timesPart ks_Rules_timesPart rfl rfl ⟨rfl, rfl⟩ ⟨by decide, by decide⟩ ⟨Nat.zero_le _, Nat.zero_le _⟩ [false, false, false, false, false, false, false, false, false, false, false, false, false, false, false, false, false, false, false, false, false, false, false, false, false, true, true, true] rfl (Nat.le_of_ble_eq_true rfl) rfl rfl hl.1 rfl rfl (Nat.le_of_ble_eq_true rfl) d_Top_place_26 rfl (fun H locs hW => ?_)
    have hW : Wr G A s.heap (w_All h cI cZ cJ ((waF gr nw sp sq sec it rt stt ns ne (wr, se, ga, sco, tim, cnt)).1) ((waF gr nw sp sq sec it rt stt ns ne (wr, se, ga, sco, tim, cnt)).2.1) ((waF gr nw sp sq sec it rt stt ns ne (wr, se, ga, sco, tim, cnt)).2.2.1) tw np tot gr fa re ss sc ne stt ((waF gr nw sp sq sec it rt stt ns ne (wr, se, ga, sco, tim, cnt)).2.2.2.1) ((waF gr nw sp sq sec it rt stt ns ne (wr, se, ga, sco, tim, cnt)).2.2.2.2.1) ((waF gr nw sp sq sec it rt stt ns ne (wr, se, ga, sco, tim, cnt)).2.2.2.2.2) ns sp sq sec rt it ans tl un nw td) H locs := hW
    refine R_callV (q0 := 11) (c_Persons_inPlace l G cI cZ cJ h ne stt ((waF gr nw sp sq sec it rt stt ns ne (wr, se, ga, sco, tim, cnt)).2.2.2.1) ((waF gr nw sp sq sec it rt stt ns ne (wr, se, ga, sco, tim, cnt)).2.2.2.2.1) ((waF gr nw sp sq sec it rt stt ns ne (wr, se, ga, sco, tim, cnt)).2.2.2.2.2) x (decide (nw 4 = 1)) (by omega) z2 hsc htm) X rfl hW cw_Top_127 ki_Persons_inPlace ks_Persons_inPlace rfl rfl ⟨rfl, rfl⟩ ⟨by decide, by decide⟩ ⟨Nat.zero_le _, Nat.zero_le _⟩ [false, false, false, false, false, false, false, false, false, false, false, true, true, true, true, true, false, false, false, false, false, false, false, false, false, false, false, false] rfl (Nat.le_of_ble_eq_true rfl) rfl rfl hl.1 rfl rfl (Nat.le_of_ble_eq_true rfl) d_Top_place_29 rfl (fun H locs hW => ?_)
    have hW : Wr G A s.heap (w_All h cI cZ cJ ((waF gr nw sp sq sec it rt stt ns ne (wr, se, ga, sco, tim, cnt)).1) ((waF gr nw sp sq sec it rt stt ns ne (wr, se, ga, sco, tim, cnt)).2.1) ((waF gr nw sp sq sec it rt stt ns ne (wr, se, ga, sco, tim, cnt)).2.2.1) tw np tot gr fa re ss sc ne stt ((waF gr nw sp sq sec it rt stt ns ne (wr, se, ga, sco, tim, cnt)).2.2.2.1) ((waF gr nw sp sq sec it rt stt ns ne (wr, se, ga, sco, tim, cnt)).2.2.2.2.1) ((waF gr nw sp sq sec it rt stt ns ne (wr, se, ga, sco, tim, cnt)).2.2.2.2.2) ns sp sq sec rt it ans tl un nw td) H locs := hW
    exact R_iret X Y hW rfl rfl d_Top_place_32
  · exfalso; rw [inB_nI (by omega) (by omega)] at c8; cases c8
