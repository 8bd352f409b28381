theorem kf_Model_64 : Cond.fieldLink "ContestRowsModel" 64 "ContestRowsModel" "puzzles" "I" ∈ TBL := TBL_t (List.mem_append_right _ (List.mem_append_right _ (List.mem_of_getElem? (i := 18) rfl))) rfl
set_option maxHeartbeats 4000000 in
set_option maxRecDepth 100000 in
theorem m_isPuzzle (l : Launch) (G : va_G) (cI cZ cJ : ClassId) (hm : Nat → Nat) (mth : Nat) (np : Nat) (ne : Nat) (ns : Nat) (tl : Nat) (mbd : Option Nat) (gr : Nat → Nat) (stt : Nat → Option Nat) (sp : Nat → Nat) (sq : Nat → Nat) (sec : Nat → Nat) (ans : Nat → Nat) (rt : Nat → Bool) (nw : Nat → Nat) (mtd : Nat → Nat) (un : Nat → Nat) (mss : Nat → Nat) (msc : Nat → Nat) (mip : Nat → Bool) (mcb : Nat → Bool) (msco : Nat → Nat) (mtim : Nat → Nat) (x : Int32) (hn : np ≤ 300) : Ct l G (tyL cI cZ cJ) y_Model_isPuzzle b_Model_isPuzzle 2 (some .boolean) (rmL 0) [.ref (hm 0), .int x] (w_M hm cI cZ cJ mth np ne ns tl mbd gr stt sp sq sec ans rt nw mtd un mss msc mip mcb msco mtim) (some (.int (bI (inB x np)))) (w_M hm cI cZ cJ mth np ne ns tl mbd gr stt sp sq sec ans rt nw mtd un mss msc mip mcb msco mtim) := by
  refine M_start (by decide) (Nat.le_of_ble_eq_true rfl) ?_
  intro p e s m args below meth c A Q ls X Y hW hl
  have hx := X.1.1
  have hb := X.1.2.1
  have hl : lv_has ls 2 [(0, .ref (hm 0)), (1, .int x)] := hl
  refine lv_iload_n hx hb d_Model_isPuzzle_0 rfl (lv_at hl 1 rfl) ?_
  refine N_if_lt_R hx hb  (tgt := 16) d_Model_isPuzzle_1 (by decide) (fun c1 => ?_) (fun c1 => ?_)
  · refine lv_iconst (v := (nI 0)) hx hb d_Model_isPuzzle_16 (by decide +kernel) ?_
    exact R_zret X Y hW rfl false (by decide +kernel) (by rw [inB_f (by omega)]) d_Model_isPuzzle_17
  · refine lv_iload_n hx hb d_Model_isPuzzle_4 rfl (lv_at hl 1 rfl) ?_
    refine lv_aload_n hx hb d_Model_isPuzzle_5 rfl (lv_at hl 0 rfl) ?_
    refine R_get X hW i_Model rfl 1 (by decide) kf_Model_64 0 rfl rfl d_Model_isPuzzle_6 ?_
    refine N_icmp_ge_RN hx hb (by omega) (tgt := 16) d_Model_isPuzzle_9 (by decide) (fun c9 => ?_) (fun c9 => ?_)
    · refine lv_iconst (v := (nI 0)) hx hb d_Model_isPuzzle_16 (by decide +kernel) ?_
      exact R_zret X Y hW rfl false (by decide +kernel) (by rw [inB_f (by omega)]) d_Model_isPuzzle_17
    · refine lv_iconst (v := (nI 1)) hx hb d_Model_isPuzzle_12 (by decide +kernel) ?_
      refine lv_goto (tgt := 17) hx hb d_Model_isPuzzle_13 (by decide) ?_
      exact R_zret X Y hW rfl true (by decide +kernel) (by rw [inB_t (by omega)]) d_Model_isPuzzle_17

theorem kf_Model_67 : Cond.fieldLink "ContestRowsModel" 67 "ContestRowsModel" "persons" "I" ∈ TBL := TBL_t (List.mem_append_right _ (List.mem_append_right _ (List.mem_of_getElem? (i := 19) rfl))) rfl
set_option maxHeartbeats 4000000 in
set_option maxRecDepth 100000 in
theorem m_isPerson (l : Launch) (G : va_G) (cI cZ cJ : ClassId) (hm : Nat → Nat) (mth : Nat) (np : Nat) (ne : Nat) (ns : Nat) (tl : Nat) (mbd : Option Nat) (gr : Nat → Nat) (stt : Nat → Option Nat) (sp : Nat → Nat) (sq : Nat → Nat) (sec : Nat → Nat) (ans : Nat → Nat) (rt : Nat → Bool) (nw : Nat → Nat) (mtd : Nat → Nat) (un : Nat → Nat) (mss : Nat → Nat) (msc : Nat → Nat) (mip : Nat → Bool) (mcb : Nat → Bool) (msco : Nat → Nat) (mtim : Nat → Nat) (x : Int32) (hn : ne ≤ 300) : Ct l G (tyL cI cZ cJ) y_Model_isPerson b_Model_isPerson 2 (some .boolean) (rmL 0) [.ref (hm 0), .int x] (w_M hm cI cZ cJ mth np ne ns tl mbd gr stt sp sq sec ans rt nw mtd un mss msc mip mcb msco mtim) (some (.int (bI (inB x ne)))) (w_M hm cI cZ cJ mth np ne ns tl mbd gr stt sp sq sec ans rt nw mtd un mss msc mip mcb msco mtim) := by
  refine M_start (by decide) (Nat.le_of_ble_eq_true rfl) ?_
  intro p e s m args below meth c A Q ls X Y hW hl
  have hx := X.1.1
  have hb := X.1.2.1
  have hl : lv_has ls 2 [(0, .ref (hm 0)), (1, .int x)] := hl
  refine lv_iload_n hx hb d_Model_isPerson_0 rfl (lv_at hl 1 rfl) ?_
  refine N_if_lt_R hx hb  (tgt := 16) d_Model_isPerson_1 (by decide) (fun c1 => ?_) (fun c1 => ?_)
  · refine lv_iconst (v := (nI 0)) hx hb d_Model_isPerson_16 (by decide +kernel) ?_
    exact R_zret X Y hW rfl false (by decide +kernel) (by rw [inB_f (by omega)]) d_Model_isPerson_17
  · refine lv_iload_n hx hb d_Model_isPerson_4 rfl (lv_at hl 1 rfl) ?_
    refine lv_aload_n hx hb d_Model_isPerson_5 rfl (lv_at hl 0 rfl) ?_
    refine R_get X hW i_Model rfl 2 (by decide) kf_Model_67 0 rfl rfl d_Model_isPerson_6 ?_
    refine N_icmp_ge_RN hx hb (by omega) (tgt := 16) d_Model_isPerson_9 (by decide) (fun c9 => ?_) (fun c9 => ?_)
    · refine lv_iconst (v := (nI 0)) hx hb d_Model_isPerson_16 (by decide +kernel) ?_
      exact R_zret X Y hW rfl false (by decide +kernel) (by rw [inB_f (by omega)]) d_Model_isPerson_17
    · refine lv_iconst (v := (nI 1)) hx hb d_Model_isPerson_12 (by decide +kernel) ?_
      refine lv_goto (tgt := 17) hx hb d_Model_isPerson_13 (by decide) ?_
      exact R_zret X Y hW rfl true (by decide +kernel) (by rw [inB_t (by omega)]) d_Model_isPerson_17

theorem kf_Model_70 : Cond.fieldLink "ContestRowsModel" 70 "ContestRowsModel" "many" "I" ∈ TBL := TBL_t (List.mem_append_right _ (List.mem_append_right _ (List.mem_of_getElem? (i := 20) rfl))) rfl
set_option maxHeartbeats 4000000 in
set_option maxRecDepth 100000 in
theorem m_isRow (l : Launch) (G : va_G) (cI cZ cJ : ClassId) (hm : Nat → Nat) (mth : Nat) (np : Nat) (ne : Nat) (ns : Nat) (tl : Nat) (mbd : Option Nat) (gr : Nat → Nat) (stt : Nat → Option Nat) (sp : Nat → Nat) (sq : Nat → Nat) (sec : Nat → Nat) (ans : Nat → Nat) (rt : Nat → Bool) (nw : Nat → Nat) (mtd : Nat → Nat) (un : Nat → Nat) (mss : Nat → Nat) (msc : Nat → Nat) (mip : Nat → Bool) (mcb : Nat → Bool) (msco : Nat → Nat) (mtim : Nat → Nat) (x : Int32) (hn : ns ≤ 300) : Ct l G (tyL cI cZ cJ) y_Model_isRow b_Model_isRow 2 (some .boolean) (rmL 0) [.ref (hm 0), .int x] (w_M hm cI cZ cJ mth np ne ns tl mbd gr stt sp sq sec ans rt nw mtd un mss msc mip mcb msco mtim) (some (.int (bI (inB x ns)))) (w_M hm cI cZ cJ mth np ne ns tl mbd gr stt sp sq sec ans rt nw mtd un mss msc mip mcb msco mtim) := by
  refine M_start (by decide) (Nat.le_of_ble_eq_true rfl) ?_
  intro p e s m args below meth c A Q ls X Y hW hl
  have hx := X.1.1
  have hb := X.1.2.1
  have hl : lv_has ls 2 [(0, .ref (hm 0)), (1, .int x)] := hl
  refine lv_iload_n hx hb d_Model_isRow_0 rfl (lv_at hl 1 rfl) ?_
  refine N_if_lt_R hx hb  (tgt := 16) d_Model_isRow_1 (by decide) (fun c1 => ?_) (fun c1 => ?_)
  · refine lv_iconst (v := (nI 0)) hx hb d_Model_isRow_16 (by decide +kernel) ?_
    exact R_zret X Y hW rfl false (by decide +kernel) (by rw [inB_f (by omega)]) d_Model_isRow_17
  · refine lv_iload_n hx hb d_Model_isRow_4 rfl (lv_at hl 1 rfl) ?_
    refine lv_aload_n hx hb d_Model_isRow_5 rfl (lv_at hl 0 rfl) ?_
    refine R_get X hW i_Model rfl 3 (by decide) kf_Model_70 0 rfl rfl d_Model_isRow_6 ?_
    refine N_icmp_ge_RN hx hb (by omega) (tgt := 16) d_Model_isRow_9 (by decide) (fun c9 => ?_) (fun c9 => ?_)
    · refine lv_iconst (v := (nI 0)) hx hb d_Model_isRow_16 (by decide +kernel) ?_
      exact R_zret X Y hW rfl false (by decide +kernel) (by rw [inB_f (by omega)]) d_Model_isRow_17
    · refine lv_iconst (v := (nI 1)) hx hb d_Model_isRow_12 (by decide +kernel) ?_
      refine lv_goto (tgt := 17) hx hb d_Model_isRow_13 (by decide) ?_
      exact R_zret X Y hW rfl true (by decide +kernel) (by rw [inB_t (by omega)]) d_Model_isRow_17

theorem kf_Model_60 : Cond.fieldLink "ContestRowsModel" 60 "ContestRowsModel" "thrown" "I" ∈ TBL := TBL_t (List.mem_append_right _ (List.mem_append_right _ (List.mem_of_getElem? (i := 17) rfl))) rfl
theorem kf_Model_7 : Cond.fieldLink "ContestRowsModel" 7 "ContestRowsModel" "grades" "[I" ∈ TBL := TBL_t (List.mem_append_right _ (List.mem_append_right _ (List.mem_of_getElem? (i := 21) rfl))) rfl
set_option maxHeartbeats 4000000 in
set_option maxRecDepth 100000 in
theorem m_puzzle_ok (l : Launch) (G : va_G) (cI cZ cJ : ClassId) (hm : Nat → Nat) (mth : Nat) (np : Nat) (ne : Nat) (ns : Nat) (tl : Nat) (mbd : Option Nat) (gr : Nat → Nat) (stt : Nat → Option Nat) (sp : Nat → Nat) (sq : Nat → Nat) (sec : Nat → Nat) (ans : Nat → Nat) (rt : Nat → Bool) (nw : Nat → Nat) (mtd : Nat → Nat) (un : Nat → Nat) (mss : Nat → Nat) (msc : Nat → Nat) (mip : Nat → Bool) (mcb : Nat → Bool) (msco : Nat → Nat) (mtim : Nat → Nat) (g : Nat) (hg : 1 ≤ g ∧ g ≤ 100) (hn : np < 20) : Ct l G (tyL cI cZ cJ) y_Model_puzzle b_Model_puzzle 2 (some .int) (rmL 0) [.ref (hm 0), .int (nI g)] (w_M hm cI cZ cJ mth np ne ns tl mbd gr stt sp sq sec ans rt nw mtd un mss msc mip mcb msco mtim) (some (.int (nI np))) (w_M hm cI cZ cJ 0 (np + 1) ne ns tl mbd (va_up gr np g) stt sp sq sec ans rt nw mtd un mss msc mip mcb msco mtim) := by
  refine M_start (by decide) (Nat.le_of_ble_eq_true rfl) ?_
  intro p e s m args below meth c A Q ls X Y hW hl
  have hx := X.1.1
  have hb := X.1.2.1
  have hl : lv_has ls 2 [(0, .ref (hm 0)), (1, .int (nI g))] := hl
  refine lv_aload_n hx hb d_Model_puzzle_0 rfl (lv_at hl 0 rfl) ?_
  refine lv_iconst (v := (nI 0)) hx hb d_Model_puzzle_1 (by decide +kernel) ?_
  refine R_put X hW i_Model rfl t_Model t_Model_ok n_Model 0 (by decide) kf_Model_60 rfl (ty := .int) (by decide +kernel) 0 rfl (v := .int (nI 0)) rfl rfl (Nat.le_of_ble_eq_true rfl) d_Model_puzzle_2 (fun H locs hW => ?_)
  have hW : Wr G A s.heap (w_M hm cI cZ cJ 0 np ne ns tl mbd gr stt sp sq sec ans rt nw mtd un mss msc mip mcb msco mtim) H locs := hW
  refine lv_iload_n hx hb d_Model_puzzle_5 rfl (lv_at hl 1 rfl) ?_
  refine lv_iconst (v := (nI 1)) hx hb d_Model_puzzle_6 (by decide +kernel) ?_
  refine N_icmp_lt_NN hx hb (by omega) (by decide) (tgt := 25) d_Model_puzzle_7 (by decide) (fun c7 => ?_) (fun c7 => ?_)
  · exfalso; omega
  · refine lv_iload_n hx hb d_Model_puzzle_10 rfl (lv_at hl 1 rfl) ?_
    refine lv_bipush (v := (nI 100)) hx hb d_Model_puzzle_11 (by decide +kernel) ?_
    refine N_icmp_gt_NN hx hb (by omega) (by decide) (tgt := 25) d_Model_puzzle_13 (by decide) (fun c13 => ?_) (fun c13 => ?_)
    · exfalso; omega
    · refine lv_aload_n hx hb d_Model_puzzle_16 rfl (lv_at hl 0 rfl) ?_
      refine R_get X hW i_Model rfl 1 (by decide) kf_Model_64 0 rfl rfl d_Model_puzzle_17 ?_
      refine lv_bipush (v := (nI 20)) hx hb d_Model_puzzle_20 (by decide +kernel) ?_
      refine N_icmp_ne_NN hx hb (by omega) (by decide) (tgt := 27) d_Model_puzzle_22 (by decide) (fun c22 => ?_) (fun c22 => ?_)
      · refine lv_aload_n hx hb d_Model_puzzle_27 rfl (lv_at hl 0 rfl) ?_
        refine R_get X hW i_Model rfl 4 (by decide) kf_Model_7 0 rfl rfl d_Model_puzzle_28 ?_
        refine lv_aload_n hx hb d_Model_puzzle_31 rfl (lv_at hl 0 rfl) ?_
        refine R_get X hW i_Model rfl 1 (by decide) kf_Model_64 0 rfl rfl d_Model_puzzle_32 ?_
        refine lv_iload_n hx hb d_Model_puzzle_35 rfl (lv_at hl 1 rfl) ?_
        refine R_iast X hW (t0 := 0) rfl 1 rfl (k := np) (by omega) (by decide) g rfl d_Model_puzzle_36 (fun H locs hW => ?_)
        have hW : Wr G A s.heap (w_M hm cI cZ cJ 0 np ne ns tl mbd (va_up gr np g) stt sp sq sec ans rt nw mtd un mss msc mip mcb msco mtim) H locs := hW
        refine lv_aload_n hx hb d_Model_puzzle_37 rfl (lv_at hl 0 rfl) ?_
        refine lv_dup hx hb d_Model_puzzle_38 rfl ?_
        refine R_get X hW i_Model rfl 1 (by decide) kf_Model_64 0 rfl rfl d_Model_puzzle_39 ?_
        refine lv_iconst (v := (nI 1)) hx hb d_Model_puzzle_42 (by decide +kernel) ?_
        refine N_iadd hx hb d_Model_puzzle_43 ?_
        refine R_put X hW i_Model rfl t_Model t_Model_ok n_Model 1 (by decide) kf_Model_64 rfl (ty := .int) (by decide +kernel) 0 rfl (v := .int (nI (np + 1))) rfl rfl (Nat.le_of_ble_eq_true rfl) d_Model_puzzle_44 (fun H locs hW => ?_)
        have hW : Wr G A s.heap (w_M hm cI cZ cJ 0 (np + 1) ne ns tl mbd (va_up gr np g) stt sp sq sec ans rt nw mtd un mss msc mip mcb msco mtim) H locs := hW
        refine lv_aload_n hx hb d_Model_puzzle_47 rfl (lv_at hl 0 rfl) ?_
        refine R_get X hW i_Model rfl 1 (by decide) kf_Model_64 0 rfl rfl d_Model_puzzle_48 ?_
        refine lv_iconst (v := (nI 1)) hx hb d_Model_puzzle_51 (by decide +kernel) ?_
        refine N_isub (r := np) hx hb (by omega) (by omega) d_Model_puzzle_52 ?_
        exact R_iret X Y hW rfl rfl d_Model_puzzle_53
      · exfalso; omega

set_option maxHeartbeats 4000000 in
set_option maxRecDepth 100000 in
theorem m_puzzle_bad (l : Launch) (G : va_G) (cI cZ cJ : ClassId) (hm : Nat → Nat) (mth : Nat) (np : Nat) (ne : Nat) (ns : Nat) (tl : Nat) (mbd : Option Nat) (gr : Nat → Nat) (stt : Nat → Option Nat) (sp : Nat → Nat) (sq : Nat → Nat) (sec : Nat → Nat) (ans : Nat → Nat) (rt : Nat → Bool) (nw : Nat → Nat) (mtd : Nat → Nat) (un : Nat → Nat) (mss : Nat → Nat) (msc : Nat → Nat) (mip : Nat → Bool) (mcb : Nat → Bool) (msco : Nat → Nat) (mtim : Nat → Nat) (g : Int32) (hg : ¬ (1 ≤ g.toInt ∧ g.toInt ≤ 100 ∧ np < 20)) (hn : np ≤ 20) : Ct l G (tyL cI cZ cJ) y_Model_puzzle b_Model_puzzle 2 (some .int) (rmL 0) [.ref (hm 0), .int g] (w_M hm cI cZ cJ mth np ne ns tl mbd gr stt sp sq sec ans rt nw mtd un mss msc mip mcb msco mtim) (some (.int (-1))) (w_M hm cI cZ cJ 0 np ne ns tl mbd gr stt sp sq sec ans rt nw mtd un mss msc mip mcb msco mtim) := by
  refine M_start (by decide) (Nat.le_of_ble_eq_true rfl) ?_
  intro p e s m args below meth c A Q ls X Y hW hl
  have hx := X.1.1
  have hb := X.1.2.1
  have hl : lv_has ls 2 [(0, .ref (hm 0)), (1, .int g)] := hl
  refine lv_aload_n hx hb d_Model_puzzle_0 rfl (lv_at hl 0 rfl) ?_
  refine lv_iconst (v := (nI 0)) hx hb d_Model_puzzle_1 (by decide +kernel) ?_
  refine R_put X hW i_Model rfl t_Model t_Model_ok n_Model 0 (by decide) kf_Model_60 rfl (ty := .int) (by decide +kernel) 0 rfl (v := .int (nI 0)) rfl rfl (Nat.le_of_ble_eq_true rfl) d_Model_puzzle_2 (fun H locs hW => ?_)
  have hW : Wr G A s.heap (w_M hm cI cZ cJ 0 np ne ns tl mbd gr stt sp sq sec ans rt nw mtd un mss msc mip mcb msco mtim) H locs := hW
  refine lv_iload_n hx hb d_Model_puzzle_5 rfl (lv_at hl 1 rfl) ?_
  refine lv_iconst (v := (nI 1)) hx hb d_Model_puzzle_6 (by decide +kernel) ?_
  refine N_icmp_lt_RN hx hb (by decide) (tgt := 25) d_Model_puzzle_7 (by decide) (fun c7 => ?_) (fun c7 => ?_)
  · refine lv_iconst (v := (-1)) hx hb d_Model_puzzle_25 (by decide +kernel) ?_
    exact R_iret X Y hW rfl rfl d_Model_puzzle_26
  · refine lv_iload_n hx hb d_Model_puzzle_10 rfl (lv_at hl 1 rfl) ?_
    refine lv_bipush (v := (nI 100)) hx hb d_Model_puzzle_11 (by decide +kernel) ?_
    refine N_icmp_gt_RN hx hb (by decide) (tgt := 25) d_Model_puzzle_13 (by decide) (fun c13 => ?_) (fun c13 => ?_)
    · refine lv_iconst (v := (-1)) hx hb d_Model_puzzle_25 (by decide +kernel) ?_
      exact R_iret X Y hW rfl rfl d_Model_puzzle_26
    · refine lv_aload_n hx hb d_Model_puzzle_16 rfl (lv_at hl 0 rfl) ?_
      refine R_get X hW i_Model rfl 1 (by decide) kf_Model_64 0 rfl rfl d_Model_puzzle_17 ?_
      refine lv_bipush (v := (nI 20)) hx hb d_Model_puzzle_20 (by decide +kernel) ?_
      refine N_icmp_ne_NN hx hb (by omega) (by decide) (tgt := 27) d_Model_puzzle_22 (by decide) (fun c22 => ?_) (fun c22 => ?_)
      · exfalso; omega
      · refine lv_iconst (v := (-1)) hx hb d_Model_puzzle_25 (by decide +kernel) ?_
        exact R_iret X Y hW rfl rfl d_Model_puzzle_26

theorem kf_Model_13 : Cond.fieldLink "ContestRowsModel" 13 "ContestRowsModel" "starts" "[I" ∈ TBL := TBL_t (List.mem_append_right _ (List.mem_append_right _ (List.mem_of_getElem? (i := 22) rfl))) rfl
set_option maxHeartbeats 4000000 in
set_option maxRecDepth 100000 in
theorem m_person_ok (l : Launch) (G : va_G) (cI cZ cJ : ClassId) (hm : Nat → Nat) (mth : Nat) (np : Nat) (ne : Nat) (ns : Nat) (tl : Nat) (mbd : Option Nat) (gr : Nat → Nat) (stt : Nat → Option Nat) (sp : Nat → Nat) (sq : Nat → Nat) (sec : Nat → Nat) (ans : Nat → Nat) (rt : Nat → Bool) (nw : Nat → Nat) (mtd : Nat → Nat) (un : Nat → Nat) (mss : Nat → Nat) (msc : Nat → Nat) (mip : Nat → Bool) (mcb : Nat → Bool) (msco : Nat → Nat) (mtim : Nat → Nat)  (hn : ne < 20) : Ct l G (tyL cI cZ cJ) y_Model_person b_Model_person 1 (some .int) (rmL 0) [.ref (hm 0)] (w_M hm cI cZ cJ mth np ne ns tl mbd gr stt sp sq sec ans rt nw mtd un mss msc mip mcb msco mtim) (some (.int (nI ne))) (w_M hm cI cZ cJ 0 np (ne + 1) ns tl mbd gr (va_up stt ne none) sp sq sec ans rt nw mtd un mss msc mip mcb msco mtim) := by
  refine M_start (by decide) (Nat.le_of_ble_eq_true rfl) ?_
  intro p e s m args below meth c A Q ls X Y hW hl
  have hx := X.1.1
  have hb := X.1.2.1
  have hl : lv_has ls 1 [(0, .ref (hm 0))] := hl
  refine lv_aload_n hx hb d_Model_person_0 rfl (lv_at hl 0 rfl) ?_
  refine lv_iconst (v := (nI 0)) hx hb d_Model_person_1 (by decide +kernel) ?_
  refine R_put X hW i_Model rfl t_Model t_Model_ok n_Model 0 (by decide) kf_Model_60 rfl (ty := .int) (by decide +kernel) 0 rfl (v := .int (nI 0)) rfl rfl (Nat.le_of_ble_eq_true rfl) d_Model_person_2 (fun H locs hW => ?_)
  have hW : Wr G A s.heap (w_M hm cI cZ cJ 0 np ne ns tl mbd gr stt sp sq sec ans rt nw mtd un mss msc mip mcb msco mtim) H locs := hW
  refine lv_aload_n hx hb d_Model_person_5 rfl (lv_at hl 0 rfl) ?_
  refine R_get X hW i_Model rfl 2 (by decide) kf_Model_67 0 rfl rfl d_Model_person_6 ?_
  refine lv_bipush (v := (nI 20)) hx hb d_Model_person_9 (by decide +kernel) ?_
  refine N_icmp_ne_NN hx hb (by omega) (by decide) (tgt := 16) d_Model_person_11 (by decide) (fun c11 => ?_) (fun c11 => ?_)
  · refine lv_aload_n hx hb d_Model_person_16 rfl (lv_at hl 0 rfl) ?_
    refine R_get X hW i_Model rfl 5 (by decide) kf_Model_13 0 rfl rfl d_Model_person_17 ?_
    refine lv_aload_n hx hb d_Model_person_20 rfl (lv_at hl 0 rfl) ?_
    refine R_get X hW i_Model rfl 2 (by decide) kf_Model_67 0 rfl rfl d_Model_person_21 ?_
    refine lv_iconst (v := (-1)) hx hb d_Model_person_24 (by decide +kernel) ?_
    refine R_iast X hW (t0 := 0) rfl 2 rfl (k := ne) (by omega) (by decide) none rfl d_Model_person_25 (fun H locs hW => ?_)
    have hW : Wr G A s.heap (w_M hm cI cZ cJ 0 np ne ns tl mbd gr (va_up stt ne none) sp sq sec ans rt nw mtd un mss msc mip mcb msco mtim) H locs := hW
    refine lv_aload_n hx hb d_Model_person_26 rfl (lv_at hl 0 rfl) ?_
    refine lv_dup hx hb d_Model_person_27 rfl ?_
    refine R_get X hW i_Model rfl 2 (by decide) kf_Model_67 0 rfl rfl d_Model_person_28 ?_
    refine lv_iconst (v := (nI 1)) hx hb d_Model_person_31 (by decide +kernel) ?_
    refine N_iadd hx hb d_Model_person_32 ?_
    refine R_put X hW i_Model rfl t_Model t_Model_ok n_Model 2 (by decide) kf_Model_67 rfl (ty := .int) (by decide +kernel) 0 rfl (v := .int (nI (ne + 1))) rfl rfl (Nat.le_of_ble_eq_true rfl) d_Model_person_33 (fun H locs hW => ?_)
    have hW : Wr G A s.heap (w_M hm cI cZ cJ 0 np (ne + 1) ns tl mbd gr (va_up stt ne none) sp sq sec ans rt nw mtd un mss msc mip mcb msco mtim) H locs := hW
    refine lv_aload_n hx hb d_Model_person_36 rfl (lv_at hl 0 rfl) ?_
    refine R_get X hW i_Model rfl 2 (by decide) kf_Model_67 0 rfl rfl d_Model_person_37 ?_
    refine lv_iconst (v := (nI 1)) hx hb d_Model_person_40 (by decide +kernel) ?_
    refine N_isub (r := ne) hx hb (by omega) (by omega) d_Model_person_41 ?_
    exact R_iret X Y hW rfl rfl d_Model_person_42
  · exfalso; omega

set_option maxHeartbeats 4000000 in
set_option maxRecDepth 100000 in
theorem m_person_full (l : Launch) (G : va_G) (cI cZ cJ : ClassId) (hm : Nat → Nat) (mth : Nat) (np : Nat) (ne : Nat) (ns : Nat) (tl : Nat) (mbd : Option Nat) (gr : Nat → Nat) (stt : Nat → Option Nat) (sp : Nat → Nat) (sq : Nat → Nat) (sec : Nat → Nat) (ans : Nat → Nat) (rt : Nat → Bool) (nw : Nat → Nat) (mtd : Nat → Nat) (un : Nat → Nat) (mss : Nat → Nat) (msc : Nat → Nat) (mip : Nat → Bool) (mcb : Nat → Bool) (msco : Nat → Nat) (mtim : Nat → Nat)  (hn : ne = 20) : Ct l G (tyL cI cZ cJ) y_Model_person b_Model_person 1 (some .int) (rmL 0) [.ref (hm 0)] (w_M hm cI cZ cJ mth np ne ns tl mbd gr stt sp sq sec ans rt nw mtd un mss msc mip mcb msco mtim) (some (.int (-1))) (w_M hm cI cZ cJ 0 np ne ns tl mbd gr stt sp sq sec ans rt nw mtd un mss msc mip mcb msco mtim) := by
  refine M_start (by decide) (Nat.le_of_ble_eq_true rfl) ?_
  intro p e s m args below meth c A Q ls X Y hW hl
  have hx := X.1.1
  have hb := X.1.2.1
  have hl : lv_has ls 1 [(0, .ref (hm 0))] := hl
  refine lv_aload_n hx hb d_Model_person_0 rfl (lv_at hl 0 rfl) ?_
  refine lv_iconst (v := (nI 0)) hx hb d_Model_person_1 (by decide +kernel) ?_
  refine R_put X hW i_Model rfl t_Model t_Model_ok n_Model 0 (by decide) kf_Model_60 rfl (ty := .int) (by decide +kernel) 0 rfl (v := .int (nI 0)) rfl rfl (Nat.le_of_ble_eq_true rfl) d_Model_person_2 (fun H locs hW => ?_)
  have hW : Wr G A s.heap (w_M hm cI cZ cJ 0 np ne ns tl mbd gr stt sp sq sec ans rt nw mtd un mss msc mip mcb msco mtim) H locs := hW
  refine lv_aload_n hx hb d_Model_person_5 rfl (lv_at hl 0 rfl) ?_
  refine R_get X hW i_Model rfl 2 (by decide) kf_Model_67 0 rfl rfl d_Model_person_6 ?_
  refine lv_bipush (v := (nI 20)) hx hb d_Model_person_9 (by decide +kernel) ?_
  refine N_icmp_ne_NN hx hb (by omega) (by decide) (tgt := 16) d_Model_person_11 (by decide) (fun c11 => ?_) (fun c11 => ?_)
  · exfalso; omega
  · refine lv_iconst (v := (-1)) hx hb d_Model_person_14 (by decide +kernel) ?_
    exact R_iret X Y hW rfl rfl d_Model_person_15

theorem kf_Model_73 : Cond.fieldLink "ContestRowsModel" 73 "ContestRowsModel" "size" "I" ∈ TBL := TBL_t (List.mem_append_right _ (List.mem_append_right _ (List.mem_of_getElem? (i := 30) rfl))) rfl
theorem kf_Model_38 : Cond.fieldLink "ContestRowsModel" 38 "ContestRowsModel" "text" "[I" ∈ TBL := TBL_t (List.mem_append_right _ (List.mem_append_right _ (List.mem_of_getElem? (i := 31) rfl))) rfl
set_option maxHeartbeats 4000000 in
set_option maxRecDepth 100000 in
theorem m_unit_ok (l : Launch) (G : va_G) (cI cZ cJ : ClassId) (hm : Nat → Nat) (mth : Nat) (np : Nat) (ne : Nat) (ns : Nat) (tl : Nat) (mbd : Option Nat) (gr : Nat → Nat) (stt : Nat → Option Nat) (sp : Nat → Nat) (sq : Nat → Nat) (sec : Nat → Nat) (ans : Nat → Nat) (rt : Nat → Bool) (nw : Nat → Nat) (mtd : Nat → Nat) (un : Nat → Nat) (mss : Nat → Nat) (msc : Nat → Nat) (mip : Nat → Bool) (mcb : Nat → Bool) (msco : Nat → Nat) (mtim : Nat → Nat) (u : Nat) (hu : u ≤ 255) (hn : tl < 100) : Ct l G (tyL cI cZ cJ) y_Model_unit b_Model_unit 2 (some .boolean) (rmL 0) [.ref (hm 0), .int (nI u)] (w_M hm cI cZ cJ mth np ne ns tl mbd gr stt sp sq sec ans rt nw mtd un mss msc mip mcb msco mtim) (some (.int (bI true))) (w_M hm cI cZ cJ 0 np ne ns (tl + 1) mbd gr stt sp sq sec ans rt nw mtd (va_up un tl u) mss msc mip mcb msco mtim) := by
  refine M_start (by decide) (Nat.le_of_ble_eq_true rfl) ?_
  intro p e s m args below meth c A Q ls X Y hW hl
  have hx := X.1.1
  have hb := X.1.2.1
  have hl : lv_has ls 2 [(0, .ref (hm 0)), (1, .int (nI u))] := hl
  refine lv_aload_n hx hb d_Model_unit_0 rfl (lv_at hl 0 rfl) ?_
  refine lv_iconst (v := (nI 0)) hx hb d_Model_unit_1 (by decide +kernel) ?_
  refine R_put X hW i_Model rfl t_Model t_Model_ok n_Model 0 (by decide) kf_Model_60 rfl (ty := .int) (by decide +kernel) 0 rfl (v := .int (nI 0)) rfl rfl (Nat.le_of_ble_eq_true rfl) d_Model_unit_2 (fun H locs hW => ?_)
  have hW : Wr G A s.heap (w_M hm cI cZ cJ 0 np ne ns tl mbd gr stt sp sq sec ans rt nw mtd un mss msc mip mcb msco mtim) H locs := hW
  refine lv_iload_n hx hb d_Model_unit_5 rfl (lv_at hl 1 rfl) ?_
  refine N_if_lt_N hx hb (by omega) (tgt := 25) d_Model_unit_6 (by decide) (fun c6 => ?_) (fun c6 => ?_)
  · exfalso; omega
  · refine lv_iload_n hx hb d_Model_unit_9 rfl (lv_at hl 1 rfl) ?_
    refine lv_sipush (v := (nI 255)) hx hb d_Model_unit_10 (by decide +kernel) ?_
    refine N_icmp_gt_NN hx hb (by omega) (by decide) (tgt := 25) d_Model_unit_13 (by decide) (fun c13 => ?_) (fun c13 => ?_)
    · exfalso; omega
    · refine lv_aload_n hx hb d_Model_unit_16 rfl (lv_at hl 0 rfl) ?_
      refine R_get X hW i_Model rfl 13 (by decide) kf_Model_73 0 rfl rfl d_Model_unit_17 ?_
      refine lv_bipush (v := (nI 100)) hx hb d_Model_unit_20 (by decide +kernel) ?_
      refine N_icmp_ne_NN hx hb (by omega) (by decide) (tgt := 27) d_Model_unit_22 (by decide) (fun c22 => ?_) (fun c22 => ?_)
      · refine lv_aload_n hx hb d_Model_unit_27 rfl (lv_at hl 0 rfl) ?_
        refine R_get X hW i_Model rfl 14 (by decide) kf_Model_38 0 rfl rfl d_Model_unit_28 ?_
        refine lv_aload_n hx hb d_Model_unit_31 rfl (lv_at hl 0 rfl) ?_
        refine R_get X hW i_Model rfl 13 (by decide) kf_Model_73 0 rfl rfl d_Model_unit_32 ?_
        refine lv_iload_n hx hb d_Model_unit_35 rfl (lv_at hl 1 rfl) ?_
        refine R_iast X hW (t0 := 0) rfl 10 rfl (k := tl) (by omega) (by decide) u rfl d_Model_unit_36 (fun H locs hW => ?_)
        have hW : Wr G A s.heap (w_M hm cI cZ cJ 0 np ne ns tl mbd gr stt sp sq sec ans rt nw mtd (va_up un tl u) mss msc mip mcb msco mtim) H locs := hW
        refine lv_aload_n hx hb d_Model_unit_37 rfl (lv_at hl 0 rfl) ?_
        refine lv_dup hx hb d_Model_unit_38 rfl ?_
        refine R_get X hW i_Model rfl 13 (by decide) kf_Model_73 0 rfl rfl d_Model_unit_39 ?_
        refine lv_iconst (v := (nI 1)) hx hb d_Model_unit_42 (by decide +kernel) ?_
        refine N_iadd hx hb d_Model_unit_43 ?_
        refine R_put X hW i_Model rfl t_Model t_Model_ok n_Model 13 (by decide) kf_Model_73 rfl (ty := .int) (by decide +kernel) 0 rfl (v := .int (nI (tl + 1))) rfl rfl (Nat.le_of_ble_eq_true rfl) d_Model_unit_44 (fun H locs hW => ?_)
        have hW : Wr G A s.heap (w_M hm cI cZ cJ 0 np ne ns (tl + 1) mbd gr stt sp sq sec ans rt nw mtd (va_up un tl u) mss msc mip mcb msco mtim) H locs := hW
        refine lv_iconst (v := (nI 1)) hx hb d_Model_unit_47 (by decide +kernel) ?_
        exact R_zret X Y hW rfl true (by decide +kernel) rfl d_Model_unit_48
      · exfalso; omega

set_option maxHeartbeats 4000000 in
set_option maxRecDepth 100000 in
theorem m_unit_bad (l : Launch) (G : va_G) (cI cZ cJ : ClassId) (hm : Nat → Nat) (mth : Nat) (np : Nat) (ne : Nat) (ns : Nat) (tl : Nat) (mbd : Option Nat) (gr : Nat → Nat) (stt : Nat → Option Nat) (sp : Nat → Nat) (sq : Nat → Nat) (sec : Nat → Nat) (ans : Nat → Nat) (rt : Nat → Bool) (nw : Nat → Nat) (mtd : Nat → Nat) (un : Nat → Nat) (mss : Nat → Nat) (msc : Nat → Nat) (mip : Nat → Bool) (mcb : Nat → Bool) (msco : Nat → Nat) (mtim : Nat → Nat) (u : Int32) (hu : ¬ (0 ≤ u.toInt ∧ u.toInt ≤ 255 ∧ tl < 100)) (hn : tl ≤ 100) : Ct l G (tyL cI cZ cJ) y_Model_unit b_Model_unit 2 (some .boolean) (rmL 0) [.ref (hm 0), .int u] (w_M hm cI cZ cJ mth np ne ns tl mbd gr stt sp sq sec ans rt nw mtd un mss msc mip mcb msco mtim) (some (.int (bI false))) (w_M hm cI cZ cJ 0 np ne ns tl mbd gr stt sp sq sec ans rt nw mtd un mss msc mip mcb msco mtim) := by
  refine M_start (by decide) (Nat.le_of_ble_eq_true rfl) ?_
  intro p e s m args below meth c A Q ls X Y hW hl
  have hx := X.1.1
  have hb := X.1.2.1
  have hl : lv_has ls 2 [(0, .ref (hm 0)), (1, .int u)] := hl
  refine lv_aload_n hx hb d_Model_unit_0 rfl (lv_at hl 0 rfl) ?_
  refine lv_iconst (v := (nI 0)) hx hb d_Model_unit_1 (by decide +kernel) ?_
  refine R_put X hW i_Model rfl t_Model t_Model_ok n_Model 0 (by decide) kf_Model_60 rfl (ty := .int) (by decide +kernel) 0 rfl (v := .int (nI 0)) rfl rfl (Nat.le_of_ble_eq_true rfl) d_Model_unit_2 (fun H locs hW => ?_)
  have hW : Wr G A s.heap (w_M hm cI cZ cJ 0 np ne ns tl mbd gr stt sp sq sec ans rt nw mtd un mss msc mip mcb msco mtim) H locs := hW
  refine lv_iload_n hx hb d_Model_unit_5 rfl (lv_at hl 1 rfl) ?_
  refine N_if_lt_R hx hb  (tgt := 25) d_Model_unit_6 (by decide) (fun c6 => ?_) (fun c6 => ?_)
  · refine lv_iconst (v := (nI 0)) hx hb d_Model_unit_25 (by decide +kernel) ?_
    exact R_zret X Y hW rfl false (by decide +kernel) rfl d_Model_unit_26
  · refine lv_iload_n hx hb d_Model_unit_9 rfl (lv_at hl 1 rfl) ?_
    refine lv_sipush (v := (nI 255)) hx hb d_Model_unit_10 (by decide +kernel) ?_
    refine N_icmp_gt_RN hx hb (by decide) (tgt := 25) d_Model_unit_13 (by decide) (fun c13 => ?_) (fun c13 => ?_)
    · refine lv_iconst (v := (nI 0)) hx hb d_Model_unit_25 (by decide +kernel) ?_
      exact R_zret X Y hW rfl false (by decide +kernel) rfl d_Model_unit_26
    · refine lv_aload_n hx hb d_Model_unit_16 rfl (lv_at hl 0 rfl) ?_
      refine R_get X hW i_Model rfl 13 (by decide) kf_Model_73 0 rfl rfl d_Model_unit_17 ?_
      refine lv_bipush (v := (nI 100)) hx hb d_Model_unit_20 (by decide +kernel) ?_
      refine N_icmp_ne_NN hx hb (by omega) (by decide) (tgt := 27) d_Model_unit_22 (by decide) (fun c22 => ?_) (fun c22 => ?_)
      · exfalso; omega
      · refine lv_iconst (v := (nI 0)) hx hb d_Model_unit_25 (by decide +kernel) ?_
        exact R_zret X Y hW rfl false (by decide +kernel) rfl d_Model_unit_26

set_option maxHeartbeats 4000000 in
set_option maxRecDepth 100000 in
theorem m_byteAt_in (l : Launch) (G : va_G) (cI cZ cJ : ClassId) (hm : Nat → Nat) (mth : Nat) (np : Nat) (ne : Nat) (ns : Nat) (tl : Nat) (mbd : Option Nat) (gr : Nat → Nat) (stt : Nat → Option Nat) (sp : Nat → Nat) (sq : Nat → Nat) (sec : Nat → Nat) (ans : Nat → Nat) (rt : Nat → Bool) (nw : Nat → Nat) (mtd : Nat → Nat) (un : Nat → Nat) (mss : Nat → Nat) (msc : Nat → Nat) (mip : Nat → Bool) (mcb : Nat → Bool) (msco : Nat → Nat) (mtim : Nat → Nat) (x : Nat) (hx0 : x < tl) (hn : tl ≤ 100) : Ct l G (tyL cI cZ cJ) y_Model_byteAt b_Model_byteAt 2 (some .int) (rmL 0) [.ref (hm 0), .int (nI x)] (w_M hm cI cZ cJ mth np ne ns tl mbd gr stt sp sq sec ans rt nw mtd un mss msc mip mcb msco mtim) (some (.int (nI (un x)))) (w_M hm cI cZ cJ mth np ne ns tl mbd gr stt sp sq sec ans rt nw mtd un mss msc mip mcb msco mtim) := by
  refine M_start (by decide) (Nat.le_of_ble_eq_true rfl) ?_
  intro p e s m args below meth c A Q ls X Y hW hl
  have hx := X.1.1
  have hb := X.1.2.1
  have hl : lv_has ls 2 [(0, .ref (hm 0)), (1, .int (nI x))] := hl
  refine lv_iload_n hx hb d_Model_byteAt_0 rfl (lv_at hl 1 rfl) ?_
  refine lv_aload_n hx hb d_Model_byteAt_1 rfl (lv_at hl 0 rfl) ?_
  refine R_get X hW i_Model rfl 13 (by decide) kf_Model_73 0 rfl rfl d_Model_byteAt_2 ?_
  refine N_icmp_ge_NN hx hb (by omega) (by omega) (tgt := 17) d_Model_byteAt_5 (by decide) (fun c5 => ?_) (fun c5 => ?_)
  · exfalso; omega
  · refine lv_aload_n hx hb d_Model_byteAt_8 rfl (lv_at hl 0 rfl) ?_
    refine R_get X hW i_Model rfl 14 (by decide) kf_Model_38 0 rfl rfl d_Model_byteAt_9 ?_
    refine lv_iload_n hx hb d_Model_byteAt_12 rfl (lv_at hl 1 rfl) ?_
    refine R_iald X hW (t0 := 0) rfl 10 rfl (k := x) (by omega) (by decide) d_Model_byteAt_13 ?_
    refine lv_goto (tgt := 18) hx hb d_Model_byteAt_14 (by decide) ?_
    exact R_iret X Y hW rfl rfl d_Model_byteAt_18

set_option maxHeartbeats 4000000 in
set_option maxRecDepth 100000 in
theorem m_byteAt_out (l : Launch) (G : va_G) (cI cZ cJ : ClassId) (hm : Nat → Nat) (mth : Nat) (np : Nat) (ne : Nat) (ns : Nat) (tl : Nat) (mbd : Option Nat) (gr : Nat → Nat) (stt : Nat → Option Nat) (sp : Nat → Nat) (sq : Nat → Nat) (sec : Nat → Nat) (ans : Nat → Nat) (rt : Nat → Bool) (nw : Nat → Nat) (mtd : Nat → Nat) (un : Nat → Nat) (mss : Nat → Nat) (msc : Nat → Nat) (mip : Nat → Bool) (mcb : Nat → Bool) (msco : Nat → Nat) (mtim : Nat → Nat) (x : Nat) (hx0 : tl ≤ x) (hx1 : x < 2 ^ 31) : Ct l G (tyL cI cZ cJ) y_Model_byteAt b_Model_byteAt 2 (some .int) (rmL 0) [.ref (hm 0), .int (nI x)] (w_M hm cI cZ cJ mth np ne ns tl mbd gr stt sp sq sec ans rt nw mtd un mss msc mip mcb msco mtim) (some (.int (-1))) (w_M hm cI cZ cJ mth np ne ns tl mbd gr stt sp sq sec ans rt nw mtd un mss msc mip mcb msco mtim) := by
  refine M_start (by decide) (Nat.le_of_ble_eq_true rfl) ?_
  intro p e s m args below meth c A Q ls X Y hW hl
  have hx := X.1.1
  have hb := X.1.2.1
  have hl : lv_has ls 2 [(0, .ref (hm 0)), (1, .int (nI x))] := hl
  refine lv_iload_n hx hb d_Model_byteAt_0 rfl (lv_at hl 1 rfl) ?_
  refine lv_aload_n hx hb d_Model_byteAt_1 rfl (lv_at hl 0 rfl) ?_
  refine R_get X hW i_Model rfl 13 (by decide) kf_Model_73 0 rfl rfl d_Model_byteAt_2 ?_
  refine N_icmp_ge_NN hx hb (by omega) (by omega) (tgt := 17) d_Model_byteAt_5 (by decide) (fun c5 => ?_) (fun c5 => ?_)
  · refine lv_iconst (v := (-1)) hx hb d_Model_byteAt_17 (by decide +kernel) ?_
    exact R_iret X Y hW rfl rfl d_Model_byteAt_18
  · exfalso; omega

set_option maxHeartbeats 4000000 in
set_option maxRecDepth 100000 in
theorem m_ruleOf (l : Launch) (G : va_G) (cI cZ cJ : ClassId) (hm : Nat → Nat)  (u : Nat) (hu : u ≤ 255) : Ct l G (tyL cI cZ cJ) y_Model_ruleOf b_Model_ruleOf 1 (some .int) (rmL 0) [.int (nI u)] (w_NilM hm cI cZ cJ) (some (.int (oI (letF u)))) (w_NilM hm cI cZ cJ) := by
  refine M_start (by decide) (Nat.le_of_ble_eq_true rfl) ?_
  intro p e s m args below meth c A Q ls X Y hW hl
  have hx := X.1.1
  have hb := X.1.2.1
  have hl : lv_has ls 1 [(0, .int (nI u))] := hl
  rcases (show u = 68 ∨ u = 70 ∨ u = 80 ∨ u = 84 ∨ u = 87 ∨ (u ≠ 68 ∧ u ≠ 70 ∧ u ≠ 80 ∧ u ≠ 84 ∧ u ≠ 87) by omega) with h9 | h9 | h9 | h9 | h9 | h9
  · subst h9
    refine lv_iload_n hx hb d_Model_ruleOf_0 rfl (lv_at hl 0 rfl) ?_
    refine lv_lookup (tgt := 58) (off := 57) hx hb d_Model_ruleOf_1 (by decide +kernel) (by decide +kernel) (by decide) ?_
    refine lv_iconst (v := (nI 3)) hx hb d_Model_ruleOf_58 (by decide +kernel) ?_
    exact R_iret X Y hW rfl rfl d_Model_ruleOf_59
  · subst h9
    refine lv_iload_n hx hb d_Model_ruleOf_0 rfl (lv_at hl 0 rfl) ?_
    refine lv_lookup (tgt := 54) (off := 53) hx hb d_Model_ruleOf_1 (by decide +kernel) (by decide +kernel) (by decide) ?_
    refine lv_iconst (v := (nI 1)) hx hb d_Model_ruleOf_54 (by decide +kernel) ?_
    exact R_iret X Y hW rfl rfl d_Model_ruleOf_55
  · subst h9
    refine lv_iload_n hx hb d_Model_ruleOf_0 rfl (lv_at hl 0 rfl) ?_
    refine lv_lookup (tgt := 52) (off := 51) hx hb d_Model_ruleOf_1 (by decide +kernel) (by decide +kernel) (by decide) ?_
    refine lv_iconst (v := (nI 0)) hx hb d_Model_ruleOf_52 (by decide +kernel) ?_
    exact R_iret X Y hW rfl rfl d_Model_ruleOf_53
  · subst h9
    refine lv_iload_n hx hb d_Model_ruleOf_0 rfl (lv_at hl 0 rfl) ?_
    refine lv_lookup (tgt := 60) (off := 59) hx hb d_Model_ruleOf_1 (by decide +kernel) (by decide +kernel) (by decide) ?_
    refine lv_iconst (v := (nI 4)) hx hb d_Model_ruleOf_60 (by decide +kernel) ?_
    exact R_iret X Y hW rfl rfl d_Model_ruleOf_61
  · subst h9
    refine lv_iload_n hx hb d_Model_ruleOf_0 rfl (lv_at hl 0 rfl) ?_
    refine lv_lookup (tgt := 56) (off := 55) hx hb d_Model_ruleOf_1 (by decide +kernel) (by decide +kernel) (by decide) ?_
    refine lv_iconst (v := (nI 2)) hx hb d_Model_ruleOf_56 (by decide +kernel) ?_
    exact R_iret X Y hW rfl rfl d_Model_ruleOf_57
  · refine lv_iload_n hx hb d_Model_ruleOf_0 rfl (lv_at hl 0 rfl) ?_
    refine lv_lookup (tgt := 62) (off := 61) hx hb d_Model_ruleOf_1 (by decide +kernel) (by show Op.lookupswitch.offset [(68, 57), (70, 53), (80, 51), (84, 59), (87, 55)] 61 _ = _; rw [lv_osw (k := nI 68) (fun q => by have := (nI_eq (by omega) (by omega)).mp q; omega) (by decide +kernel), lv_osw (k := nI 70) (fun q => by have := (nI_eq (by omega) (by omega)).mp q; omega) (by decide +kernel), lv_osw (k := nI 80) (fun q => by have := (nI_eq (by omega) (by omega)).mp q; omega) (by decide +kernel), lv_osw (k := nI 84) (fun q => by have := (nI_eq (by omega) (by omega)).mp q; omega) (by decide +kernel), lv_osw (k := nI 87) (fun q => by have := (nI_eq (by omega) (by omega)).mp q; omega) (by decide +kernel)]; rfl) (by decide) ?_
    refine lv_iconst (v := (-1)) hx hb d_Model_ruleOf_62 (by decide +kernel) ?_
    exact R_iret X Y hW rfl (by rw [let_none (by omega)]; rfl) d_Model_ruleOf_63

theorem kf_Model_22 : Cond.fieldLink "ContestRowsModel" 22 "ContestRowsModel" "when" "[I" ∈ TBL := TBL_t (List.mem_append_right _ (List.mem_append_right _ (List.mem_of_getElem? (i := 25) rfl))) rfl
theorem kf_Model_16 : Cond.fieldLink "ContestRowsModel" 16 "ContestRowsModel" "who" "[I" ∈ TBL := TBL_t (List.mem_append_right _ (List.mem_append_right _ (List.mem_of_getElem? (i := 23) rfl))) rfl
set_option maxHeartbeats 4000000 in
set_option maxRecDepth 100000 in
theorem m_secondsOf (l : Launch) (G : va_G) (cI cZ cJ : ClassId) (hm : Nat → Nat) (mth : Nat) (np : Nat) (ne : Nat) (ns : Nat) (tl : Nat) (mbd : Option Nat) (gr : Nat → Nat) (stt : Nat → Option Nat) (sp : Nat → Nat) (sq : Nat → Nat) (sec : Nat → Nat) (ans : Nat → Nat) (rt : Nat → Bool) (nw : Nat → Nat) (mtd : Nat → Nat) (un : Nat → Nat) (mss : Nat → Nat) (msc : Nat → Nat) (mip : Nat → Bool) (mcb : Nat → Bool) (msco : Nat → Nat) (mtim : Nat → Nat) (b : Nat) (s0 : Nat) (hb0 : b < 300) (hsp : sp b < 20) (hs0 : stt (sp b) = some s0) (hle : s0 ≤ sec b) : Ct l G (tyL cI cZ cJ) y_Model_secondsOf b_Model_secondsOf 2 (some .int) (rmL 0) [.ref (hm 0), .int (nI b)] (w_M hm cI cZ cJ mth np ne ns tl mbd gr stt sp sq sec ans rt nw mtd un mss msc mip mcb msco mtim) (some (.int (nI (sec b - s0)))) (w_M hm cI cZ cJ mth np ne ns tl mbd gr stt sp sq sec ans rt nw mtd un mss msc mip mcb msco mtim) := by
  refine M_start (by decide) (Nat.le_of_ble_eq_true rfl) ?_
  intro p e s m args below meth c A Q ls X Y hW hl
  have hx := X.1.1
  have hb := X.1.2.1
  have hl : lv_has ls 2 [(0, .ref (hm 0)), (1, .int (nI b))] := hl
  refine lv_aload_n hx hb d_Model_secondsOf_0 rfl (lv_at hl 0 rfl) ?_
  refine R_get X hW i_Model rfl 8 (by decide) kf_Model_22 0 rfl rfl d_Model_secondsOf_1 ?_
  refine lv_iload_n hx hb d_Model_secondsOf_4 rfl (lv_at hl 1 rfl) ?_
  refine R_iald X hW (t0 := 0) rfl 5 rfl (k := b) (by omega) (by decide) d_Model_secondsOf_5 ?_
  refine lv_aload_n hx hb d_Model_secondsOf_6 rfl (lv_at hl 0 rfl) ?_
  refine R_get X hW i_Model rfl 5 (by decide) kf_Model_13 0 rfl rfl d_Model_secondsOf_7 ?_
  refine lv_aload_n hx hb d_Model_secondsOf_10 rfl (lv_at hl 0 rfl) ?_
  refine R_get X hW i_Model rfl 6 (by decide) kf_Model_16 0 rfl rfl d_Model_secondsOf_11 ?_
  refine lv_iload_n hx hb d_Model_secondsOf_14 rfl (lv_at hl 1 rfl) ?_
  refine R_iald X hW (t0 := 0) rfl 3 rfl (k := b) (by omega) (by decide) d_Model_secondsOf_15 ?_
  refine R_iald X hW (t0 := 0) rfl 2 rfl (k := (sp b)) (by omega) (by decide) d_Model_secondsOf_16 ?_
  refine W.eq (g2 := F0 m 17 ls (.int (nI s0) :: .int (nI (sec b)) :: [])) (by rw [hs0]; first | done | rfl) ?_
  refine N_isub (r := (sec b) - s0) hx hb (by omega) (by omega) d_Model_secondsOf_17 ?_
  exact R_iret X Y hW rfl rfl d_Model_secondsOf_18

set_option maxHeartbeats 4000000 in
set_option maxRecDepth 100000 in
theorem m_isAhead (l : Launch) (G : va_G) (cI cZ cJ : ClassId) (hm : Nat → Nat) (mth : Nat) (np : Nat) (ne : Nat) (ns : Nat) (tl : Nat) (mbd : Option Nat) (gr : Nat → Nat) (stt : Nat → Option Nat) (sp : Nat → Nat) (sq : Nat → Nat) (sec : Nat → Nat) (ans : Nat → Nat) (rt : Nat → Bool) (nw : Nat → Nat) (mtd : Nat → Nat) (un : Nat → Nat) (mss : Nat → Nat) (msc : Nat → Nat) (mip : Nat → Bool) (mcb : Nat → Bool) (msco : Nat → Nat) (mtim : Nat → Nat) (a : Nat) (b : Nat) (ha : a < 300) (hb0 : b < 300) (hse : ∀ i, i < 300 → sec i ≤ 1000000) : Ct l G (tyL cI cZ cJ) y_Model_isAhead b_Model_isAhead 3 (some .boolean) (rmL 0) [.ref (hm 0), .int (nI a), .int (nI b)] (w_M hm cI cZ cJ mth np ne ns tl mbd gr stt sp sq sec ans rt nw mtd un mss msc mip mcb msco mtim) (some (.int (bI (ahM sec a b)))) (w_M hm cI cZ cJ mth np ne ns tl mbd gr stt sp sq sec ans rt nw mtd un mss msc mip mcb msco mtim) := by
  refine M_start (by decide) (Nat.le_of_ble_eq_true rfl) ?_
  intro p e s m args below meth c A Q ls X Y hW hl
  have hx := X.1.1
  have hb := X.1.2.1
  have hl : lv_has ls 3 [(0, .ref (hm 0)), (1, .int (nI a)), (2, .int (nI b))] := hl
  have q1 := hse a ha
  have q2 := hse b hb0
  refine lv_aload_n hx hb d_Model_isAhead_0 rfl (lv_at hl 0 rfl) ?_
  refine R_get X hW i_Model rfl 8 (by decide) kf_Model_22 0 rfl rfl d_Model_isAhead_1 ?_
  refine lv_iload_n hx hb d_Model_isAhead_4 rfl (lv_at hl 1 rfl) ?_
  refine R_iald X hW (t0 := 0) rfl 5 rfl (k := a) (by omega) (by decide) d_Model_isAhead_5 ?_
  refine lv_aload_n hx hb d_Model_isAhead_6 rfl (lv_at hl 0 rfl) ?_
  refine R_get X hW i_Model rfl 8 (by decide) kf_Model_22 0 rfl rfl d_Model_isAhead_7 ?_
  refine lv_iload_n hx hb d_Model_isAhead_10 rfl (lv_at hl 2 rfl) ?_
  refine R_iald X hW (t0 := 0) rfl 5 rfl (k := b) (by omega) (by decide) d_Model_isAhead_11 ?_
  refine N_icmp_eq_NN hx hb (by omega) (by omega) (tgt := 38) d_Model_isAhead_12 (by decide) (fun c12 => ?_) (fun c12 => ?_)
  · refine lv_iload_n hx hb d_Model_isAhead_38 rfl (lv_at hl 1 rfl) ?_
    refine lv_iload_n hx hb d_Model_isAhead_39 rfl (lv_at hl 2 rfl) ?_
    refine N_icmp_ge_NN hx hb (by omega) (by omega) (tgt := 47) d_Model_isAhead_40 (by decide) (fun c40 => ?_) (fun c40 => ?_)
    · refine lv_iconst (v := (nI 0)) hx hb d_Model_isAhead_47 (by decide +kernel) ?_
      exact R_zret X Y hW rfl false (by decide +kernel) (by rw [ahM, decide_eq_false (by omega)]) d_Model_isAhead_48
    · refine lv_iconst (v := (nI 1)) hx hb d_Model_isAhead_43 (by decide +kernel) ?_
      refine lv_goto (tgt := 48) hx hb d_Model_isAhead_44 (by decide) ?_
      exact R_zret X Y hW rfl true (by decide +kernel) (by rw [ahM, decide_eq_true (by omega)]) d_Model_isAhead_48
  · refine lv_aload_n hx hb d_Model_isAhead_15 rfl (lv_at hl 0 rfl) ?_
    refine R_get X hW i_Model rfl 8 (by decide) kf_Model_22 0 rfl rfl d_Model_isAhead_16 ?_
    refine lv_iload_n hx hb d_Model_isAhead_19 rfl (lv_at hl 1 rfl) ?_
    refine R_iald X hW (t0 := 0) rfl 5 rfl (k := a) (by omega) (by decide) d_Model_isAhead_20 ?_
    refine lv_aload_n hx hb d_Model_isAhead_21 rfl (lv_at hl 0 rfl) ?_
    refine R_get X hW i_Model rfl 8 (by decide) kf_Model_22 0 rfl rfl d_Model_isAhead_22 ?_
    refine lv_iload_n hx hb d_Model_isAhead_25 rfl (lv_at hl 2 rfl) ?_
    refine R_iald X hW (t0 := 0) rfl 5 rfl (k := b) (by omega) (by decide) d_Model_isAhead_26 ?_
    refine N_icmp_ge_NN hx hb (by omega) (by omega) (tgt := 34) d_Model_isAhead_27 (by decide) (fun c27 => ?_) (fun c27 => ?_)
    · refine lv_iconst (v := (nI 0)) hx hb d_Model_isAhead_34 (by decide +kernel) ?_
      refine lv_goto (tgt := 48) hx hb d_Model_isAhead_35 (by decide) ?_
      exact R_zret X Y hW rfl false (by decide +kernel) (by rw [ahM, decide_eq_false (by omega)]) d_Model_isAhead_48
    · refine lv_iconst (v := (nI 1)) hx hb d_Model_isAhead_30 (by decide +kernel) ?_
      refine lv_goto (tgt := 48) hx hb d_Model_isAhead_31 (by decide) ?_
      exact R_zret X Y hW rfl true (by decide +kernel) (by rw [ahM, decide_eq_true (by omega)]) d_Model_isAhead_48

theorem kf_Model_19 : Cond.fieldLink "ContestRowsModel" 19 "ContestRowsModel" "which" "[I" ∈ TBL := TBL_t (List.mem_append_right _ (List.mem_append_right _ (List.mem_of_getElem? (i := 24) rfl))) rfl
set_option maxHeartbeats 4000000 in
set_option maxRecDepth 100000 in
theorem m_isOf (l : Launch) (G : va_G) (cI cZ cJ : ClassId) (hm : Nat → Nat) (mth : Nat) (np : Nat) (ne : Nat) (ns : Nat) (tl : Nat) (mbd : Option Nat) (gr : Nat → Nat) (stt : Nat → Option Nat) (sp : Nat → Nat) (sq : Nat → Nat) (sec : Nat → Nat) (ans : Nat → Nat) (rt : Nat → Bool) (nw : Nat → Nat) (mtd : Nat → Nat) (un : Nat → Nat) (mss : Nat → Nat) (msc : Nat → Nat) (mip : Nat → Bool) (mcb : Nat → Bool) (msco : Nat → Nat) (mtim : Nat → Nat) (r : Nat) (x : Nat) (y : Nat) (hr : r < 300) (hx0 : x < 20) (hy0 : y < 20) (h20 : ∀ i, i < 300 → sp i < 20 ∧ sq i < 20) : Ct l G (tyL cI cZ cJ) y_Model_isOf b_Model_isOf 4 (some .boolean) (rmL 0) [.ref (hm 0), .int (nI r), .int (nI x), .int (nI y)] (w_M hm cI cZ cJ mth np ne ns tl mbd gr stt sp sq sec ans rt nw mtd un mss msc mip mcb msco mtim) (some (.int (bI (ofM sp sq x y r)))) (w_M hm cI cZ cJ mth np ne ns tl mbd gr stt sp sq sec ans rt nw mtd un mss msc mip mcb msco mtim) := by
  refine M_start (by decide) (Nat.le_of_ble_eq_true rfl) ?_
  intro p e s m args below meth c A Q ls X Y hW hl
  have hx := X.1.1
  have hb := X.1.2.1
  have hl : lv_has ls 4 [(0, .ref (hm 0)), (1, .int (nI r)), (2, .int (nI x)), (3, .int (nI y))] := hl
  have q1 := h20 r hr
  refine lv_aload_n hx hb d_Model_isOf_0 rfl (lv_at hl 0 rfl) ?_
  refine R_get X hW i_Model rfl 6 (by decide) kf_Model_16 0 rfl rfl d_Model_isOf_1 ?_
  refine lv_iload_n hx hb d_Model_isOf_4 rfl (lv_at hl 1 rfl) ?_
  refine R_iald X hW (t0 := 0) rfl 3 rfl (k := r) (by omega) (by decide) d_Model_isOf_5 ?_
  refine lv_iload_n hx hb d_Model_isOf_6 rfl (lv_at hl 2 rfl) ?_
  refine N_icmp_ne_NN hx hb (by omega) (by omega) (tgt := 24) d_Model_isOf_7 (by decide) (fun c7 => ?_) (fun c7 => ?_)
  · refine lv_iconst (v := (nI 0)) hx hb d_Model_isOf_24 (by decide +kernel) ?_
    exact R_zret X Y hW rfl false (by decide +kernel) (by rw [ofM, decide_eq_false (by omega)]) d_Model_isOf_25
  · refine lv_aload_n hx hb d_Model_isOf_10 rfl (lv_at hl 0 rfl) ?_
    refine R_get X hW i_Model rfl 7 (by decide) kf_Model_19 0 rfl rfl d_Model_isOf_11 ?_
    refine lv_iload_n hx hb d_Model_isOf_14 rfl (lv_at hl 1 rfl) ?_
    refine R_iald X hW (t0 := 0) rfl 4 rfl (k := r) (by omega) (by decide) d_Model_isOf_15 ?_
    refine lv_iload_n hx hb d_Model_isOf_16 rfl (lv_at hl 3 rfl) ?_
    refine N_icmp_ne_NN hx hb (by omega) (by omega) (tgt := 24) d_Model_isOf_17 (by decide) (fun c17 => ?_) (fun c17 => ?_)
    · refine lv_iconst (v := (nI 0)) hx hb d_Model_isOf_24 (by decide +kernel) ?_
      exact R_zret X Y hW rfl false (by decide +kernel) (by rw [ofM, decide_eq_false (by omega)]) d_Model_isOf_25
    · refine lv_iconst (v := (nI 1)) hx hb d_Model_isOf_20 (by decide +kernel) ?_
      refine lv_goto (tgt := 25) hx hb d_Model_isOf_21 (by decide) ?_
      exact R_zret X Y hW rfl true (by decide +kernel) (by rw [ofM, decide_eq_true (by omega)]) d_Model_isOf_25

theorem kf_Model_53 : Cond.fieldLink "ContestRowsModel" 53 "ContestRowsModel" "scores" "[J" ∈ TBL := TBL_t (List.mem_append_right _ (List.mem_append_right _ (List.mem_of_getElem? (i := 37) rfl))) rfl
theorem kf_Model_32 : Cond.fieldLink "ContestRowsModel" 32 "ContestRowsModel" "rules" "[I" ∈ TBL := TBL_t (List.mem_append_right _ (List.mem_append_right _ (List.mem_of_getElem? (i := 28) rfl))) rfl
theorem kf_Model_57 : Cond.fieldLink "ContestRowsModel" 57 "ContestRowsModel" "times" "[J" ∈ TBL := TBL_t (List.mem_append_right _ (List.mem_append_right _ (List.mem_of_getElem? (i := 38) rfl))) rfl
set_option maxHeartbeats 4000000 in
set_option maxRecDepth 100000 in
theorem m_isBetter (l : Launch) (G : va_G) (cI cZ cJ : ClassId) (hm : Nat → Nat) (mth : Nat) (np : Nat) (ne : Nat) (ns : Nat) (tl : Nat) (mbd : Option Nat) (gr : Nat → Nat) (stt : Nat → Option Nat) (sp : Nat → Nat) (sq : Nat → Nat) (sec : Nat → Nat) (ans : Nat → Nat) (rt : Nat → Bool) (nw : Nat → Nat) (mtd : Nat → Nat) (un : Nat → Nat) (mss : Nat → Nat) (msc : Nat → Nat) (mip : Nat → Bool) (mcb : Nat → Bool) (msco : Nat → Nat) (mtim : Nat → Nat) (a : Nat) (b : Nat) (ha : a < 20) (hb0 : b < 20) (hnw : ∀ i, i < 5 → nw i ≤ 9999) (hsc : ∀ i, i < 20 → msco i < 2 ^ 63) (htm : ∀ i, i < 20 → mtim i < 2 ^ 63) : Ct l G (tyL cI cZ cJ) y_Model_isBetter b_Model_isBetter 3 (some .boolean) (rmL 0) [.ref (hm 0), .int (nI a), .int (nI b)] (w_M hm cI cZ cJ mth np ne ns tl mbd gr stt sp sq sec ans rt nw mtd un mss msc mip mcb msco mtim) (some (.int (bI (ahd msco mtim (decide (nw 4 = 1)) a b)))) (w_M hm cI cZ cJ mth np ne ns tl mbd gr stt sp sq sec ans rt nw mtd un mss msc mip mcb msco mtim) := by
  refine M_start (by decide) (Nat.le_of_ble_eq_true rfl) ?_
  intro p e s m args below meth c A Q ls X Y hW hl
  have hx := X.1.1
  have hb := X.1.2.1
  have hl : lv_has ls 3 [(0, .ref (hm 0)), (1, .int (nI a)), (2, .int (nI b))] := hl
  have q1 := hsc a ha
  have q2 := hsc b hb0
  have q3 := htm a ha
  have q4 := htm b hb0
  have q5 := hnw 4 (by omega)
  refine lv_aload_n hx hb d_Model_isBetter_0 rfl (lv_at hl 0 rfl) ?_
  refine R_get X hW i_Model rfl 20 (by decide) kf_Model_53 0 rfl rfl d_Model_isBetter_1 ?_
  refine lv_iload_n hx hb d_Model_isBetter_4 rfl (lv_at hl 1 rfl) ?_
  refine R_lald X hW (t0 := 2) rfl 15 rfl (k := a) (by omega) (by decide) d_Model_isBetter_5 ?_
  refine lv_aload_n hx hb d_Model_isBetter_6 rfl (lv_at hl 0 rfl) ?_
  refine R_get X hW i_Model rfl 20 (by decide) kf_Model_53 0 rfl rfl d_Model_isBetter_7 ?_
  refine lv_iload_n hx hb d_Model_isBetter_10 rfl (lv_at hl 2 rfl) ?_
  refine R_lald X hW (t0 := 2) rfl 15 rfl (k := b) (by omega) (by decide) d_Model_isBetter_11 ?_
  refine N_lcmp_gt hx hb (by omega) (by omega) (tgt := 58) d_Model_isBetter_12 d_Model_isBetter_13 (by decide) (fun c12 => ?_) (fun c12 => ?_)
  · refine lv_iconst (v := (nI 1)) hx hb d_Model_isBetter_58 (by decide +kernel) ?_
    refine lv_goto (tgt := 63) hx hb d_Model_isBetter_59 (by decide) ?_
    exact R_zret X Y hW rfl true (by decide +kernel) (by rw [ahd, decide_eq_true (Or.inl (by omega))]) d_Model_isBetter_63
  · refine lv_aload_n hx hb d_Model_isBetter_16 rfl (lv_at hl 0 rfl) ?_
    refine R_get X hW i_Model rfl 20 (by decide) kf_Model_53 0 rfl rfl d_Model_isBetter_17 ?_
    refine lv_iload_n hx hb d_Model_isBetter_20 rfl (lv_at hl 1 rfl) ?_
    refine R_lald X hW (t0 := 2) rfl 15 rfl (k := a) (by omega) (by decide) d_Model_isBetter_21 ?_
    refine lv_aload_n hx hb d_Model_isBetter_22 rfl (lv_at hl 0 rfl) ?_
    refine R_get X hW i_Model rfl 20 (by decide) kf_Model_53 0 rfl rfl d_Model_isBetter_23 ?_
    refine lv_iload_n hx hb d_Model_isBetter_26 rfl (lv_at hl 2 rfl) ?_
    refine R_lald X hW (t0 := 2) rfl 15 rfl (k := b) (by omega) (by decide) d_Model_isBetter_27 ?_
    refine N_lcmp_ne hx hb (by omega) (by omega) (tgt := 62) d_Model_isBetter_28 d_Model_isBetter_29 (by decide) (fun c28 => ?_) (fun c28 => ?_)
    · refine lv_iconst (v := (nI 0)) hx hb d_Model_isBetter_62 (by decide +kernel) ?_
      exact R_zret X Y hW rfl false (by decide +kernel) (by rw [ahd, decide_eq_false (by omega)]) d_Model_isBetter_63
    · refine lv_aload_n hx hb d_Model_isBetter_32 rfl (lv_at hl 0 rfl) ?_
      refine R_get X hW i_Model rfl 11 (by decide) kf_Model_32 0 rfl rfl d_Model_isBetter_33 ?_
      refine lv_iconst (v := (nI 4)) hx hb d_Model_isBetter_36 (by decide +kernel) ?_
      refine R_iald X hW (t0 := 0) rfl 8 rfl (k := 4) (by omega) (by decide) d_Model_isBetter_37 ?_
      refine lv_iconst (v := (nI 1)) hx hb d_Model_isBetter_38 (by decide +kernel) ?_
      refine N_icmp_ne_NN hx hb (by omega) (by decide) (tgt := 62) d_Model_isBetter_39 (by decide) (fun c39 => ?_) (fun c39 => ?_)
      · refine lv_iconst (v := (nI 0)) hx hb d_Model_isBetter_62 (by decide +kernel) ?_
        exact R_zret X Y hW rfl false (by decide +kernel) (by rw [ahd, decide_eq_false (by simp; omega)]) d_Model_isBetter_63
      · refine lv_aload_n hx hb d_Model_isBetter_42 rfl (lv_at hl 0 rfl) ?_
        refine R_get X hW i_Model rfl 21 (by decide) kf_Model_57 0 rfl rfl d_Model_isBetter_43 ?_
        refine lv_iload_n hx hb d_Model_isBetter_46 rfl (lv_at hl 1 rfl) ?_
        refine R_lald X hW (t0 := 2) rfl 16 rfl (k := a) (by omega) (by decide) d_Model_isBetter_47 ?_
        refine lv_aload_n hx hb d_Model_isBetter_48 rfl (lv_at hl 0 rfl) ?_
        refine R_get X hW i_Model rfl 21 (by decide) kf_Model_57 0 rfl rfl d_Model_isBetter_49 ?_
        refine lv_iload_n hx hb d_Model_isBetter_52 rfl (lv_at hl 2 rfl) ?_
        refine R_lald X hW (t0 := 2) rfl 16 rfl (k := b) (by omega) (by decide) d_Model_isBetter_53 ?_
        refine N_lcmp_ge hx hb (by omega) (by omega) (tgt := 62) d_Model_isBetter_54 d_Model_isBetter_55 (by decide) (fun c54 => ?_) (fun c54 => ?_)
        · refine lv_iconst (v := (nI 0)) hx hb d_Model_isBetter_62 (by decide +kernel) ?_
          exact R_zret X Y hW rfl false (by decide +kernel) (by rw [ahd, decide_eq_false (by simp; omega)]) d_Model_isBetter_63
        · refine lv_iconst (v := (nI 1)) hx hb d_Model_isBetter_58 (by decide +kernel) ?_
          refine lv_goto (tgt := 63) hx hb d_Model_isBetter_59 (by decide) ?_
          exact R_zret X Y hW rfl true (by decide +kernel) (by rw [ahd, decide_eq_true (Or.inr ⟨c28, by simp [c39], c54⟩)]) d_Model_isBetter_63

theorem kb_Model_byteAt : Cond.code y_Model_byteAt b_Model_byteAt 2 (some .int) ∈ TBL := TBL_t (List.mem_append_right _ (List.mem_append_right _ (List.mem_of_getElem? (i := 107) rfl))) rfl
theorem kn_Model : Cond.initialized "ContestRowsModel" ∈ TBL := TBL_t (List.mem_append_left _ (List.mem_of_getElem? (i := 7) rfl)) rfl
theorem km_Model_76 : Cond.methodLink "ContestRowsModel" 76 y_Model_byteAt ∈ TBL := TBL_t (List.mem_append_right _ (List.mem_append_right _ (List.mem_of_getElem? (i := 104) rfl))) rfl
theorem cw_Model_76 : Cw "ContestRowsModel" 76 y_Model_byteAt b_Model_byteAt 2 (some .int) 1 := ⟨kb_Model_byteAt, kn_Model, km_Model_76, by decide +kernel⟩
theorem ki_Model_byteAt : Cond.instanceMethod y_Model_byteAt ∈ TBL := TBL_t (List.mem_append_right _ (List.mem_append_right _ (List.mem_of_getElem? (i := 106) rfl))) rfl
theorem ks_Model_byteAt : Cond.selects "ContestRowsModel" y_Model_byteAt y_Model_byteAt ∈ TBL := TBL_in (List.mem_append_left _ (List.mem_map.mpr ⟨(y_Model_byteAt, 22), by decide +kernel, rfl⟩)) rfl
set_option maxHeartbeats 4000000 in
set_option maxRecDepth 100000 in
theorem m_isDigit_in (l : Launch) (G : va_G) (cI cZ cJ : ClassId) (hm : Nat → Nat) (mth : Nat) (np : Nat) (ne : Nat) (ns : Nat) (tl : Nat) (mbd : Option Nat) (gr : Nat → Nat) (stt : Nat → Option Nat) (sp : Nat → Nat) (sq : Nat → Nat) (sec : Nat → Nat) (ans : Nat → Nat) (rt : Nat → Bool) (nw : Nat → Nat) (mtd : Nat → Nat) (un : Nat → Nat) (mss : Nat → Nat) (msc : Nat → Nat) (mip : Nat → Bool) (mcb : Nat → Bool) (msco : Nat → Nat) (mtim : Nat → Nat) (x : Nat) (hx0 : x < tl) (hn : tl ≤ 100) (hun : un x ≤ 255) : Ct l G (tyL cI cZ cJ) y_Model_isDigit b_Model_isDigit 2 (some .boolean) (rmL 1) [.ref (hm 0), .int (nI x)] (w_M hm cI cZ cJ mth np ne ns tl mbd gr stt sp sq sec ans rt nw mtd un mss msc mip mcb msco mtim) (some (.int (bI (decide (48 ≤ un x ∧ un x ≤ 57))))) (w_M hm cI cZ cJ mth np ne ns tl mbd gr stt sp sq sec ans rt nw mtd un mss msc mip mcb msco mtim) := by
  refine M_start (by decide) (Nat.le_of_ble_eq_true rfl) ?_
  intro p e s m args below meth c A Q ls X Y hW hl
  have hx := X.1.1
  have hb := X.1.2.1
  have hl : lv_has ls 2 [(0, .ref (hm 0)), (1, .int (nI x))] := hl
  refine lv_aload_n hx hb d_Model_isDigit_0 rfl (lv_at hl 0 rfl) ?_
  refine lv_iload_n hx hb d_Model_isDigit_1 rfl (lv_at hl 1 rfl) ?_
  refine R_callV (q0 := 0) (m_byteAt_in l G cI cZ cJ hm mth np ne ns tl mbd gr stt sp sq sec ans rt nw mtd un mss msc mip mcb msco mtim x hx0 hn) X rfl hW cw_Model_76 ki_Model_byteAt ks_Model_byteAt rfl rfl ⟨rfl, rfl⟩ ⟨by decide, by decide⟩ ⟨Nat.zero_le _, Nat.zero_le _⟩ [true, true, true, true, true, true, true, true, true, true, true, true, true, true, true, true, true] rfl (Nat.le_of_ble_eq_true rfl) rfl rfl hl.1 rfl rfl (Nat.le_of_ble_eq_true rfl) d_Model_isDigit_2 rfl (fun H locs hW => ?_)
  have hW : Wr G A s.heap (w_M hm cI cZ cJ mth np ne ns tl mbd gr stt sp sq sec ans rt nw mtd un mss msc mip mcb msco mtim) H locs := hW
  refine lv_bipush (v := (nI 48)) hx hb d_Model_isDigit_5 (by decide +kernel) ?_
  refine N_icmp_lt_NN hx hb (by omega) (by decide) (tgt := 24) d_Model_isDigit_7 (by decide) (fun c7 => ?_) (fun c7 => ?_)
  · refine lv_iconst (v := (nI 0)) hx hb d_Model_isDigit_24 (by decide +kernel) ?_
    exact R_zret X Y hW rfl false (by decide +kernel) (by rw [decide_eq_false (by omega)]) d_Model_isDigit_25
  · refine lv_aload_n hx hb d_Model_isDigit_10 rfl (lv_at hl 0 rfl) ?_
    refine lv_iload_n hx hb d_Model_isDigit_11 rfl (lv_at hl 1 rfl) ?_
    refine R_callV (q0 := 0) (m_byteAt_in l G cI cZ cJ hm mth np ne ns tl mbd gr stt sp sq sec ans rt nw mtd un mss msc mip mcb msco mtim x hx0 hn) X rfl hW cw_Model_76 ki_Model_byteAt ks_Model_byteAt rfl rfl ⟨rfl, rfl⟩ ⟨by decide, by decide⟩ ⟨Nat.zero_le _, Nat.zero_le _⟩ [true, true, true, true, true, true, true, true, true, true, true, true, true, true, true, true, true] rfl (Nat.le_of_ble_eq_true rfl) rfl rfl hl.1 rfl rfl (Nat.le_of_ble_eq_true rfl) d_Model_isDigit_12 rfl (fun H locs hW => ?_)
    have hW : Wr G A s.heap (w_M hm cI cZ cJ mth np ne ns tl mbd gr stt sp sq sec ans rt nw mtd un mss msc mip mcb msco mtim) H locs := hW
    refine lv_bipush (v := (nI 57)) hx hb d_Model_isDigit_15 (by decide +kernel) ?_
    refine N_icmp_gt_NN hx hb (by omega) (by decide) (tgt := 24) d_Model_isDigit_17 (by decide) (fun c17 => ?_) (fun c17 => ?_)
    · refine lv_iconst (v := (nI 0)) hx hb d_Model_isDigit_24 (by decide +kernel) ?_
      exact R_zret X Y hW rfl false (by decide +kernel) (by rw [decide_eq_false (by omega)]) d_Model_isDigit_25
    · refine lv_iconst (v := (nI 1)) hx hb d_Model_isDigit_20 (by decide +kernel) ?_
      refine lv_goto (tgt := 25) hx hb d_Model_isDigit_21 (by decide) ?_
      exact R_zret X Y hW rfl true (by decide +kernel) (by rw [decide_eq_true (by omega)]) d_Model_isDigit_25

set_option maxHeartbeats 4000000 in
set_option maxRecDepth 100000 in
theorem m_isDigit_out (l : Launch) (G : va_G) (cI cZ cJ : ClassId) (hm : Nat → Nat) (mth : Nat) (np : Nat) (ne : Nat) (ns : Nat) (tl : Nat) (mbd : Option Nat) (gr : Nat → Nat) (stt : Nat → Option Nat) (sp : Nat → Nat) (sq : Nat → Nat) (sec : Nat → Nat) (ans : Nat → Nat) (rt : Nat → Bool) (nw : Nat → Nat) (mtd : Nat → Nat) (un : Nat → Nat) (mss : Nat → Nat) (msc : Nat → Nat) (mip : Nat → Bool) (mcb : Nat → Bool) (msco : Nat → Nat) (mtim : Nat → Nat) (x : Nat) (hx0 : tl ≤ x) (hx1 : x < 2 ^ 31) : Ct l G (tyL cI cZ cJ) y_Model_isDigit b_Model_isDigit 2 (some .boolean) (rmL 1) [.ref (hm 0), .int (nI x)] (w_M hm cI cZ cJ mth np ne ns tl mbd gr stt sp sq sec ans rt nw mtd un mss msc mip mcb msco mtim) (some (.int (bI false))) (w_M hm cI cZ cJ mth np ne ns tl mbd gr stt sp sq sec ans rt nw mtd un mss msc mip mcb msco mtim) := by
  refine M_start (by decide) (Nat.le_of_ble_eq_true rfl) ?_
  intro p e s m args below meth c A Q ls X Y hW hl
  have hx := X.1.1
  have hb := X.1.2.1
  have hl : lv_has ls 2 [(0, .ref (hm 0)), (1, .int (nI x))] := hl
  refine lv_aload_n hx hb d_Model_isDigit_0 rfl (lv_at hl 0 rfl) ?_
  refine lv_iload_n hx hb d_Model_isDigit_1 rfl (lv_at hl 1 rfl) ?_
  refine R_callV (q0 := 0) (m_byteAt_out l G cI cZ cJ hm mth np ne ns tl mbd gr stt sp sq sec ans rt nw mtd un mss msc mip mcb msco mtim x hx0 hx1) X rfl hW cw_Model_76 ki_Model_byteAt ks_Model_byteAt rfl rfl ⟨rfl, rfl⟩ ⟨by decide, by decide⟩ ⟨Nat.zero_le _, Nat.zero_le _⟩ [true, true, true, true, true, true, true, true, true, true, true, true, true, true, true, true, true] rfl (Nat.le_of_ble_eq_true rfl) rfl rfl hl.1 rfl rfl (Nat.le_of_ble_eq_true rfl) d_Model_isDigit_2 rfl (fun H locs hW => ?_)
  have hW : Wr G A s.heap (w_M hm cI cZ cJ mth np ne ns tl mbd gr stt sp sq sec ans rt nw mtd un mss msc mip mcb msco mtim) H locs := hW
  refine lv_bipush (v := (nI 48)) hx hb d_Model_isDigit_5 (by decide +kernel) ?_
  refine N_icmp_lt_RN hx hb (by decide) (tgt := 24) d_Model_isDigit_7 (by decide) (fun c7 => ?_) (fun c7 => ?_)
  · refine lv_iconst (v := (nI 0)) hx hb d_Model_isDigit_24 (by decide +kernel) ?_
    exact R_zret X Y hW rfl false (by decide +kernel) rfl d_Model_isDigit_25
  · exfalso; rw [i_Tm1] at c7; omega

theorem kb_Model_isPerson : Cond.code y_Model_isPerson b_Model_isPerson 2 (some .boolean) ∈ TBL := TBL_t (List.mem_append_right _ (List.mem_append_right _ (List.mem_of_getElem? (i := 122) rfl))) rfl
theorem km_Model_93 : Cond.methodLink "ContestRowsModel" 93 y_Model_isPerson ∈ TBL := TBL_t (List.mem_append_right _ (List.mem_append_right _ (List.mem_of_getElem? (i := 119) rfl))) rfl
theorem cw_Model_93 : Cw "ContestRowsModel" 93 y_Model_isPerson b_Model_isPerson 2 (some .boolean) 1 := ⟨kb_Model_isPerson, kn_Model, km_Model_93, by decide +kernel⟩
theorem ki_Model_isPerson : Cond.instanceMethod y_Model_isPerson ∈ TBL := TBL_t (List.mem_append_right _ (List.mem_append_right _ (List.mem_of_getElem? (i := 121) rfl))) rfl
theorem ks_Model_isPerson : Cond.selects "ContestRowsModel" y_Model_isPerson y_Model_isPerson ∈ TBL := TBL_in (List.mem_append_left _ (List.mem_map.mpr ⟨(y_Model_isPerson, 22), by decide +kernel, rfl⟩)) rfl
theorem kc_Model_96 : Cond.constant "ContestRowsModel" 96 1000000 ∈ TBL := TBL_t (List.mem_append_right _ (List.mem_append_right _ (List.mem_of_getElem? (i := 123) rfl))) rfl
set_option maxHeartbeats 4000000 in
set_option maxRecDepth 100000 in
theorem m_start_bad (l : Launch) (G : va_G) (cI cZ cJ : ClassId) (hm : Nat → Nat) (mth : Nat) (np : Nat) (ne : Nat) (ns : Nat) (tl : Nat) (mbd : Option Nat) (gr : Nat → Nat) (stt : Nat → Option Nat) (sp : Nat → Nat) (sq : Nat → Nat) (sec : Nat → Nat) (ans : Nat → Nat) (rt : Nat → Bool) (nw : Nat → Nat) (mtd : Nat → Nat) (un : Nat → Nat) (mss : Nat → Nat) (msc : Nat → Nat) (mip : Nat → Bool) (mcb : Nat → Bool) (msco : Nat → Nat) (mtim : Nat → Nat) (x : Int32) (y : Int32) (hbad : ¬ (inB x ne = true ∧ 0 ≤ y.toInt ∧ y.toInt ≤ 1000000)) (hI : IS np ne ns gr nw sp sq sec (fun i => i) ans stt) : Ct l G (tyL cI cZ cJ) y_Model_start b_Model_start 4 (some .boolean) (rmL 1) [.ref (hm 0), .int x, .int y] (w_M hm cI cZ cJ mth np ne ns tl mbd gr stt sp sq sec ans rt nw mtd un mss msc mip mcb msco mtim) (some (.int (bI false))) (w_M hm cI cZ cJ 0 np ne ns tl mbd gr stt sp sq sec ans rt nw mtd un mss msc mip mcb msco mtim) := by
  refine M_start (by decide) (Nat.le_of_ble_eq_true rfl) ?_
  intro p e s m args below meth c A Q ls X Y hW hl
  have hx := X.1.1
  have hb := X.1.2.1
  have hl : lv_has ls 4 [(0, .ref (hm 0)), (1, .int x), (2, .int y)] := hl
  obtain ⟨z1, z2, z3, z4, z5, z6, z7, z8, z9, z10, z11, z12, z13⟩ := id hI
  refine lv_aload_n hx hb d_Model_start_0 rfl (lv_at hl 0 rfl) ?_
  refine lv_iconst (v := (nI 0)) hx hb d_Model_start_1 (by decide +kernel) ?_
  refine R_put X hW i_Model rfl t_Model t_Model_ok n_Model 0 (by decide) kf_Model_60 rfl (ty := .int) (by decide +kernel) 0 rfl (v := .int (nI 0)) rfl rfl (Nat.le_of_ble_eq_true rfl) d_Model_start_2 (fun H locs hW => ?_)
  have hW : Wr G A s.heap (w_M hm cI cZ cJ 0 np ne ns tl mbd gr stt sp sq sec ans rt nw mtd un mss msc mip mcb msco mtim) H locs := hW
  refine lv_aload_n hx hb d_Model_start_5 rfl (lv_at hl 0 rfl) ?_
  refine lv_iload_n hx hb d_Model_start_6 rfl (lv_at hl 1 rfl) ?_
  refine R_callV (q0 := 0) (m_isPerson l G cI cZ cJ hm 0 np ne ns tl mbd gr stt sp sq sec ans rt nw mtd un mss msc mip mcb msco mtim x (by omega)) X rfl hW cw_Model_93 ki_Model_isPerson ks_Model_isPerson rfl rfl ⟨rfl, rfl⟩ ⟨by decide, by decide⟩ ⟨Nat.zero_le _, Nat.zero_le _⟩ [true, true, true, true, true, true, true, true, true, true, true, true, true, true, true, true, true] rfl (Nat.le_of_ble_eq_true rfl) rfl rfl hl.1 rfl rfl (Nat.le_of_ble_eq_true rfl) d_Model_start_7 rfl (fun H locs hW => ?_)
  have hW : Wr G A s.heap (w_M hm cI cZ cJ 0 np ne ns tl mbd gr stt sp sq sec ans rt nw mtd un mss msc mip mcb msco mtim) H locs := hW
  refine N_if_eq_B hx hb  (tgt := 23) d_Model_start_10 (by decide) (fun c10 => ?_) (fun c10 => ?_)
  · refine lv_iconst (v := (nI 0)) hx hb d_Model_start_23 (by decide +kernel) ?_
    exact R_zret X Y hW rfl false (by decide +kernel) rfl d_Model_start_24
  · refine lv_iload_n hx hb d_Model_start_13 rfl (lv_at hl 2 rfl) ?_
    refine N_if_lt_R hx hb  (tgt := 23) d_Model_start_14 (by decide) (fun c14 => ?_) (fun c14 => ?_)
    · refine lv_iconst (v := (nI 0)) hx hb d_Model_start_23 (by decide +kernel) ?_
      exact R_zret X Y hW rfl false (by decide +kernel) rfl d_Model_start_24
    · refine lv_iload_n hx hb d_Model_start_17 rfl (lv_at hl 2 rfl) ?_
      refine lv_ldc hx hb X.1.2.2.2.1 (X.1.2.2.2.2 _ kc_Model_96) d_Model_start_18 ?_
      refine W.eq (g2 := F0 m 20 ls (.int (nI 1000000) :: .int y :: [])) rfl ?_
      refine N_icmp_le_RN hx hb (by decide) (tgt := 25) d_Model_start_20 (by decide) (fun c20 => ?_) (fun c20 => ?_)
      · exact absurd ⟨c10, by omega, by omega⟩ hbad
      · refine lv_iconst (v := (nI 0)) hx hb d_Model_start_23 (by decide +kernel) ?_
        exact R_zret X Y hW rfl false (by decide +kernel) rfl d_Model_start_24

set_option maxHeartbeats 4000000 in
set_option maxRecDepth 100000 in
theorem m_start_early (l : Launch) (G : va_G) (cI cZ cJ : ClassId) (hm : Nat → Nat) (mth : Nat) (np : Nat) (ne : Nat) (ns : Nat) (tl : Nat) (mbd : Option Nat) (gr : Nat → Nat) (stt : Nat → Option Nat) (sp : Nat → Nat) (sq : Nat → Nat) (sec : Nat → Nat) (ans : Nat → Nat) (rt : Nat → Bool) (nw : Nat → Nat) (mtd : Nat → Nat) (un : Nat → Nat) (mss : Nat → Nat) (msc : Nat → Nat) (mip : Nat → Bool) (mcb : Nat → Bool) (msco : Nat → Nat) (mtim : Nat → Nat) (x : Nat) (y : Nat) (hx0 : x < ne) (hy0 : y ≤ 1000000) (hany : anyG (fun i => decide (sp i = x ∧ sec i < y)) ns 0 = true) (hI : IS np ne ns gr nw sp sq sec (fun i => i) ans stt) : Ct l G (tyL cI cZ cJ) y_Model_start b_Model_start 4 (some .boolean) (rmL 1) [.ref (hm 0), .int (nI x), .int (nI y)] (w_M hm cI cZ cJ mth np ne ns tl mbd gr stt sp sq sec ans rt nw mtd un mss msc mip mcb msco mtim) (some (.int (bI false))) (w_M hm cI cZ cJ 0 np ne ns tl mbd gr stt sp sq sec ans rt nw mtd un mss msc mip mcb msco mtim) := by
  refine M_start (by decide) (Nat.le_of_ble_eq_true rfl) ?_
  intro p e s m args below meth c A Q ls X Y hW hl
  have hx := X.1.1
  have hb := X.1.2.1
  have hl : lv_has ls 4 [(0, .ref (hm 0)), (1, .int (nI x)), (2, .int (nI y))] := hl
  obtain ⟨z1, z2, z3, z4, z5, z6, z7, z8, z9, z10, z11, z12, z13⟩ := id hI
  refine lv_aload_n hx hb d_Model_start_0 rfl (lv_at hl 0 rfl) ?_
  refine lv_iconst (v := (nI 0)) hx hb d_Model_start_1 (by decide +kernel) ?_
  refine R_put X hW i_Model rfl t_Model t_Model_ok n_Model 0 (by decide) kf_Model_60 rfl (ty := .int) (by decide +kernel) 0 rfl (v := .int (nI 0)) rfl rfl (Nat.le_of_ble_eq_true rfl) d_Model_start_2 (fun H locs hW => ?_)
  have hW : Wr G A s.heap (w_M hm cI cZ cJ 0 np ne ns tl mbd gr stt sp sq sec ans rt nw mtd un mss msc mip mcb msco mtim) H locs := hW
  refine lv_aload_n hx hb d_Model_start_5 rfl (lv_at hl 0 rfl) ?_
  refine lv_iload_n hx hb d_Model_start_6 rfl (lv_at hl 1 rfl) ?_
  refine R_callV (q0 := 0) (m_isPerson l G cI cZ cJ hm 0 np ne ns tl mbd gr stt sp sq sec ans rt nw mtd un mss msc mip mcb msco mtim (nI x) (by omega)) X rfl hW cw_Model_93 ki_Model_isPerson ks_Model_isPerson rfl rfl ⟨rfl, rfl⟩ ⟨by decide, by decide⟩ ⟨Nat.zero_le _, Nat.zero_le _⟩ [true, true, true, true, true, true, true, true, true, true, true, true, true, true, true, true, true] rfl (Nat.le_of_ble_eq_true rfl) rfl rfl hl.1 rfl rfl (Nat.le_of_ble_eq_true rfl) d_Model_start_7 rfl (fun H locs hW => ?_)
  have hW : Wr G A s.heap (w_M hm cI cZ cJ 0 np ne ns tl mbd gr stt sp sq sec ans rt nw mtd un mss msc mip mcb msco mtim) H locs := hW
  refine N_if_eq_B hx hb  (tgt := 23) d_Model_start_10 (by decide) (fun c10 => ?_) (fun c10 => ?_)
  · exfalso; rw [inB_nI (by omega) (by omega)] at c10; cases c10
  · refine lv_iload_n hx hb d_Model_start_13 rfl (lv_at hl 2 rfl) ?_
    refine N_if_lt_N hx hb (by omega) (tgt := 23) d_Model_start_14 (by decide) (fun c14 => ?_) (fun c14 => ?_)
    · exfalso; omega
    · refine lv_iload_n hx hb d_Model_start_17 rfl (lv_at hl 2 rfl) ?_
      refine lv_ldc hx hb X.1.2.2.2.1 (X.1.2.2.2.2 _ kc_Model_96) d_Model_start_18 ?_
      refine W.eq (g2 := F0 m 20 ls (.int (nI 1000000) :: .int (nI y) :: [])) rfl ?_
      refine N_icmp_le_NN hx hb (by omega) (by decide) (tgt := 25) d_Model_start_20 (by decide) (fun c20 => ?_) (fun c20 => ?_)
      · refine lv_iconst (v := (nI 0)) hx hb d_Model_start_25 (by decide +kernel) ?_
        refine lv_istore_n (lv' := [(3, .int (nI 0)), (0, .ref (hm 0)), (1, .int (nI x)), (2, .int (nI y))]) hx hb d_Model_start_26 rfl hl (by decide) rfl (fun ls hl => ?_)
        have L27 : ∀ (n : Nat) (i : Nat) (hi : i + n = ns) (he : anyG (fun i => decide (sp i = x ∧ sec i < y)) n i = anyG (fun i => decide (sp i = x ∧ sec i < y)) ns 0) (H : Heap) (locs : List Loc) (hW : Wr G A s.heap (w_M hm cI cZ cJ 0 np ne ns tl mbd gr stt sp sq sec ans rt nw mtd un mss msc mip mcb msco mtim) H locs) (ls : Array Slot) (hl : lv_has ls 4 [(0, .ref (hm 0)), (1, .int (nI x)), (2, .int (nI y)), (3, .int (nI i))]), W p l e (rmL 1) s m args below meth c H locs 0 0 Q (F0 m 27 ls []) := by
          intro n
          induction n with
          | zero =>
            intro i hi he H locs hW ls hl
            refine lv_iload_n hx hb d_Model_start_27 rfl (lv_at hl 3 rfl) ?_
            refine lv_aload_n hx hb d_Model_start_28 rfl (lv_at hl 0 rfl) ?_
            refine R_get X hW i_Model rfl 3 (by decide) kf_Model_70 0 rfl rfl d_Model_start_29 ?_
            refine N_icmp_ge_NN hx hb (by omega) (by omega) (tgt := 63) d_Model_start_32 (by decide) (fun c32 => ?_) (fun c32 => ?_)
            · exfalso
              rw [hany] at he
              cases he
            · exfalso; omega
          | succ n ih27 =>
            intro i hi he H locs hW ls hl
            refine lv_iload_n hx hb d_Model_start_27 rfl (lv_at hl 3 rfl) ?_
            refine lv_aload_n hx hb d_Model_start_28 rfl (lv_at hl 0 rfl) ?_
            refine R_get X hW i_Model rfl 3 (by decide) kf_Model_70 0 rfl rfl d_Model_start_29 ?_
            refine N_icmp_ge_NN hx hb (by omega) (by omega) (tgt := 63) d_Model_start_32 (by decide) (fun c32 => ?_) (fun c32 => ?_)
            · exfalso; omega
            · have q1 := z13 i (by omega)
              have q2 := z8 i (by omega)
              refine lv_aload_n hx hb d_Model_start_35 rfl (lv_at hl 0 rfl) ?_
              refine R_get X hW i_Model rfl 6 (by decide) kf_Model_16 0 rfl rfl d_Model_start_36 ?_
              refine lv_iload_n hx hb d_Model_start_39 rfl (lv_at hl 3 rfl) ?_
              refine R_iald X hW (t0 := 0) rfl 3 rfl (k := i) (by omega) (by decide) d_Model_start_40 ?_
              refine lv_iload_n hx hb d_Model_start_41 rfl (lv_at hl 1 rfl) ?_
              refine N_icmp_ne_NN hx hb (by omega) (by omega) (tgt := 57) d_Model_start_42 (by decide) (fun c42 => ?_) (fun c42 => ?_)
              · refine lv_iinc (v := (nI (i + 1))) (lv' := [(3, .int (nI (i + 1))), (0, .ref (hm 0)), (1, .int (nI x)), (2, .int (nI y))]) hx hb d_Model_start_57 hl (k := 3) rfl (N_inc i) (by decide) rfl (fun ls hl => ?_)
                refine lv_goto (tgt := 27) hx hb d_Model_start_60 (by decide) ?_
                exact ih27 (i + 1) (by omega) (by rw [← he, anyG, if_neg (by simp; omega)]) _ _ hW ls (lv_sub hl [1, 2, 3, 0] rfl)
              · refine lv_aload_n hx hb d_Model_start_45 rfl (lv_at hl 0 rfl) ?_
                refine R_get X hW i_Model rfl 8 (by decide) kf_Model_22 0 rfl rfl d_Model_start_46 ?_
                refine lv_iload_n hx hb d_Model_start_49 rfl (lv_at hl 3 rfl) ?_
                refine R_iald X hW (t0 := 0) rfl 5 rfl (k := i) (by omega) (by decide) d_Model_start_50 ?_
                refine lv_iload_n hx hb d_Model_start_51 rfl (lv_at hl 2 rfl) ?_
                refine N_icmp_ge_NN hx hb (by omega) (by omega) (tgt := 57) d_Model_start_52 (by decide) (fun c52 => ?_) (fun c52 => ?_)
                · refine lv_iinc (v := (nI (i + 1))) (lv' := [(3, .int (nI (i + 1))), (0, .ref (hm 0)), (1, .int (nI x)), (2, .int (nI y))]) hx hb d_Model_start_57 hl (k := 3) rfl (N_inc i) (by decide) rfl (fun ls hl => ?_)
                  refine lv_goto (tgt := 27) hx hb d_Model_start_60 (by decide) ?_
                  exact ih27 (i + 1) (by omega) (by rw [← he, anyG, if_neg (by simp; omega)]) _ _ hW ls (lv_sub hl [1, 2, 3, 0] rfl)
                · refine lv_iconst (v := (nI 0)) hx hb d_Model_start_55 (by decide +kernel) ?_
                  exact R_zret X Y hW rfl false (by decide +kernel) rfl d_Model_start_56
        exact L27 ns 0 (by omega) rfl _ _ hW ls (lv_sub hl [1, 2, 3, 0] rfl)
      · exfalso; omega

set_option maxHeartbeats 4000000 in
set_option maxRecDepth 100000 in
theorem m_start_ok (l : Launch) (G : va_G) (cI cZ cJ : ClassId) (hm : Nat → Nat) (mth : Nat) (np : Nat) (ne : Nat) (ns : Nat) (tl : Nat) (mbd : Option Nat) (gr : Nat → Nat) (stt : Nat → Option Nat) (sp : Nat → Nat) (sq : Nat → Nat) (sec : Nat → Nat) (ans : Nat → Nat) (rt : Nat → Bool) (nw : Nat → Nat) (mtd : Nat → Nat) (un : Nat → Nat) (mss : Nat → Nat) (msc : Nat → Nat) (mip : Nat → Bool) (mcb : Nat → Bool) (msco : Nat → Nat) (mtim : Nat → Nat) (x : Nat) (y : Nat) (hx0 : x < ne) (hy0 : y ≤ 1000000) (hany : anyG (fun i => decide (sp i = x ∧ sec i < y)) ns 0 = false) (hI : IS np ne ns gr nw sp sq sec (fun i => i) ans stt) : Ct l G (tyL cI cZ cJ) y_Model_start b_Model_start 4 (some .boolean) (rmL 1) [.ref (hm 0), .int (nI x), .int (nI y)] (w_M hm cI cZ cJ mth np ne ns tl mbd gr stt sp sq sec ans rt nw mtd un mss msc mip mcb msco mtim) (some (.int (bI true))) (w_M hm cI cZ cJ 0 np ne ns tl mbd gr (va_up stt x (some y)) sp sq sec ans rt nw mtd un mss msc mip mcb msco mtim) := by
  refine M_start (by decide) (Nat.le_of_ble_eq_true rfl) ?_
  intro p e s m args below meth c A Q ls X Y hW hl
  have hx := X.1.1
  have hb := X.1.2.1
  have hl : lv_has ls 4 [(0, .ref (hm 0)), (1, .int (nI x)), (2, .int (nI y))] := hl
  obtain ⟨z1, z2, z3, z4, z5, z6, z7, z8, z9, z10, z11, z12, z13⟩ := id hI
  refine lv_aload_n hx hb d_Model_start_0 rfl (lv_at hl 0 rfl) ?_
  refine lv_iconst (v := (nI 0)) hx hb d_Model_start_1 (by decide +kernel) ?_
  refine R_put X hW i_Model rfl t_Model t_Model_ok n_Model 0 (by decide) kf_Model_60 rfl (ty := .int) (by decide +kernel) 0 rfl (v := .int (nI 0)) rfl rfl (Nat.le_of_ble_eq_true rfl) d_Model_start_2 (fun H locs hW => ?_)
  have hW : Wr G A s.heap (w_M hm cI cZ cJ 0 np ne ns tl mbd gr stt sp sq sec ans rt nw mtd un mss msc mip mcb msco mtim) H locs := hW
  refine lv_aload_n hx hb d_Model_start_5 rfl (lv_at hl 0 rfl) ?_
  refine lv_iload_n hx hb d_Model_start_6 rfl (lv_at hl 1 rfl) ?_
  refine R_callV (q0 := 0) (m_isPerson l G cI cZ cJ hm 0 np ne ns tl mbd gr stt sp sq sec ans rt nw mtd un mss msc mip mcb msco mtim (nI x) (by omega)) X rfl hW cw_Model_93 ki_Model_isPerson ks_Model_isPerson rfl rfl ⟨rfl, rfl⟩ ⟨by decide, by decide⟩ ⟨Nat.zero_le _, Nat.zero_le _⟩ [true, true, true, true, true, true, true, true, true, true, true, true, true, true, true, true, true] rfl (Nat.le_of_ble_eq_true rfl) rfl rfl hl.1 rfl rfl (Nat.le_of_ble_eq_true rfl) d_Model_start_7 rfl (fun H locs hW => ?_)
  have hW : Wr G A s.heap (w_M hm cI cZ cJ 0 np ne ns tl mbd gr stt sp sq sec ans rt nw mtd un mss msc mip mcb msco mtim) H locs := hW
  refine N_if_eq_B hx hb  (tgt := 23) d_Model_start_10 (by decide) (fun c10 => ?_) (fun c10 => ?_)
  · exfalso; rw [inB_nI (by omega) (by omega)] at c10; cases c10
  · refine lv_iload_n hx hb d_Model_start_13 rfl (lv_at hl 2 rfl) ?_
    refine N_if_lt_N hx hb (by omega) (tgt := 23) d_Model_start_14 (by decide) (fun c14 => ?_) (fun c14 => ?_)
    · exfalso; omega
    · refine lv_iload_n hx hb d_Model_start_17 rfl (lv_at hl 2 rfl) ?_
      refine lv_ldc hx hb X.1.2.2.2.1 (X.1.2.2.2.2 _ kc_Model_96) d_Model_start_18 ?_
      refine W.eq (g2 := F0 m 20 ls (.int (nI 1000000) :: .int (nI y) :: [])) rfl ?_
      refine N_icmp_le_NN hx hb (by omega) (by decide) (tgt := 25) d_Model_start_20 (by decide) (fun c20 => ?_) (fun c20 => ?_)
      · refine lv_iconst (v := (nI 0)) hx hb d_Model_start_25 (by decide +kernel) ?_
        refine lv_istore_n (lv' := [(3, .int (nI 0)), (0, .ref (hm 0)), (1, .int (nI x)), (2, .int (nI y))]) hx hb d_Model_start_26 rfl hl (by decide) rfl (fun ls hl => ?_)
        have L27 : ∀ (n : Nat) (i : Nat) (hi : i + n = ns) (he : anyG (fun i => decide (sp i = x ∧ sec i < y)) n i = anyG (fun i => decide (sp i = x ∧ sec i < y)) ns 0) (H : Heap) (locs : List Loc) (hW : Wr G A s.heap (w_M hm cI cZ cJ 0 np ne ns tl mbd gr stt sp sq sec ans rt nw mtd un mss msc mip mcb msco mtim) H locs) (ls : Array Slot) (hl : lv_has ls 4 [(0, .ref (hm 0)), (1, .int (nI x)), (2, .int (nI y)), (3, .int (nI i))]), W p l e (rmL 1) s m args below meth c H locs 0 0 Q (F0 m 27 ls []) := by
          intro n
          induction n with
          | zero =>
            intro i hi he H locs hW ls hl
            refine lv_iload_n hx hb d_Model_start_27 rfl (lv_at hl 3 rfl) ?_
            refine lv_aload_n hx hb d_Model_start_28 rfl (lv_at hl 0 rfl) ?_
            refine R_get X hW i_Model rfl 3 (by decide) kf_Model_70 0 rfl rfl d_Model_start_29 ?_
            refine N_icmp_ge_NN hx hb (by omega) (by omega) (tgt := 63) d_Model_start_32 (by decide) (fun c32 => ?_) (fun c32 => ?_)
            · refine lv_aload_n hx hb d_Model_start_63 rfl (lv_at hl 0 rfl) ?_
              refine R_get X hW i_Model rfl 5 (by decide) kf_Model_13 0 rfl rfl d_Model_start_64 ?_
              refine lv_iload_n hx hb d_Model_start_67 rfl (lv_at hl 1 rfl) ?_
              refine lv_iload_n hx hb d_Model_start_68 rfl (lv_at hl 2 rfl) ?_
              refine R_iast X hW (t0 := 0) rfl 2 rfl (k := x) (by omega) (by decide) (some y) rfl d_Model_start_69 (fun H locs hW => ?_)
              have hW : Wr G A s.heap (w_M hm cI cZ cJ 0 np ne ns tl mbd gr (va_up stt x (some y)) sp sq sec ans rt nw mtd un mss msc mip mcb msco mtim) H locs := hW
              refine lv_iconst (v := (nI 1)) hx hb d_Model_start_70 (by decide +kernel) ?_
              exact R_zret X Y hW rfl true (by decide +kernel) rfl d_Model_start_71
            · exfalso; omega
          | succ n ih27 =>
            intro i hi he H locs hW ls hl
            refine lv_iload_n hx hb d_Model_start_27 rfl (lv_at hl 3 rfl) ?_
            refine lv_aload_n hx hb d_Model_start_28 rfl (lv_at hl 0 rfl) ?_
            refine R_get X hW i_Model rfl 3 (by decide) kf_Model_70 0 rfl rfl d_Model_start_29 ?_
            refine N_icmp_ge_NN hx hb (by omega) (by omega) (tgt := 63) d_Model_start_32 (by decide) (fun c32 => ?_) (fun c32 => ?_)
            · exfalso; omega
            · have q1 := z13 i (by omega)
              have q2 := z8 i (by omega)
              refine lv_aload_n hx hb d_Model_start_35 rfl (lv_at hl 0 rfl) ?_
              refine R_get X hW i_Model rfl 6 (by decide) kf_Model_16 0 rfl rfl d_Model_start_36 ?_
              refine lv_iload_n hx hb d_Model_start_39 rfl (lv_at hl 3 rfl) ?_
              refine R_iald X hW (t0 := 0) rfl 3 rfl (k := i) (by omega) (by decide) d_Model_start_40 ?_
              refine lv_iload_n hx hb d_Model_start_41 rfl (lv_at hl 1 rfl) ?_
              refine N_icmp_ne_NN hx hb (by omega) (by omega) (tgt := 57) d_Model_start_42 (by decide) (fun c42 => ?_) (fun c42 => ?_)
              · refine lv_iinc (v := (nI (i + 1))) (lv' := [(3, .int (nI (i + 1))), (0, .ref (hm 0)), (1, .int (nI x)), (2, .int (nI y))]) hx hb d_Model_start_57 hl (k := 3) rfl (N_inc i) (by decide) rfl (fun ls hl => ?_)
                refine lv_goto (tgt := 27) hx hb d_Model_start_60 (by decide) ?_
                exact ih27 (i + 1) (by omega) (by rw [← he, anyG, if_neg (by simp; omega)]) _ _ hW ls (lv_sub hl [1, 2, 3, 0] rfl)
              · refine lv_aload_n hx hb d_Model_start_45 rfl (lv_at hl 0 rfl) ?_
                refine R_get X hW i_Model rfl 8 (by decide) kf_Model_22 0 rfl rfl d_Model_start_46 ?_
                refine lv_iload_n hx hb d_Model_start_49 rfl (lv_at hl 3 rfl) ?_
                refine R_iald X hW (t0 := 0) rfl 5 rfl (k := i) (by omega) (by decide) d_Model_start_50 ?_
                refine lv_iload_n hx hb d_Model_start_51 rfl (lv_at hl 2 rfl) ?_
                refine N_icmp_ge_NN hx hb (by omega) (by omega) (tgt := 57) d_Model_start_52 (by decide) (fun c52 => ?_) (fun c52 => ?_)
                · refine lv_iinc (v := (nI (i + 1))) (lv' := [(3, .int (nI (i + 1))), (0, .ref (hm 0)), (1, .int (nI x)), (2, .int (nI y))]) hx hb d_Model_start_57 hl (k := 3) rfl (N_inc i) (by decide) rfl (fun ls hl => ?_)
                  refine lv_goto (tgt := 27) hx hb d_Model_start_60 (by decide) ?_
                  exact ih27 (i + 1) (by omega) (by rw [← he, anyG, if_neg (by simp; omega)]) _ _ hW ls (lv_sub hl [1, 2, 3, 0] rfl)
                · exfalso; rw [anyG, if_pos (by simp; omega), hany] at he; cases he
        exact L27 ns 0 (by omega) rfl _ _ hW ls (lv_sub hl [1, 2, 3, 0] rfl)
      · exfalso; omega

theorem kb_Model_isPuzzle : Cond.code y_Model_isPuzzle b_Model_isPuzzle 2 (some .boolean) ∈ TBL := TBL_t (List.mem_append_right _ (List.mem_append_right _ (List.mem_of_getElem? (i := 131) rfl))) rfl
theorem km_Model_97 : Cond.methodLink "ContestRowsModel" 97 y_Model_isPuzzle ∈ TBL := TBL_t (List.mem_append_right _ (List.mem_append_right _ (List.mem_of_getElem? (i := 128) rfl))) rfl
theorem cw_Model_97 : Cw "ContestRowsModel" 97 y_Model_isPuzzle b_Model_isPuzzle 2 (some .boolean) 1 := ⟨kb_Model_isPuzzle, kn_Model, km_Model_97, by decide +kernel⟩
theorem ki_Model_isPuzzle : Cond.instanceMethod y_Model_isPuzzle ∈ TBL := TBL_t (List.mem_append_right _ (List.mem_append_right _ (List.mem_of_getElem? (i := 130) rfl))) rfl
theorem ks_Model_isPuzzle : Cond.selects "ContestRowsModel" y_Model_isPuzzle y_Model_isPuzzle ∈ TBL := TBL_in (List.mem_append_left _ (List.mem_map.mpr ⟨(y_Model_isPuzzle, 22), by decide +kernel, rfl⟩)) rfl
set_option maxHeartbeats 4000000 in
set_option maxRecDepth 100000 in
theorem m_submit_bad (l : Launch) (G : va_G) (cI cZ cJ : ClassId) (hm : Nat → Nat) (mth : Nat) (np : Nat) (ne : Nat) (ns : Nat) (tl : Nat) (mbd : Option Nat) (gr : Nat → Nat) (stt : Nat → Option Nat) (sp : Nat → Nat) (sq : Nat → Nat) (sec : Nat → Nat) (ans : Nat → Nat) (rt : Nat → Bool) (nw : Nat → Nat) (mtd : Nat → Nat) (un : Nat → Nat) (mss : Nat → Nat) (msc : Nat → Nat) (mip : Nat → Bool) (mcb : Nat → Bool) (msco : Nat → Nat) (mtim : Nat → Nat) (x : Int32) (y : Int32) (t : Int32) (w : Int32) (b : Bool) (hbad : ¬ (inB x ne = true ∧ inB y np = true)) (hI : IS np ne ns gr nw sp sq sec (fun i => i) ans stt) : Ct l G (tyL cI cZ cJ) y_Model_submit b_Model_submit 6 (some .int) (rmL 1) [.ref (hm 0), .int x, .int y, .int t, .int w, .int (bI b)] (w_M hm cI cZ cJ mth np ne ns tl mbd gr stt sp sq sec ans rt nw mtd un mss msc mip mcb msco mtim) (some (.int (-1))) (w_M hm cI cZ cJ 0 np ne ns tl mbd gr stt sp sq sec ans rt nw mtd un mss msc mip mcb msco mtim) := by
  refine M_start (by decide) (Nat.le_of_ble_eq_true rfl) ?_
  intro p e s m args below meth c A Q ls X Y hW hl
  have hx := X.1.1
  have hb := X.1.2.1
  have hl : lv_has ls 6 [(0, .ref (hm 0)), (1, .int x), (2, .int y), (3, .int t), (4, .int w), (5, .int (bI b))] := hl
  obtain ⟨z1, z2, z3, z4, z5, z6, z7, z8, z9, z10, z11, z12, z13⟩ := id hI
  refine lv_aload_n hx hb d_Model_submit_0 rfl (lv_at hl 0 rfl) ?_
  refine lv_iconst (v := (nI 0)) hx hb d_Model_submit_1 (by decide +kernel) ?_
  refine R_put X hW i_Model rfl t_Model t_Model_ok n_Model 0 (by decide) kf_Model_60 rfl (ty := .int) (by decide +kernel) 0 rfl (v := .int (nI 0)) rfl rfl (Nat.le_of_ble_eq_true rfl) d_Model_submit_2 (fun H locs hW => ?_)
  have hW : Wr G A s.heap (w_M hm cI cZ cJ 0 np ne ns tl mbd gr stt sp sq sec ans rt nw mtd un mss msc mip mcb msco mtim) H locs := hW
  refine lv_aload_n hx hb d_Model_submit_5 rfl (lv_at hl 0 rfl) ?_
  refine lv_iload_n hx hb d_Model_submit_6 rfl (lv_at hl 1 rfl) ?_
  refine R_callV (q0 := 0) (m_isPerson l G cI cZ cJ hm 0 np ne ns tl mbd gr stt sp sq sec ans rt nw mtd un mss msc mip mcb msco mtim x (by omega)) X rfl hW cw_Model_93 ki_Model_isPerson ks_Model_isPerson rfl rfl ⟨rfl, rfl⟩ ⟨by decide, by decide⟩ ⟨Nat.zero_le _, Nat.zero_le _⟩ [true, true, true, true, true, true, true, true, true, true, true, true, true, true, true, true, true] rfl (Nat.le_of_ble_eq_true rfl) rfl rfl hl.1 rfl rfl (Nat.le_of_ble_eq_true rfl) d_Model_submit_7 rfl (fun H locs hW => ?_)
  have hW : Wr G A s.heap (w_M hm cI cZ cJ 0 np ne ns tl mbd gr stt sp sq sec ans rt nw mtd un mss msc mip mcb msco mtim) H locs := hW
  refine N_if_eq_B hx hb  (tgt := 57) d_Model_submit_10 (by decide) (fun c10 => ?_) (fun c10 => ?_)
  · refine lv_iconst (v := (-1)) hx hb d_Model_submit_57 (by decide +kernel) ?_
    exact R_iret X Y hW rfl rfl d_Model_submit_58
  · refine lv_aload_n hx hb d_Model_submit_13 rfl (lv_at hl 0 rfl) ?_
    refine lv_iload_n hx hb d_Model_submit_14 rfl (lv_at hl 2 rfl) ?_
    refine R_callV (q0 := 0) (m_isPuzzle l G cI cZ cJ hm 0 np ne ns tl mbd gr stt sp sq sec ans rt nw mtd un mss msc mip mcb msco mtim y (by omega)) X rfl hW cw_Model_97 ki_Model_isPuzzle ks_Model_isPuzzle rfl rfl ⟨rfl, rfl⟩ ⟨by decide, by decide⟩ ⟨Nat.zero_le _, Nat.zero_le _⟩ [true, true, true, true, true, true, true, true, true, true, true, true, true, true, true, true, true] rfl (Nat.le_of_ble_eq_true rfl) rfl rfl hl.1 rfl rfl (Nat.le_of_ble_eq_true rfl) d_Model_submit_15 rfl (fun H locs hW => ?_)
    have hW : Wr G A s.heap (w_M hm cI cZ cJ 0 np ne ns tl mbd gr stt sp sq sec ans rt nw mtd un mss msc mip mcb msco mtim) H locs := hW
    refine N_if_eq_B hx hb  (tgt := 57) d_Model_submit_18 (by decide) (fun c18 => ?_) (fun c18 => ?_)
    · refine lv_iconst (v := (-1)) hx hb d_Model_submit_57 (by decide +kernel) ?_
      exact R_iret X Y hW rfl rfl d_Model_submit_58
    · exact absurd ⟨c10, c18⟩ hbad

set_option maxHeartbeats 4000000 in
set_option maxRecDepth 100000 in
theorem m_submit_neg (l : Launch) (G : va_G) (cI cZ cJ : ClassId) (hm : Nat → Nat) (mth : Nat) (np : Nat) (ne : Nat) (ns : Nat) (tl : Nat) (mbd : Option Nat) (gr : Nat → Nat) (stt : Nat → Option Nat) (sp : Nat → Nat) (sq : Nat → Nat) (sec : Nat → Nat) (ans : Nat → Nat) (rt : Nat → Bool) (nw : Nat → Nat) (mtd : Nat → Nat) (un : Nat → Nat) (mss : Nat → Nat) (msc : Nat → Nat) (mip : Nat → Bool) (mcb : Nat → Bool) (msco : Nat → Nat) (mtim : Nat → Nat) (x : Nat) (y : Nat) (t : Int32) (w : Int32) (b : Bool) (hx0 : x < ne) (hy0 : y < np) (hw0 : w.toInt < 0) (hI : IS np ne ns gr nw sp sq sec (fun i => i) ans stt) : Ct l G (tyL cI cZ cJ) y_Model_submit b_Model_submit 6 (some .int) (rmL 1) [.ref (hm 0), .int (nI x), .int (nI y), .int t, .int w, .int (bI b)] (w_M hm cI cZ cJ mth np ne ns tl mbd gr stt sp sq sec ans rt nw mtd un mss msc mip mcb msco mtim) (some (.int (-1))) (w_M hm cI cZ cJ 0 np ne ns tl mbd gr stt sp sq sec ans rt nw mtd un mss msc mip mcb msco mtim) := by
  refine M_start (by decide) (Nat.le_of_ble_eq_true rfl) ?_
  intro p e s m args below meth c A Q ls X Y hW hl
  have hx := X.1.1
  have hb := X.1.2.1
  have hl : lv_has ls 6 [(0, .ref (hm 0)), (1, .int (nI x)), (2, .int (nI y)), (3, .int t), (4, .int w), (5, .int (bI b))] := hl
  obtain ⟨z1, z2, z3, z4, z5, z6, z7, z8, z9, z10, z11, z12, z13⟩ := id hI
  refine lv_aload_n hx hb d_Model_submit_0 rfl (lv_at hl 0 rfl) ?_
  refine lv_iconst (v := (nI 0)) hx hb d_Model_submit_1 (by decide +kernel) ?_
  refine R_put X hW i_Model rfl t_Model t_Model_ok n_Model 0 (by decide) kf_Model_60 rfl (ty := .int) (by decide +kernel) 0 rfl (v := .int (nI 0)) rfl rfl (Nat.le_of_ble_eq_true rfl) d_Model_submit_2 (fun H locs hW => ?_)
  have hW : Wr G A s.heap (w_M hm cI cZ cJ 0 np ne ns tl mbd gr stt sp sq sec ans rt nw mtd un mss msc mip mcb msco mtim) H locs := hW
  refine lv_aload_n hx hb d_Model_submit_5 rfl (lv_at hl 0 rfl) ?_
  refine lv_iload_n hx hb d_Model_submit_6 rfl (lv_at hl 1 rfl) ?_
  refine R_callV (q0 := 0) (m_isPerson l G cI cZ cJ hm 0 np ne ns tl mbd gr stt sp sq sec ans rt nw mtd un mss msc mip mcb msco mtim (nI x) (by omega)) X rfl hW cw_Model_93 ki_Model_isPerson ks_Model_isPerson rfl rfl ⟨rfl, rfl⟩ ⟨by decide, by decide⟩ ⟨Nat.zero_le _, Nat.zero_le _⟩ [true, true, true, true, true, true, true, true, true, true, true, true, true, true, true, true, true] rfl (Nat.le_of_ble_eq_true rfl) rfl rfl hl.1 rfl rfl (Nat.le_of_ble_eq_true rfl) d_Model_submit_7 rfl (fun H locs hW => ?_)
  have hW : Wr G A s.heap (w_M hm cI cZ cJ 0 np ne ns tl mbd gr stt sp sq sec ans rt nw mtd un mss msc mip mcb msco mtim) H locs := hW
  refine N_if_eq_B hx hb  (tgt := 57) d_Model_submit_10 (by decide) (fun c10 => ?_) (fun c10 => ?_)
  · exfalso; rw [inB_nI (by omega) (by omega)] at c10; cases c10
  · refine lv_aload_n hx hb d_Model_submit_13 rfl (lv_at hl 0 rfl) ?_
    refine lv_iload_n hx hb d_Model_submit_14 rfl (lv_at hl 2 rfl) ?_
    refine R_callV (q0 := 0) (m_isPuzzle l G cI cZ cJ hm 0 np ne ns tl mbd gr stt sp sq sec ans rt nw mtd un mss msc mip mcb msco mtim (nI y) (by omega)) X rfl hW cw_Model_97 ki_Model_isPuzzle ks_Model_isPuzzle rfl rfl ⟨rfl, rfl⟩ ⟨by decide, by decide⟩ ⟨Nat.zero_le _, Nat.zero_le _⟩ [true, true, true, true, true, true, true, true, true, true, true, true, true, true, true, true, true] rfl (Nat.le_of_ble_eq_true rfl) rfl rfl hl.1 rfl rfl (Nat.le_of_ble_eq_true rfl) d_Model_submit_15 rfl (fun H locs hW => ?_)
    have hW : Wr G A s.heap (w_M hm cI cZ cJ 0 np ne ns tl mbd gr stt sp sq sec ans rt nw mtd un mss msc mip mcb msco mtim) H locs := hW
    refine N_if_eq_B hx hb  (tgt := 57) d_Model_submit_18 (by decide) (fun c18 => ?_) (fun c18 => ?_)
    · exfalso; rw [inB_nI (by omega) (by omega)] at c18; cases c18
    · refine lv_aload_n hx hb d_Model_submit_21 rfl (lv_at hl 0 rfl) ?_
      refine R_get X hW i_Model rfl 5 (by decide) kf_Model_13 0 rfl rfl d_Model_submit_22 ?_
      refine lv_aload_n hx hb d_Model_submit_25 rfl (lv_at hl 0 rfl) ?_
      refine lv_iload_n hx hb d_Model_submit_26 rfl (lv_at hl 1 rfl) ?_
      refine R_callV (q0 := 0) (m_isPerson l G cI cZ cJ hm 0 np ne ns tl mbd gr stt sp sq sec ans rt nw mtd un mss msc mip mcb msco mtim (nI x) (by omega)) X rfl hW cw_Model_93 ki_Model_isPerson ks_Model_isPerson rfl rfl ⟨rfl, rfl⟩ ⟨by decide, by decide⟩ ⟨Nat.zero_le _, Nat.zero_le _⟩ [true, true, true, true, true, true, true, true, true, true, true, true, true, true, true, true, true] rfl (Nat.le_of_ble_eq_true rfl) rfl rfl hl.1 rfl rfl (Nat.le_of_ble_eq_true rfl) d_Model_submit_27 rfl (fun H locs hW => ?_)
      have hW : Wr G A s.heap (w_M hm cI cZ cJ 0 np ne ns tl mbd gr stt sp sq sec ans rt nw mtd un mss msc mip mcb msco mtim) H locs := hW
      refine N_if_eq_B hx hb  (tgt := 37) d_Model_submit_30 (by decide) (fun c30 => ?_) (fun c30 => ?_)
      · exfalso; rw [inB_nI (by omega) (by omega)] at c30; cases c30
      · refine lv_iload_n hx hb d_Model_submit_33 rfl (lv_at hl 1 rfl) ?_
        refine lv_goto (tgt := 38) hx hb d_Model_submit_34 (by decide) ?_
        refine R_iald X hW (t0 := 0) rfl 2 rfl (k := x) (by omega) (by decide) d_Model_submit_38 ?_
        refine N_if_lt_O hx hb (fun n hn => by have := z12 x n (by omega) hn; omega) (tgt := 57) d_Model_submit_39 (by decide) (fun c39 => ?_) (fun c39 => ?_)
        · refine lv_iconst (v := (-1)) hx hb d_Model_submit_57 (by decide +kernel) ?_
          exact R_iret X Y hW rfl rfl d_Model_submit_58
        · refine lv_iload hx hb d_Model_submit_42 (lv_at hl 4 rfl) ?_
          refine N_if_lt_R hx hb  (tgt := 57) d_Model_submit_44 (by decide) (fun c44 => ?_) (fun c44 => ?_)
          · refine lv_iconst (v := (-1)) hx hb d_Model_submit_57 (by decide +kernel) ?_
            exact R_iret X Y hW rfl rfl d_Model_submit_58
          · exfalso; omega

set_option maxHeartbeats 4000000 in
set_option maxRecDepth 100000 in
theorem m_submit_none (l : Launch) (G : va_G) (cI cZ cJ : ClassId) (hm : Nat → Nat) (mth : Nat) (np : Nat) (ne : Nat) (ns : Nat) (tl : Nat) (mbd : Option Nat) (gr : Nat → Nat) (stt : Nat → Option Nat) (sp : Nat → Nat) (sq : Nat → Nat) (sec : Nat → Nat) (ans : Nat → Nat) (rt : Nat → Bool) (nw : Nat → Nat) (mtd : Nat → Nat) (un : Nat → Nat) (mss : Nat → Nat) (msc : Nat → Nat) (mip : Nat → Bool) (mcb : Nat → Bool) (msco : Nat → Nat) (mtim : Nat → Nat) (x : Nat) (y : Nat) (t : Int32) (w : Nat) (b : Bool) (hx0 : x < ne) (hy0 : y < np) (hw0 : w < 2 ^ 31) (hs0 : stt x = none) (hI : IS np ne ns gr nw sp sq sec (fun i => i) ans stt) : Ct l G (tyL cI cZ cJ) y_Model_submit b_Model_submit 6 (some .int) (rmL 1) [.ref (hm 0), .int (nI x), .int (nI y), .int t, .int (nI w), .int (bI b)] (w_M hm cI cZ cJ mth np ne ns tl mbd gr stt sp sq sec ans rt nw mtd un mss msc mip mcb msco mtim) (some (.int (-1))) (w_M hm cI cZ cJ 0 np ne ns tl mbd gr stt sp sq sec ans rt nw mtd un mss msc mip mcb msco mtim) := by
  refine M_start (by decide) (Nat.le_of_ble_eq_true rfl) ?_
  intro p e s m args below meth c A Q ls X Y hW hl
  have hx := X.1.1
  have hb := X.1.2.1
  have hl : lv_has ls 6 [(0, .ref (hm 0)), (1, .int (nI x)), (2, .int (nI y)), (3, .int t), (4, .int (nI w)), (5, .int (bI b))] := hl
  obtain ⟨z1, z2, z3, z4, z5, z6, z7, z8, z9, z10, z11, z12, z13⟩ := id hI
  refine lv_aload_n hx hb d_Model_submit_0 rfl (lv_at hl 0 rfl) ?_
  refine lv_iconst (v := (nI 0)) hx hb d_Model_submit_1 (by decide +kernel) ?_
  refine R_put X hW i_Model rfl t_Model t_Model_ok n_Model 0 (by decide) kf_Model_60 rfl (ty := .int) (by decide +kernel) 0 rfl (v := .int (nI 0)) rfl rfl (Nat.le_of_ble_eq_true rfl) d_Model_submit_2 (fun H locs hW => ?_)
  have hW : Wr G A s.heap (w_M hm cI cZ cJ 0 np ne ns tl mbd gr stt sp sq sec ans rt nw mtd un mss msc mip mcb msco mtim) H locs := hW
  refine lv_aload_n hx hb d_Model_submit_5 rfl (lv_at hl 0 rfl) ?_
  refine lv_iload_n hx hb d_Model_submit_6 rfl (lv_at hl 1 rfl) ?_
  refine R_callV (q0 := 0) (m_isPerson l G cI cZ cJ hm 0 np ne ns tl mbd gr stt sp sq sec ans rt nw mtd un mss msc mip mcb msco mtim (nI x) (by omega)) X rfl hW cw_Model_93 ki_Model_isPerson ks_Model_isPerson rfl rfl ⟨rfl, rfl⟩ ⟨by decide, by decide⟩ ⟨Nat.zero_le _, Nat.zero_le _⟩ [true, true, true, true, true, true, true, true, true, true, true, true, true, true, true, true, true] rfl (Nat.le_of_ble_eq_true rfl) rfl rfl hl.1 rfl rfl (Nat.le_of_ble_eq_true rfl) d_Model_submit_7 rfl (fun H locs hW => ?_)
  have hW : Wr G A s.heap (w_M hm cI cZ cJ 0 np ne ns tl mbd gr stt sp sq sec ans rt nw mtd un mss msc mip mcb msco mtim) H locs := hW
  refine N_if_eq_B hx hb  (tgt := 57) d_Model_submit_10 (by decide) (fun c10 => ?_) (fun c10 => ?_)
  · exfalso; rw [inB_nI (by omega) (by omega)] at c10; cases c10
  · refine lv_aload_n hx hb d_Model_submit_13 rfl (lv_at hl 0 rfl) ?_
    refine lv_iload_n hx hb d_Model_submit_14 rfl (lv_at hl 2 rfl) ?_
    refine R_callV (q0 := 0) (m_isPuzzle l G cI cZ cJ hm 0 np ne ns tl mbd gr stt sp sq sec ans rt nw mtd un mss msc mip mcb msco mtim (nI y) (by omega)) X rfl hW cw_Model_97 ki_Model_isPuzzle ks_Model_isPuzzle rfl rfl ⟨rfl, rfl⟩ ⟨by decide, by decide⟩ ⟨Nat.zero_le _, Nat.zero_le _⟩ [true, true, true, true, true, true, true, true, true, true, true, true, true, true, true, true, true] rfl (Nat.le_of_ble_eq_true rfl) rfl rfl hl.1 rfl rfl (Nat.le_of_ble_eq_true rfl) d_Model_submit_15 rfl (fun H locs hW => ?_)
    have hW : Wr G A s.heap (w_M hm cI cZ cJ 0 np ne ns tl mbd gr stt sp sq sec ans rt nw mtd un mss msc mip mcb msco mtim) H locs := hW
    refine N_if_eq_B hx hb  (tgt := 57) d_Model_submit_18 (by decide) (fun c18 => ?_) (fun c18 => ?_)
    · exfalso; rw [inB_nI (by omega) (by omega)] at c18; cases c18
    · refine lv_aload_n hx hb d_Model_submit_21 rfl (lv_at hl 0 rfl) ?_
      refine R_get X hW i_Model rfl 5 (by decide) kf_Model_13 0 rfl rfl d_Model_submit_22 ?_
      refine lv_aload_n hx hb d_Model_submit_25 rfl (lv_at hl 0 rfl) ?_
      refine lv_iload_n hx hb d_Model_submit_26 rfl (lv_at hl 1 rfl) ?_
      refine R_callV (q0 := 0) (m_isPerson l G cI cZ cJ hm 0 np ne ns tl mbd gr stt sp sq sec ans rt nw mtd un mss msc mip mcb msco mtim (nI x) (by omega)) X rfl hW cw_Model_93 ki_Model_isPerson ks_Model_isPerson rfl rfl ⟨rfl, rfl⟩ ⟨by decide, by decide⟩ ⟨Nat.zero_le _, Nat.zero_le _⟩ [true, true, true, true, true, true, true, true, true, true, true, true, true, true, true, true, true] rfl (Nat.le_of_ble_eq_true rfl) rfl rfl hl.1 rfl rfl (Nat.le_of_ble_eq_true rfl) d_Model_submit_27 rfl (fun H locs hW => ?_)
      have hW : Wr G A s.heap (w_M hm cI cZ cJ 0 np ne ns tl mbd gr stt sp sq sec ans rt nw mtd un mss msc mip mcb msco mtim) H locs := hW
      refine N_if_eq_B hx hb  (tgt := 37) d_Model_submit_30 (by decide) (fun c30 => ?_) (fun c30 => ?_)
      · exfalso; rw [inB_nI (by omega) (by omega)] at c30; cases c30
      · refine lv_iload_n hx hb d_Model_submit_33 rfl (lv_at hl 1 rfl) ?_
        refine lv_goto (tgt := 38) hx hb d_Model_submit_34 (by decide) ?_
        refine R_iald X hW (t0 := 0) rfl 2 rfl (k := x) (by omega) (by decide) d_Model_submit_38 ?_
        refine N_if_lt_O hx hb (fun n hn => by have := z12 x n (by omega) hn; omega) (tgt := 57) d_Model_submit_39 (by decide) (fun c39 => ?_) (fun c39 => ?_)
        · refine lv_iconst (v := (-1)) hx hb d_Model_submit_57 (by decide +kernel) ?_
          exact R_iret X Y hW rfl rfl d_Model_submit_58
        · exact absurd hs0 c39

set_option maxHeartbeats 4000000 in
set_option maxRecDepth 100000 in
theorem m_submit_full (l : Launch) (G : va_G) (cI cZ cJ : ClassId) (hm : Nat → Nat) (mth : Nat) (np : Nat) (ne : Nat) (ns : Nat) (tl : Nat) (mbd : Option Nat) (gr : Nat → Nat) (stt : Nat → Option Nat) (sp : Nat → Nat) (sq : Nat → Nat) (sec : Nat → Nat) (ans : Nat → Nat) (rt : Nat → Bool) (nw : Nat → Nat) (mtd : Nat → Nat) (un : Nat → Nat) (mss : Nat → Nat) (msc : Nat → Nat) (mip : Nat → Bool) (mcb : Nat → Bool) (msco : Nat → Nat) (mtim : Nat → Nat) (x : Nat) (y : Nat) (t : Int32) (w : Nat) (b : Bool) (s0 : Nat) (hx0 : x < ne) (hy0 : y < np) (hw0 : w < 2 ^ 31) (hs0 : stt x = some s0) (hns : ns = 300) (hI : IS np ne ns gr nw sp sq sec (fun i => i) ans stt) : Ct l G (tyL cI cZ cJ) y_Model_submit b_Model_submit 6 (some .int) (rmL 1) [.ref (hm 0), .int (nI x), .int (nI y), .int t, .int (nI w), .int (bI b)] (w_M hm cI cZ cJ mth np ne ns tl mbd gr stt sp sq sec ans rt nw mtd un mss msc mip mcb msco mtim) (some (.int (-1))) (w_M hm cI cZ cJ 0 np ne ns tl mbd gr stt sp sq sec ans rt nw mtd un mss msc mip mcb msco mtim) := by
  refine M_start (by decide) (Nat.le_of_ble_eq_true rfl) ?_
  intro p e s m args below meth c A Q ls X Y hW hl
  have hx := X.1.1
  have hb := X.1.2.1
  have hl : lv_has ls 6 [(0, .ref (hm 0)), (1, .int (nI x)), (2, .int (nI y)), (3, .int t), (4, .int (nI w)), (5, .int (bI b))] := hl
  obtain ⟨z1, z2, z3, z4, z5, z6, z7, z8, z9, z10, z11, z12, z13⟩ := id hI
  refine lv_aload_n hx hb d_Model_submit_0 rfl (lv_at hl 0 rfl) ?_
  refine lv_iconst (v := (nI 0)) hx hb d_Model_submit_1 (by decide +kernel) ?_
  refine R_put X hW i_Model rfl t_Model t_Model_ok n_Model 0 (by decide) kf_Model_60 rfl (ty := .int) (by decide +kernel) 0 rfl (v := .int (nI 0)) rfl rfl (Nat.le_of_ble_eq_true rfl) d_Model_submit_2 (fun H locs hW => ?_)
  have hW : Wr G A s.heap (w_M hm cI cZ cJ 0 np ne ns tl mbd gr stt sp sq sec ans rt nw mtd un mss msc mip mcb msco mtim) H locs := hW
  refine lv_aload_n hx hb d_Model_submit_5 rfl (lv_at hl 0 rfl) ?_
  refine lv_iload_n hx hb d_Model_submit_6 rfl (lv_at hl 1 rfl) ?_
  refine R_callV (q0 := 0) (m_isPerson l G cI cZ cJ hm 0 np ne ns tl mbd gr stt sp sq sec ans rt nw mtd un mss msc mip mcb msco mtim (nI x) (by omega)) X rfl hW cw_Model_93 ki_Model_isPerson ks_Model_isPerson rfl rfl ⟨rfl, rfl⟩ ⟨by decide, by decide⟩ ⟨Nat.zero_le _, Nat.zero_le _⟩ [true, true, true, true, true, true, true, true, true, true, true, true, true, true, true, true, true] rfl (Nat.le_of_ble_eq_true rfl) rfl rfl hl.1 rfl rfl (Nat.le_of_ble_eq_true rfl) d_Model_submit_7 rfl (fun H locs hW => ?_)
  have hW : Wr G A s.heap (w_M hm cI cZ cJ 0 np ne ns tl mbd gr stt sp sq sec ans rt nw mtd un mss msc mip mcb msco mtim) H locs := hW
  refine N_if_eq_B hx hb  (tgt := 57) d_Model_submit_10 (by decide) (fun c10 => ?_) (fun c10 => ?_)
  · exfalso; rw [inB_nI (by omega) (by omega)] at c10; cases c10
  · refine lv_aload_n hx hb d_Model_submit_13 rfl (lv_at hl 0 rfl) ?_
    refine lv_iload_n hx hb d_Model_submit_14 rfl (lv_at hl 2 rfl) ?_
    refine R_callV (q0 := 0) (m_isPuzzle l G cI cZ cJ hm 0 np ne ns tl mbd gr stt sp sq sec ans rt nw mtd un mss msc mip mcb msco mtim (nI y) (by omega)) X rfl hW cw_Model_97 ki_Model_isPuzzle ks_Model_isPuzzle rfl rfl ⟨rfl, rfl⟩ ⟨by decide, by decide⟩ ⟨Nat.zero_le _, Nat.zero_le _⟩ [true, true, true, true, true, true, true, true, true, true, true, true, true, true, true, true, true] rfl (Nat.le_of_ble_eq_true rfl) rfl rfl hl.1 rfl rfl (Nat.le_of_ble_eq_true rfl) d_Model_submit_15 rfl (fun H locs hW => ?_)
    have hW : Wr G A s.heap (w_M hm cI cZ cJ 0 np ne ns tl mbd gr stt sp sq sec ans rt nw mtd un mss msc mip mcb msco mtim) H locs := hW
    refine N_if_eq_B hx hb  (tgt := 57) d_Model_submit_18 (by decide) (fun c18 => ?_) (fun c18 => ?_)
    · exfalso; rw [inB_nI (by omega) (by omega)] at c18; cases c18
    · refine lv_aload_n hx hb d_Model_submit_21 rfl (lv_at hl 0 rfl) ?_
      refine R_get X hW i_Model rfl 5 (by decide) kf_Model_13 0 rfl rfl d_Model_submit_22 ?_
      refine lv_aload_n hx hb d_Model_submit_25 rfl (lv_at hl 0 rfl) ?_
      refine lv_iload_n hx hb d_Model_submit_26 rfl (lv_at hl 1 rfl) ?_
      refine R_callV (q0 := 0) (m_isPerson l G cI cZ cJ hm 0 np ne ns tl mbd gr stt sp sq sec ans rt nw mtd un mss msc mip mcb msco mtim (nI x) (by omega)) X rfl hW cw_Model_93 ki_Model_isPerson ks_Model_isPerson rfl rfl ⟨rfl, rfl⟩ ⟨by decide, by decide⟩ ⟨Nat.zero_le _, Nat.zero_le _⟩ [true, true, true, true, true, true, true, true, true, true, true, true, true, true, true, true, true] rfl (Nat.le_of_ble_eq_true rfl) rfl rfl hl.1 rfl rfl (Nat.le_of_ble_eq_true rfl) d_Model_submit_27 rfl (fun H locs hW => ?_)
      have hW : Wr G A s.heap (w_M hm cI cZ cJ 0 np ne ns tl mbd gr stt sp sq sec ans rt nw mtd un mss msc mip mcb msco mtim) H locs := hW
      refine N_if_eq_B hx hb  (tgt := 37) d_Model_submit_30 (by decide) (fun c30 => ?_) (fun c30 => ?_)
      · exfalso; rw [inB_nI (by omega) (by omega)] at c30; cases c30
      · refine lv_iload_n hx hb d_Model_submit_33 rfl (lv_at hl 1 rfl) ?_
        refine lv_goto (tgt := 38) hx hb d_Model_submit_34 (by decide) ?_
        refine R_iald X hW (t0 := 0) rfl 2 rfl (k := x) (by omega) (by decide) d_Model_submit_38 ?_
        refine N_if_lt_O hx hb (fun n hn => by have := z12 x n (by omega) hn; omega) (tgt := 57) d_Model_submit_39 (by decide) (fun c39 => ?_) (fun c39 => ?_)
        · exfalso; rw [hs0] at c39; cases c39
        · refine lv_iload hx hb d_Model_submit_42 (lv_at hl 4 rfl) ?_
          refine N_if_lt_N hx hb (by omega) (tgt := 57) d_Model_submit_44 (by decide) (fun c44 => ?_) (fun c44 => ?_)
          · exfalso; omega
          · refine lv_aload_n hx hb d_Model_submit_47 rfl (lv_at hl 0 rfl) ?_
            refine R_get X hW i_Model rfl 3 (by decide) kf_Model_70 0 rfl rfl d_Model_submit_48 ?_
            refine lv_sipush (v := (nI 300)) hx hb d_Model_submit_51 (by decide +kernel) ?_
            refine N_icmp_ne_NN hx hb (by omega) (by decide) (tgt := 59) d_Model_submit_54 (by decide) (fun c54 => ?_) (fun c54 => ?_)
            · exfalso; omega
            · refine lv_iconst (v := (-1)) hx hb d_Model_submit_57 (by decide +kernel) ?_
              exact R_iret X Y hW rfl rfl d_Model_submit_58

set_option maxHeartbeats 4000000 in
set_option maxRecDepth 100000 in
theorem m_submit_off (l : Launch) (G : va_G) (cI cZ cJ : ClassId) (hm : Nat → Nat) (mth : Nat) (np : Nat) (ne : Nat) (ns : Nat) (tl : Nat) (mbd : Option Nat) (gr : Nat → Nat) (stt : Nat → Option Nat) (sp : Nat → Nat) (sq : Nat → Nat) (sec : Nat → Nat) (ans : Nat → Nat) (rt : Nat → Bool) (nw : Nat → Nat) (mtd : Nat → Nat) (un : Nat → Nat) (mss : Nat → Nat) (msc : Nat → Nat) (mip : Nat → Bool) (mcb : Nat → Bool) (msco : Nat → Nat) (mtim : Nat → Nat) (x : Nat) (y : Nat) (t : Int32) (w : Nat) (b : Bool) (s0 : Nat) (hx0 : x < ne) (hy0 : y < np) (hw0 : w < 2 ^ 31) (hs0 : stt x = some s0) (hns : ns < 300) (hbad : ¬ ((s0 : Int) ≤ t.toInt ∧ t.toInt ≤ 1000000)) (hI : IS np ne ns gr nw sp sq sec (fun i => i) ans stt) : Ct l G (tyL cI cZ cJ) y_Model_submit b_Model_submit 6 (some .int) (rmL 1) [.ref (hm 0), .int (nI x), .int (nI y), .int t, .int (nI w), .int (bI b)] (w_M hm cI cZ cJ mth np ne ns tl mbd gr stt sp sq sec ans rt nw mtd un mss msc mip mcb msco mtim) (some (.int (-1))) (w_M hm cI cZ cJ 0 np ne ns tl mbd gr stt sp sq sec ans rt nw mtd un mss msc mip mcb msco mtim) := by
  refine M_start (by decide) (Nat.le_of_ble_eq_true rfl) ?_
  intro p e s m args below meth c A Q ls X Y hW hl
  have hx := X.1.1
  have hb := X.1.2.1
  have hl : lv_has ls 6 [(0, .ref (hm 0)), (1, .int (nI x)), (2, .int (nI y)), (3, .int t), (4, .int (nI w)), (5, .int (bI b))] := hl
  obtain ⟨z1, z2, z3, z4, z5, z6, z7, z8, z9, z10, z11, z12, z13⟩ := id hI
  have z0 := z12 x s0 (by omega) hs0
  refine lv_aload_n hx hb d_Model_submit_0 rfl (lv_at hl 0 rfl) ?_
  refine lv_iconst (v := (nI 0)) hx hb d_Model_submit_1 (by decide +kernel) ?_
  refine R_put X hW i_Model rfl t_Model t_Model_ok n_Model 0 (by decide) kf_Model_60 rfl (ty := .int) (by decide +kernel) 0 rfl (v := .int (nI 0)) rfl rfl (Nat.le_of_ble_eq_true rfl) d_Model_submit_2 (fun H locs hW => ?_)
  have hW : Wr G A s.heap (w_M hm cI cZ cJ 0 np ne ns tl mbd gr stt sp sq sec ans rt nw mtd un mss msc mip mcb msco mtim) H locs := hW
  refine lv_aload_n hx hb d_Model_submit_5 rfl (lv_at hl 0 rfl) ?_
  refine lv_iload_n hx hb d_Model_submit_6 rfl (lv_at hl 1 rfl) ?_
  refine R_callV (q0 := 0) (m_isPerson l G cI cZ cJ hm 0 np ne ns tl mbd gr stt sp sq sec ans rt nw mtd un mss msc mip mcb msco mtim (nI x) (by omega)) X rfl hW cw_Model_93 ki_Model_isPerson ks_Model_isPerson rfl rfl ⟨rfl, rfl⟩ ⟨by decide, by decide⟩ ⟨Nat.zero_le _, Nat.zero_le _⟩ [true, true, true, true, true, true, true, true, true, true, true, true, true, true, true, true, true] rfl (Nat.le_of_ble_eq_true rfl) rfl rfl hl.1 rfl rfl (Nat.le_of_ble_eq_true rfl) d_Model_submit_7 rfl (fun H locs hW => ?_)
  have hW : Wr G A s.heap (w_M hm cI cZ cJ 0 np ne ns tl mbd gr stt sp sq sec ans rt nw mtd un mss msc mip mcb msco mtim) H locs := hW
  refine N_if_eq_B hx hb  (tgt := 57) d_Model_submit_10 (by decide) (fun c10 => ?_) (fun c10 => ?_)
  · exfalso; rw [inB_nI (by omega) (by omega)] at c10; cases c10
  · refine lv_aload_n hx hb d_Model_submit_13 rfl (lv_at hl 0 rfl) ?_
    refine lv_iload_n hx hb d_Model_submit_14 rfl (lv_at hl 2 rfl) ?_
    refine R_callV (q0 := 0) (m_isPuzzle l G cI cZ cJ hm 0 np ne ns tl mbd gr stt sp sq sec ans rt nw mtd un mss msc mip mcb msco mtim (nI y) (by omega)) X rfl hW cw_Model_97 ki_Model_isPuzzle ks_Model_isPuzzle rfl rfl ⟨rfl, rfl⟩ ⟨by decide, by decide⟩ ⟨Nat.zero_le _, Nat.zero_le _⟩ [true, true, true, true, true, true, true, true, true, true, true, true, true, true, true, true, true] rfl (Nat.le_of_ble_eq_true rfl) rfl rfl hl.1 rfl rfl (Nat.le_of_ble_eq_true rfl) d_Model_submit_15 rfl (fun H locs hW => ?_)
    have hW : Wr G A s.heap (w_M hm cI cZ cJ 0 np ne ns tl mbd gr stt sp sq sec ans rt nw mtd un mss msc mip mcb msco mtim) H locs := hW
    refine N_if_eq_B hx hb  (tgt := 57) d_Model_submit_18 (by decide) (fun c18 => ?_) (fun c18 => ?_)
    · exfalso; rw [inB_nI (by omega) (by omega)] at c18; cases c18
    · refine lv_aload_n hx hb d_Model_submit_21 rfl (lv_at hl 0 rfl) ?_
      refine R_get X hW i_Model rfl 5 (by decide) kf_Model_13 0 rfl rfl d_Model_submit_22 ?_
      refine lv_aload_n hx hb d_Model_submit_25 rfl (lv_at hl 0 rfl) ?_
      refine lv_iload_n hx hb d_Model_submit_26 rfl (lv_at hl 1 rfl) ?_
      refine R_callV (q0 := 0) (m_isPerson l G cI cZ cJ hm 0 np ne ns tl mbd gr stt sp sq sec ans rt nw mtd un mss msc mip mcb msco mtim (nI x) (by omega)) X rfl hW cw_Model_93 ki_Model_isPerson ks_Model_isPerson rfl rfl ⟨rfl, rfl⟩ ⟨by decide, by decide⟩ ⟨Nat.zero_le _, Nat.zero_le _⟩ [true, true, true, true, true, true, true, true, true, true, true, true, true, true, true, true, true] rfl (Nat.le_of_ble_eq_true rfl) rfl rfl hl.1 rfl rfl (Nat.le_of_ble_eq_true rfl) d_Model_submit_27 rfl (fun H locs hW => ?_)
      have hW : Wr G A s.heap (w_M hm cI cZ cJ 0 np ne ns tl mbd gr stt sp sq sec ans rt nw mtd un mss msc mip mcb msco mtim) H locs := hW
      refine N_if_eq_B hx hb  (tgt := 37) d_Model_submit_30 (by decide) (fun c30 => ?_) (fun c30 => ?_)
      · exfalso; rw [inB_nI (by omega) (by omega)] at c30; cases c30
      · refine lv_iload_n hx hb d_Model_submit_33 rfl (lv_at hl 1 rfl) ?_
        refine lv_goto (tgt := 38) hx hb d_Model_submit_34 (by decide) ?_
        refine R_iald X hW (t0 := 0) rfl 2 rfl (k := x) (by omega) (by decide) d_Model_submit_38 ?_
        refine N_if_lt_O hx hb (fun n hn => by have := z12 x n (by omega) hn; omega) (tgt := 57) d_Model_submit_39 (by decide) (fun c39 => ?_) (fun c39 => ?_)
        · exfalso; rw [hs0] at c39; cases c39
        · refine lv_iload hx hb d_Model_submit_42 (lv_at hl 4 rfl) ?_
          refine N_if_lt_N hx hb (by omega) (tgt := 57) d_Model_submit_44 (by decide) (fun c44 => ?_) (fun c44 => ?_)
          · exfalso; omega
          · refine lv_aload_n hx hb d_Model_submit_47 rfl (lv_at hl 0 rfl) ?_
            refine R_get X hW i_Model rfl 3 (by decide) kf_Model_70 0 rfl rfl d_Model_submit_48 ?_
            refine lv_sipush (v := (nI 300)) hx hb d_Model_submit_51 (by decide +kernel) ?_
            refine N_icmp_ne_NN hx hb (by omega) (by decide) (tgt := 59) d_Model_submit_54 (by decide) (fun c54 => ?_) (fun c54 => ?_)
            · refine lv_iload_n hx hb d_Model_submit_59 rfl (lv_at hl 3 rfl) ?_
              refine lv_aload_n hx hb d_Model_submit_60 rfl (lv_at hl 0 rfl) ?_
              refine R_get X hW i_Model rfl 5 (by decide) kf_Model_13 0 rfl rfl d_Model_submit_61 ?_
              refine lv_iload_n hx hb d_Model_submit_64 rfl (lv_at hl 1 rfl) ?_
              refine R_iald X hW (t0 := 0) rfl 2 rfl (k := x) (by omega) (by decide) d_Model_submit_65 ?_
              refine W.eq (g2 := F0 m 66 ls (.int (nI s0) :: .int t :: [])) (by rw [hs0]; first | done | rfl) ?_
              refine N_icmp_lt_RN hx hb (by omega) (tgt := 75) d_Model_submit_66 (by decide) (fun c66 => ?_) (fun c66 => ?_)
              · refine lv_iconst (v := (-1)) hx hb d_Model_submit_75 (by decide +kernel) ?_
                exact R_iret X Y hW rfl rfl d_Model_submit_76
              · refine lv_iload_n hx hb d_Model_submit_69 rfl (lv_at hl 3 rfl) ?_
                refine lv_ldc hx hb X.1.2.2.2.1 (X.1.2.2.2.2 _ kc_Model_96) d_Model_submit_70 ?_
                refine W.eq (g2 := F0 m 72 ls (.int (nI 1000000) :: .int t :: [])) rfl ?_
                refine N_icmp_le_RN hx hb (by decide) (tgt := 77) d_Model_submit_72 (by decide) (fun c72 => ?_) (fun c72 => ?_)
                · exfalso; omega
                · refine lv_iconst (v := (-1)) hx hb d_Model_submit_75 (by decide +kernel) ?_
                  exact R_iret X Y hW rfl rfl d_Model_submit_76
            · exfalso; omega

theorem kf_Model_25 : Cond.fieldLink "ContestRowsModel" 25 "ContestRowsModel" "answers" "[I" ∈ TBL := TBL_t (List.mem_append_right _ (List.mem_append_right _ (List.mem_of_getElem? (i := 26) rfl))) rfl
theorem kf_Model_28 : Cond.fieldLink "ContestRowsModel" 28 "ContestRowsModel" "rights" "[Z" ∈ TBL := TBL_t (List.mem_append_right _ (List.mem_append_right _ (List.mem_of_getElem? (i := 27) rfl))) rfl
set_option maxHeartbeats 4000000 in
set_option maxRecDepth 100000 in
theorem m_submit_ok (l : Launch) (G : va_G) (cI cZ cJ : ClassId) (hm : Nat → Nat) (mth : Nat) (np : Nat) (ne : Nat) (ns : Nat) (tl : Nat) (mbd : Option Nat) (gr : Nat → Nat) (stt : Nat → Option Nat) (sp : Nat → Nat) (sq : Nat → Nat) (sec : Nat → Nat) (ans : Nat → Nat) (rt : Nat → Bool) (nw : Nat → Nat) (mtd : Nat → Nat) (un : Nat → Nat) (mss : Nat → Nat) (msc : Nat → Nat) (mip : Nat → Bool) (mcb : Nat → Bool) (msco : Nat → Nat) (mtim : Nat → Nat) (x : Nat) (y : Nat) (t : Nat) (w : Nat) (b : Bool) (s0 : Nat) (hx0 : x < ne) (hy0 : y < np) (hw0 : w < 2 ^ 31) (hs0 : stt x = some s0) (hns : ns < 300) (hok : s0 ≤ t ∧ t ≤ 1000000) (hI : IS np ne ns gr nw sp sq sec (fun i => i) ans stt) : Ct l G (tyL cI cZ cJ) y_Model_submit b_Model_submit 6 (some .int) (rmL 1) [.ref (hm 0), .int (nI x), .int (nI y), .int (nI t), .int (nI w), .int (bI b)] (w_M hm cI cZ cJ mth np ne ns tl mbd gr stt sp sq sec ans rt nw mtd un mss msc mip mcb msco mtim) (some (.int (nI ns))) (w_M hm cI cZ cJ 0 np ne (ns + 1) tl mbd gr stt (va_up sp ns x) (va_up sq ns y) (va_up sec ns t) (va_up ans ns w) (va_up rt ns b) nw mtd un mss msc mip mcb msco mtim) := by
  refine M_start (by decide) (Nat.le_of_ble_eq_true rfl) ?_
  intro p e s m args below meth c A Q ls X Y hW hl
  have hx := X.1.1
  have hb := X.1.2.1
  have hl : lv_has ls 6 [(0, .ref (hm 0)), (1, .int (nI x)), (2, .int (nI y)), (3, .int (nI t)), (4, .int (nI w)), (5, .int (bI b))] := hl
  obtain ⟨z1, z2, z3, z4, z5, z6, z7, z8, z9, z10, z11, z12, z13⟩ := id hI
  have z0 := z12 x s0 (by omega) hs0
  refine lv_aload_n hx hb d_Model_submit_0 rfl (lv_at hl 0 rfl) ?_
  refine lv_iconst (v := (nI 0)) hx hb d_Model_submit_1 (by decide +kernel) ?_
  refine R_put X hW i_Model rfl t_Model t_Model_ok n_Model 0 (by decide) kf_Model_60 rfl (ty := .int) (by decide +kernel) 0 rfl (v := .int (nI 0)) rfl rfl (Nat.le_of_ble_eq_true rfl) d_Model_submit_2 (fun H locs hW => ?_)
  have hW : Wr G A s.heap (w_M hm cI cZ cJ 0 np ne ns tl mbd gr stt sp sq sec ans rt nw mtd un mss msc mip mcb msco mtim) H locs := hW
  refine lv_aload_n hx hb d_Model_submit_5 rfl (lv_at hl 0 rfl) ?_
  refine lv_iload_n hx hb d_Model_submit_6 rfl (lv_at hl 1 rfl) ?_
  refine R_callV (q0 := 0) (m_isPerson l G cI cZ cJ hm 0 np ne ns tl mbd gr stt sp sq sec ans rt nw mtd un mss msc mip mcb msco mtim (nI x) (by omega)) X rfl hW cw_Model_93 ki_Model_isPerson ks_Model_isPerson rfl rfl ⟨rfl, rfl⟩ ⟨by decide, by decide⟩ ⟨Nat.zero_le _, Nat.zero_le _⟩ [true, true, true, true, true, true, true, true, true, true, true, true, true, true, true, true, true] rfl (Nat.le_of_ble_eq_true rfl) rfl rfl hl.1 rfl rfl (Nat.le_of_ble_eq_true rfl) d_Model_submit_7 rfl (fun H locs hW => ?_)
  have hW : Wr G A s.heap (w_M hm cI cZ cJ 0 np ne ns tl mbd gr stt sp sq sec ans rt nw mtd un mss msc mip mcb msco mtim) H locs := hW
  refine N_if_eq_B hx hb  (tgt := 57) d_Model_submit_10 (by decide) (fun c10 => ?_) (fun c10 => ?_)
  · exfalso; rw [inB_nI (by omega) (by omega)] at c10; cases c10
  · refine lv_aload_n hx hb d_Model_submit_13 rfl (lv_at hl 0 rfl) ?_
    refine lv_iload_n hx hb d_Model_submit_14 rfl (lv_at hl 2 rfl) ?_
    refine R_callV (q0 := 0) (m_isPuzzle l G cI cZ cJ hm 0 np ne ns tl mbd gr stt sp sq sec ans rt nw mtd un mss msc mip mcb msco mtim (nI y) (by omega)) X rfl hW cw_Model_97 ki_Model_isPuzzle ks_Model_isPuzzle rfl rfl ⟨rfl, rfl⟩ ⟨by decide, by decide⟩ ⟨Nat.zero_le _, Nat.zero_le _⟩ [true, true, true, true, true, true, true, true, true, true, true, true, true, true, true, true, true] rfl (Nat.le_of_ble_eq_true rfl) rfl rfl hl.1 rfl rfl (Nat.le_of_ble_eq_true rfl) d_Model_submit_15 rfl (fun H locs hW => ?_)
    have hW : Wr G A s.heap (w_M hm cI cZ cJ 0 np ne ns tl mbd gr stt sp sq sec ans rt nw mtd un mss msc mip mcb msco mtim) H locs := hW
    refine N_if_eq_B hx hb  (tgt := 57) d_Model_submit_18 (by decide) (fun c18 => ?_) (fun c18 => ?_)
    · exfalso; rw [inB_nI (by omega) (by omega)] at c18; cases c18
    · refine lv_aload_n hx hb d_Model_submit_21 rfl (lv_at hl 0 rfl) ?_
      refine R_get X hW i_Model rfl 5 (by decide) kf_Model_13 0 rfl rfl d_Model_submit_22 ?_
      refine lv_aload_n hx hb d_Model_submit_25 rfl (lv_at hl 0 rfl) ?_
      refine lv_iload_n hx hb d_Model_submit_26 rfl (lv_at hl 1 rfl) ?_
      refine R_callV (q0 := 0) (m_isPerson l G cI cZ cJ hm 0 np ne ns tl mbd gr stt sp sq sec ans rt nw mtd un mss msc mip mcb msco mtim (nI x) (by omega)) X rfl hW cw_Model_93 ki_Model_isPerson ks_Model_isPerson rfl rfl ⟨rfl, rfl⟩ ⟨by decide, by decide⟩ ⟨Nat.zero_le _, Nat.zero_le _⟩ [true, true, true, true, true, true, true, true, true, true, true, true, true, true, true, true, true] rfl (Nat.le_of_ble_eq_true rfl) rfl rfl hl.1 rfl rfl (Nat.le_of_ble_eq_true rfl) d_Model_submit_27 rfl (fun H locs hW => ?_)
      have hW : Wr G A s.heap (w_M hm cI cZ cJ 0 np ne ns tl mbd gr stt sp sq sec ans rt nw mtd un mss msc mip mcb msco mtim) H locs := hW
      refine N_if_eq_B hx hb  (tgt := 37) d_Model_submit_30 (by decide) (fun c30 => ?_) (fun c30 => ?_)
      · exfalso; rw [inB_nI (by omega) (by omega)] at c30; cases c30
      · refine lv_iload_n hx hb d_Model_submit_33 rfl (lv_at hl 1 rfl) ?_
        refine lv_goto (tgt := 38) hx hb d_Model_submit_34 (by decide) ?_
        refine R_iald X hW (t0 := 0) rfl 2 rfl (k := x) (by omega) (by decide) d_Model_submit_38 ?_
        refine N_if_lt_O hx hb (fun n hn => by have := z12 x n (by omega) hn; omega) (tgt := 57) d_Model_submit_39 (by decide) (fun c39 => ?_) (fun c39 => ?_)
        · exfalso; rw [hs0] at c39; cases c39
        · refine lv_iload hx hb d_Model_submit_42 (lv_at hl 4 rfl) ?_
          refine N_if_lt_N hx hb (by omega) (tgt := 57) d_Model_submit_44 (by decide) (fun c44 => ?_) (fun c44 => ?_)
          · exfalso; omega
          · refine lv_aload_n hx hb d_Model_submit_47 rfl (lv_at hl 0 rfl) ?_
            refine R_get X hW i_Model rfl 3 (by decide) kf_Model_70 0 rfl rfl d_Model_submit_48 ?_
            refine lv_sipush (v := (nI 300)) hx hb d_Model_submit_51 (by decide +kernel) ?_
            refine N_icmp_ne_NN hx hb (by omega) (by decide) (tgt := 59) d_Model_submit_54 (by decide) (fun c54 => ?_) (fun c54 => ?_)
            · refine lv_iload_n hx hb d_Model_submit_59 rfl (lv_at hl 3 rfl) ?_
              refine lv_aload_n hx hb d_Model_submit_60 rfl (lv_at hl 0 rfl) ?_
              refine R_get X hW i_Model rfl 5 (by decide) kf_Model_13 0 rfl rfl d_Model_submit_61 ?_
              refine lv_iload_n hx hb d_Model_submit_64 rfl (lv_at hl 1 rfl) ?_
              refine R_iald X hW (t0 := 0) rfl 2 rfl (k := x) (by omega) (by decide) d_Model_submit_65 ?_
              refine W.eq (g2 := F0 m 66 ls (.int (nI s0) :: .int (nI t) :: [])) (by rw [hs0]; first | done | rfl) ?_
              refine N_icmp_lt_NN hx hb (by omega) (by omega) (tgt := 75) d_Model_submit_66 (by decide) (fun c66 => ?_) (fun c66 => ?_)
              · exfalso; omega
              · refine lv_iload_n hx hb d_Model_submit_69 rfl (lv_at hl 3 rfl) ?_
                refine lv_ldc hx hb X.1.2.2.2.1 (X.1.2.2.2.2 _ kc_Model_96) d_Model_submit_70 ?_
                refine W.eq (g2 := F0 m 72 ls (.int (nI 1000000) :: .int (nI t) :: [])) rfl ?_
                refine N_icmp_le_NN hx hb (by omega) (by decide) (tgt := 77) d_Model_submit_72 (by decide) (fun c72 => ?_) (fun c72 => ?_)
                · refine lv_aload_n hx hb d_Model_submit_77 rfl (lv_at hl 0 rfl) ?_
                  refine R_get X hW i_Model rfl 6 (by decide) kf_Model_16 0 rfl rfl d_Model_submit_78 ?_
                  refine lv_aload_n hx hb d_Model_submit_81 rfl (lv_at hl 0 rfl) ?_
                  refine R_get X hW i_Model rfl 3 (by decide) kf_Model_70 0 rfl rfl d_Model_submit_82 ?_
                  refine lv_iload_n hx hb d_Model_submit_85 rfl (lv_at hl 1 rfl) ?_
                  refine R_iast X hW (t0 := 0) rfl 3 rfl (k := ns) (by omega) (by decide) x rfl d_Model_submit_86 (fun H locs hW => ?_)
                  have hW : Wr G A s.heap (w_M hm cI cZ cJ 0 np ne ns tl mbd gr stt (va_up sp ns x) sq sec ans rt nw mtd un mss msc mip mcb msco mtim) H locs := hW
                  refine lv_aload_n hx hb d_Model_submit_87 rfl (lv_at hl 0 rfl) ?_
                  refine R_get X hW i_Model rfl 7 (by decide) kf_Model_19 0 rfl rfl d_Model_submit_88 ?_
                  refine lv_aload_n hx hb d_Model_submit_91 rfl (lv_at hl 0 rfl) ?_
                  refine R_get X hW i_Model rfl 3 (by decide) kf_Model_70 0 rfl rfl d_Model_submit_92 ?_
                  refine lv_iload_n hx hb d_Model_submit_95 rfl (lv_at hl 2 rfl) ?_
                  refine R_iast X hW (t0 := 0) rfl 4 rfl (k := ns) (by omega) (by decide) y rfl d_Model_submit_96 (fun H locs hW => ?_)
                  have hW : Wr G A s.heap (w_M hm cI cZ cJ 0 np ne ns tl mbd gr stt (va_up sp ns x) (va_up sq ns y) sec ans rt nw mtd un mss msc mip mcb msco mtim) H locs := hW
                  refine lv_aload_n hx hb d_Model_submit_97 rfl (lv_at hl 0 rfl) ?_
                  refine R_get X hW i_Model rfl 8 (by decide) kf_Model_22 0 rfl rfl d_Model_submit_98 ?_
                  refine lv_aload_n hx hb d_Model_submit_101 rfl (lv_at hl 0 rfl) ?_
                  refine R_get X hW i_Model rfl 3 (by decide) kf_Model_70 0 rfl rfl d_Model_submit_102 ?_
                  refine lv_iload_n hx hb d_Model_submit_105 rfl (lv_at hl 3 rfl) ?_
                  refine R_iast X hW (t0 := 0) rfl 5 rfl (k := ns) (by omega) (by decide) t rfl d_Model_submit_106 (fun H locs hW => ?_)
                  have hW : Wr G A s.heap (w_M hm cI cZ cJ 0 np ne ns tl mbd gr stt (va_up sp ns x) (va_up sq ns y) (va_up sec ns t) ans rt nw mtd un mss msc mip mcb msco mtim) H locs := hW
                  refine lv_aload_n hx hb d_Model_submit_107 rfl (lv_at hl 0 rfl) ?_
                  refine R_get X hW i_Model rfl 9 (by decide) kf_Model_25 0 rfl rfl d_Model_submit_108 ?_
                  refine lv_aload_n hx hb d_Model_submit_111 rfl (lv_at hl 0 rfl) ?_
                  refine R_get X hW i_Model rfl 3 (by decide) kf_Model_70 0 rfl rfl d_Model_submit_112 ?_
                  refine lv_iload hx hb d_Model_submit_115 (lv_at hl 4 rfl) ?_
                  refine R_iast X hW (t0 := 0) rfl 6 rfl (k := ns) (by omega) (by decide) w rfl d_Model_submit_117 (fun H locs hW => ?_)
                  have hW : Wr G A s.heap (w_M hm cI cZ cJ 0 np ne ns tl mbd gr stt (va_up sp ns x) (va_up sq ns y) (va_up sec ns t) (va_up ans ns w) rt nw mtd un mss msc mip mcb msco mtim) H locs := hW
                  refine lv_aload_n hx hb d_Model_submit_118 rfl (lv_at hl 0 rfl) ?_
                  refine R_get X hW i_Model rfl 10 (by decide) kf_Model_28 0 rfl rfl d_Model_submit_119 ?_
                  refine lv_aload_n hx hb d_Model_submit_122 rfl (lv_at hl 0 rfl) ?_
                  refine R_get X hW i_Model rfl 3 (by decide) kf_Model_70 0 rfl rfl d_Model_submit_123 ?_
                  refine lv_iload hx hb d_Model_submit_126 (lv_at hl 5 rfl) ?_
                  refine R_zast X hW (t0 := 1) rfl 7 rfl (k := ns) (by omega) (by decide) b rfl d_Model_submit_128 (fun H locs hW => ?_)
                  have hW : Wr G A s.heap (w_M hm cI cZ cJ 0 np ne ns tl mbd gr stt (va_up sp ns x) (va_up sq ns y) (va_up sec ns t) (va_up ans ns w) (va_up rt ns b) nw mtd un mss msc mip mcb msco mtim) H locs := hW
                  refine lv_aload_n hx hb d_Model_submit_129 rfl (lv_at hl 0 rfl) ?_
                  refine lv_dup hx hb d_Model_submit_130 rfl ?_
                  refine R_get X hW i_Model rfl 3 (by decide) kf_Model_70 0 rfl rfl d_Model_submit_131 ?_
                  refine lv_iconst (v := (nI 1)) hx hb d_Model_submit_134 (by decide +kernel) ?_
                  refine N_iadd hx hb d_Model_submit_135 ?_
                  refine R_put X hW i_Model rfl t_Model t_Model_ok n_Model 3 (by decide) kf_Model_70 rfl (ty := .int) (by decide +kernel) 0 rfl (v := .int (nI (ns + 1))) rfl rfl (Nat.le_of_ble_eq_true rfl) d_Model_submit_136 (fun H locs hW => ?_)
                  have hW : Wr G A s.heap (w_M hm cI cZ cJ 0 np ne (ns + 1) tl mbd gr stt (va_up sp ns x) (va_up sq ns y) (va_up sec ns t) (va_up ans ns w) (va_up rt ns b) nw mtd un mss msc mip mcb msco mtim) H locs := hW
                  refine lv_aload_n hx hb d_Model_submit_139 rfl (lv_at hl 0 rfl) ?_
                  refine R_get X hW i_Model rfl 3 (by decide) kf_Model_70 0 rfl rfl d_Model_submit_140 ?_
                  refine lv_iconst (v := (nI 1)) hx hb d_Model_submit_143 (by decide +kernel) ?_
                  refine N_isub (r := ns) hx hb (by omega) (by omega) d_Model_submit_144 ?_
                  exact R_iret X Y hW rfl rfl d_Model_submit_145
                · exfalso; omega
            · exfalso; omega

theorem kb_Model_isRow : Cond.code y_Model_isRow b_Model_isRow 2 (some .boolean) ∈ TBL := TBL_t (List.mem_append_right _ (List.mem_append_right _ (List.mem_of_getElem? (i := 139) rfl))) rfl
theorem km_Model_100 : Cond.methodLink "ContestRowsModel" 100 y_Model_isRow ∈ TBL := TBL_t (List.mem_append_right _ (List.mem_append_right _ (List.mem_of_getElem? (i := 136) rfl))) rfl
theorem cw_Model_100 : Cw "ContestRowsModel" 100 y_Model_isRow b_Model_isRow 2 (some .boolean) 1 := ⟨kb_Model_isRow, kn_Model, km_Model_100, by decide +kernel⟩
theorem ki_Model_isRow : Cond.instanceMethod y_Model_isRow ∈ TBL := TBL_t (List.mem_append_right _ (List.mem_append_right _ (List.mem_of_getElem? (i := 138) rfl))) rfl
theorem ks_Model_isRow : Cond.selects "ContestRowsModel" y_Model_isRow y_Model_isRow ∈ TBL := TBL_in (List.mem_append_left _ (List.mem_map.mpr ⟨(y_Model_isRow, 22), by decide +kernel, rfl⟩)) rfl
set_option maxHeartbeats 4000000 in
set_option maxRecDepth 100000 in
theorem m_correct_none (l : Launch) (G : va_G) (cI cZ cJ : ClassId) (hm : Nat → Nat) (mth : Nat) (np : Nat) (ne : Nat) (ns : Nat) (tl : Nat) (mbd : Option Nat) (gr : Nat → Nat) (stt : Nat → Option Nat) (sp : Nat → Nat) (sq : Nat → Nat) (sec : Nat → Nat) (ans : Nat → Nat) (rt : Nat → Bool) (nw : Nat → Nat) (mtd : Nat → Nat) (un : Nat → Nat) (mss : Nat → Nat) (msc : Nat → Nat) (mip : Nat → Bool) (mcb : Nat → Bool) (msco : Nat → Nat) (mtim : Nat → Nat) (x : Int32) (b : Bool) (hbad : inB x ns = false) (hns : ns ≤ 300) : Ct l G (tyL cI cZ cJ) y_Model_correct b_Model_correct 3 (some .boolean) (rmL 1) [.ref (hm 0), .int x, .int (bI b)] (w_M hm cI cZ cJ mth np ne ns tl mbd gr stt sp sq sec ans rt nw mtd un mss msc mip mcb msco mtim) (some (.int (bI false))) (w_M hm cI cZ cJ 0 np ne ns tl mbd gr stt sp sq sec ans rt nw mtd un mss msc mip mcb msco mtim) := by
  refine M_start (by decide) (Nat.le_of_ble_eq_true rfl) ?_
  intro p e s m args below meth c A Q ls X Y hW hl
  have hx := X.1.1
  have hb := X.1.2.1
  have hl : lv_has ls 3 [(0, .ref (hm 0)), (1, .int x), (2, .int (bI b))] := hl
  refine lv_aload_n hx hb d_Model_correct_0 rfl (lv_at hl 0 rfl) ?_
  refine lv_iconst (v := (nI 0)) hx hb d_Model_correct_1 (by decide +kernel) ?_
  refine R_put X hW i_Model rfl t_Model t_Model_ok n_Model 0 (by decide) kf_Model_60 rfl (ty := .int) (by decide +kernel) 0 rfl (v := .int (nI 0)) rfl rfl (Nat.le_of_ble_eq_true rfl) d_Model_correct_2 (fun H locs hW => ?_)
  have hW : Wr G A s.heap (w_M hm cI cZ cJ 0 np ne ns tl mbd gr stt sp sq sec ans rt nw mtd un mss msc mip mcb msco mtim) H locs := hW
  refine lv_aload_n hx hb d_Model_correct_5 rfl (lv_at hl 0 rfl) ?_
  refine lv_iload_n hx hb d_Model_correct_6 rfl (lv_at hl 1 rfl) ?_
  refine R_callV (q0 := 0) (m_isRow l G cI cZ cJ hm 0 np ne ns tl mbd gr stt sp sq sec ans rt nw mtd un mss msc mip mcb msco mtim x (by omega)) X rfl hW cw_Model_100 ki_Model_isRow ks_Model_isRow rfl rfl ⟨rfl, rfl⟩ ⟨by decide, by decide⟩ ⟨Nat.zero_le _, Nat.zero_le _⟩ [true, true, true, true, true, true, true, true, true, true, true, true, true, true, true, true, true] rfl (Nat.le_of_ble_eq_true rfl) rfl rfl hl.1 rfl rfl (Nat.le_of_ble_eq_true rfl) d_Model_correct_7 rfl (fun H locs hW => ?_)
  have hW : Wr G A s.heap (w_M hm cI cZ cJ 0 np ne ns tl mbd gr stt sp sq sec ans rt nw mtd un mss msc mip mcb msco mtim) H locs := hW
  refine N_if_eq_B hx hb  (tgt := 23) d_Model_correct_10 (by decide) (fun c10 => ?_) (fun c10 => ?_)
  · refine lv_iconst (v := (nI 0)) hx hb d_Model_correct_23 (by decide +kernel) ?_
    exact R_zret X Y hW rfl false (by decide +kernel) rfl d_Model_correct_24
  · exfalso; rw [hbad] at c10; cases c10

set_option maxHeartbeats 4000000 in
set_option maxRecDepth 100000 in
theorem m_correct_same (l : Launch) (G : va_G) (cI cZ cJ : ClassId) (hm : Nat → Nat) (mth : Nat) (np : Nat) (ne : Nat) (ns : Nat) (tl : Nat) (mbd : Option Nat) (gr : Nat → Nat) (stt : Nat → Option Nat) (sp : Nat → Nat) (sq : Nat → Nat) (sec : Nat → Nat) (ans : Nat → Nat) (rt : Nat → Bool) (nw : Nat → Nat) (mtd : Nat → Nat) (un : Nat → Nat) (mss : Nat → Nat) (msc : Nat → Nat) (mip : Nat → Bool) (mcb : Nat → Bool) (msco : Nat → Nat) (mtim : Nat → Nat) (x : Nat) (b : Bool) (hx0 : x < ns) (hns : ns ≤ 300) (hb0 : rt x = b) : Ct l G (tyL cI cZ cJ) y_Model_correct b_Model_correct 3 (some .boolean) (rmL 1) [.ref (hm 0), .int (nI x), .int (bI b)] (w_M hm cI cZ cJ mth np ne ns tl mbd gr stt sp sq sec ans rt nw mtd un mss msc mip mcb msco mtim) (some (.int (bI false))) (w_M hm cI cZ cJ 0 np ne ns tl mbd gr stt sp sq sec ans rt nw mtd un mss msc mip mcb msco mtim) := by
  refine M_start (by decide) (Nat.le_of_ble_eq_true rfl) ?_
  intro p e s m args below meth c A Q ls X Y hW hl
  have hx := X.1.1
  have hb := X.1.2.1
  have hl : lv_has ls 3 [(0, .ref (hm 0)), (1, .int (nI x)), (2, .int (bI b))] := hl
  refine lv_aload_n hx hb d_Model_correct_0 rfl (lv_at hl 0 rfl) ?_
  refine lv_iconst (v := (nI 0)) hx hb d_Model_correct_1 (by decide +kernel) ?_
  refine R_put X hW i_Model rfl t_Model t_Model_ok n_Model 0 (by decide) kf_Model_60 rfl (ty := .int) (by decide +kernel) 0 rfl (v := .int (nI 0)) rfl rfl (Nat.le_of_ble_eq_true rfl) d_Model_correct_2 (fun H locs hW => ?_)
  have hW : Wr G A s.heap (w_M hm cI cZ cJ 0 np ne ns tl mbd gr stt sp sq sec ans rt nw mtd un mss msc mip mcb msco mtim) H locs := hW
  refine lv_aload_n hx hb d_Model_correct_5 rfl (lv_at hl 0 rfl) ?_
  refine lv_iload_n hx hb d_Model_correct_6 rfl (lv_at hl 1 rfl) ?_
  refine R_callV (q0 := 0) (m_isRow l G cI cZ cJ hm 0 np ne ns tl mbd gr stt sp sq sec ans rt nw mtd un mss msc mip mcb msco mtim (nI x) (by omega)) X rfl hW cw_Model_100 ki_Model_isRow ks_Model_isRow rfl rfl ⟨rfl, rfl⟩ ⟨by decide, by decide⟩ ⟨Nat.zero_le _, Nat.zero_le _⟩ [true, true, true, true, true, true, true, true, true, true, true, true, true, true, true, true, true] rfl (Nat.le_of_ble_eq_true rfl) rfl rfl hl.1 rfl rfl (Nat.le_of_ble_eq_true rfl) d_Model_correct_7 rfl (fun H locs hW => ?_)
  have hW : Wr G A s.heap (w_M hm cI cZ cJ 0 np ne ns tl mbd gr stt sp sq sec ans rt nw mtd un mss msc mip mcb msco mtim) H locs := hW
  refine N_if_eq_B hx hb  (tgt := 23) d_Model_correct_10 (by decide) (fun c10 => ?_) (fun c10 => ?_)
  · exfalso; rw [inB_nI (by omega) (by omega)] at c10; cases c10
  · refine lv_aload_n hx hb d_Model_correct_13 rfl (lv_at hl 0 rfl) ?_
    refine R_get X hW i_Model rfl 10 (by decide) kf_Model_28 0 rfl rfl d_Model_correct_14 ?_
    refine lv_iload_n hx hb d_Model_correct_17 rfl (lv_at hl 1 rfl) ?_
    refine R_zald X hW (t0 := 1) rfl 7 rfl (k := x) (by omega) (by decide) d_Model_correct_18 ?_
    refine lv_iload_n hx hb d_Model_correct_19 rfl (lv_at hl 2 rfl) ?_
    refine N_icmp_ne_BB hx hb (tgt := 25) d_Model_correct_20 (by decide) (fun c20 => ?_) (fun c20 => ?_)
    · exact absurd hb0 c20
    · refine lv_iconst (v := (nI 0)) hx hb d_Model_correct_23 (by decide +kernel) ?_
      exact R_zret X Y hW rfl false (by decide +kernel) rfl d_Model_correct_24

set_option maxHeartbeats 4000000 in
set_option maxRecDepth 100000 in
theorem m_correct_ok (l : Launch) (G : va_G) (cI cZ cJ : ClassId) (hm : Nat → Nat) (mth : Nat) (np : Nat) (ne : Nat) (ns : Nat) (tl : Nat) (mbd : Option Nat) (gr : Nat → Nat) (stt : Nat → Option Nat) (sp : Nat → Nat) (sq : Nat → Nat) (sec : Nat → Nat) (ans : Nat → Nat) (rt : Nat → Bool) (nw : Nat → Nat) (mtd : Nat → Nat) (un : Nat → Nat) (mss : Nat → Nat) (msc : Nat → Nat) (mip : Nat → Bool) (mcb : Nat → Bool) (msco : Nat → Nat) (mtim : Nat → Nat) (x : Nat) (b : Bool) (hx0 : x < ns) (hns : ns ≤ 300) (hb0 : rt x ≠ b) : Ct l G (tyL cI cZ cJ) y_Model_correct b_Model_correct 3 (some .boolean) (rmL 1) [.ref (hm 0), .int (nI x), .int (bI b)] (w_M hm cI cZ cJ mth np ne ns tl mbd gr stt sp sq sec ans rt nw mtd un mss msc mip mcb msco mtim) (some (.int (bI true))) (w_M hm cI cZ cJ 0 np ne ns tl mbd gr stt sp sq sec ans (va_up rt x b) nw mtd un mss msc mip mcb msco mtim) := by
  refine M_start (by decide) (Nat.le_of_ble_eq_true rfl) ?_
  intro p e s m args below meth c A Q ls X Y hW hl
  have hx := X.1.1
  have hb := X.1.2.1
  have hl : lv_has ls 3 [(0, .ref (hm 0)), (1, .int (nI x)), (2, .int (bI b))] := hl
  refine lv_aload_n hx hb d_Model_correct_0 rfl (lv_at hl 0 rfl) ?_
  refine lv_iconst (v := (nI 0)) hx hb d_Model_correct_1 (by decide +kernel) ?_
  refine R_put X hW i_Model rfl t_Model t_Model_ok n_Model 0 (by decide) kf_Model_60 rfl (ty := .int) (by decide +kernel) 0 rfl (v := .int (nI 0)) rfl rfl (Nat.le_of_ble_eq_true rfl) d_Model_correct_2 (fun H locs hW => ?_)
  have hW : Wr G A s.heap (w_M hm cI cZ cJ 0 np ne ns tl mbd gr stt sp sq sec ans rt nw mtd un mss msc mip mcb msco mtim) H locs := hW
  refine lv_aload_n hx hb d_Model_correct_5 rfl (lv_at hl 0 rfl) ?_
  refine lv_iload_n hx hb d_Model_correct_6 rfl (lv_at hl 1 rfl) ?_
  refine R_callV (q0 := 0) (m_isRow l G cI cZ cJ hm 0 np ne ns tl mbd gr stt sp sq sec ans rt nw mtd un mss msc mip mcb msco mtim (nI x) (by omega)) X rfl hW cw_Model_100 ki_Model_isRow ks_Model_isRow rfl rfl ⟨rfl, rfl⟩ ⟨by decide, by decide⟩ ⟨Nat.zero_le _, Nat.zero_le _⟩ [true, true, true, true, true, true, true, true, true, true, true, true, true, true, true, true, true] rfl (Nat.le_of_ble_eq_true rfl) rfl rfl hl.1 rfl rfl (Nat.le_of_ble_eq_true rfl) d_Model_correct_7 rfl (fun H locs hW => ?_)
  have hW : Wr G A s.heap (w_M hm cI cZ cJ 0 np ne ns tl mbd gr stt sp sq sec ans rt nw mtd un mss msc mip mcb msco mtim) H locs := hW
  refine N_if_eq_B hx hb  (tgt := 23) d_Model_correct_10 (by decide) (fun c10 => ?_) (fun c10 => ?_)
  · exfalso; rw [inB_nI (by omega) (by omega)] at c10; cases c10
  · refine lv_aload_n hx hb d_Model_correct_13 rfl (lv_at hl 0 rfl) ?_
    refine R_get X hW i_Model rfl 10 (by decide) kf_Model_28 0 rfl rfl d_Model_correct_14 ?_
    refine lv_iload_n hx hb d_Model_correct_17 rfl (lv_at hl 1 rfl) ?_
    refine R_zald X hW (t0 := 1) rfl 7 rfl (k := x) (by omega) (by decide) d_Model_correct_18 ?_
    refine lv_iload_n hx hb d_Model_correct_19 rfl (lv_at hl 2 rfl) ?_
    refine N_icmp_ne_BB hx hb (tgt := 25) d_Model_correct_20 (by decide) (fun c20 => ?_) (fun c20 => ?_)
    · refine lv_aload_n hx hb d_Model_correct_25 rfl (lv_at hl 0 rfl) ?_
      refine R_get X hW i_Model rfl 10 (by decide) kf_Model_28 0 rfl rfl d_Model_correct_26 ?_
      refine lv_iload_n hx hb d_Model_correct_29 rfl (lv_at hl 1 rfl) ?_
      refine lv_iload_n hx hb d_Model_correct_30 rfl (lv_at hl 2 rfl) ?_
      refine R_zast X hW (t0 := 1) rfl 7 rfl (k := x) (by omega) (by decide) b rfl d_Model_correct_31 (fun H locs hW => ?_)
      have hW : Wr G A s.heap (w_M hm cI cZ cJ 0 np ne ns tl mbd gr stt sp sq sec ans (va_up rt x b) nw mtd un mss msc mip mcb msco mtim) H locs := hW
      refine lv_iconst (v := (nI 1)) hx hb d_Model_correct_32 (by decide +kernel) ?_
      exact R_zret X Y hW rfl true (by decide +kernel) rfl d_Model_correct_33
    · exact absurd c20 hb0

theorem kb_Model_secondsOf : Cond.code y_Model_secondsOf b_Model_secondsOf 2 (some .int) ∈ TBL := TBL_t (List.mem_append_right _ (List.mem_append_right _ (List.mem_of_getElem? (i := 151) rfl))) rfl
theorem km_Model_103 : Cond.methodLink "ContestRowsModel" 103 y_Model_secondsOf ∈ TBL := TBL_t (List.mem_append_right _ (List.mem_append_right _ (List.mem_of_getElem? (i := 148) rfl))) rfl
theorem cw_Model_103 : Cw "ContestRowsModel" 103 y_Model_secondsOf b_Model_secondsOf 2 (some .int) 1 := ⟨kb_Model_secondsOf, kn_Model, km_Model_103, by decide +kernel⟩
theorem ki_Model_secondsOf : Cond.instanceMethod y_Model_secondsOf ∈ TBL := TBL_t (List.mem_append_right _ (List.mem_append_right _ (List.mem_of_getElem? (i := 150) rfl))) rfl
theorem ks_Model_secondsOf : Cond.selects "ContestRowsModel" y_Model_secondsOf y_Model_secondsOf ∈ TBL := TBL_in (List.mem_append_left _ (List.mem_map.mpr ⟨(y_Model_secondsOf, 22), by decide +kernel, rfl⟩)) rfl
set_option maxHeartbeats 4000000 in
set_option maxRecDepth 100000 in
theorem m_isLate (l : Launch) (G : va_G) (cI cZ cJ : ClassId) (hm : Nat → Nat) (mth : Nat) (np : Nat) (ne : Nat) (ns : Nat) (tl : Nat) (mbd : Option Nat) (gr : Nat → Nat) (stt : Nat → Option Nat) (sp : Nat → Nat) (sq : Nat → Nat) (sec : Nat → Nat) (ans : Nat → Nat) (rt : Nat → Bool) (nw : Nat → Nat) (mtd : Nat → Nat) (un : Nat → Nat) (mss : Nat → Nat) (msc : Nat → Nat) (mip : Nat → Bool) (mcb : Nat → Bool) (msco : Nat → Nat) (mtim : Nat → Nat) (b : Nat) (s0 : Nat) (hb0 : b < 300) (hsp : sp b < 20) (hs0 : stt (sp b) = some s0) (hle : s0 ≤ sec b) (hse : sec b ≤ 1000000) (hnw : ∀ i, i < 5 → nw i ≤ 9999) : Ct l G (tyL cI cZ cJ) y_Model_isLate b_Model_isLate 2 (some .boolean) (rmL 1) [.ref (hm 0), .int (nI b)] (w_M hm cI cZ cJ mth np ne ns tl mbd gr stt sp sq sec ans rt nw mtd un mss msc mip mcb msco mtim) (some (.int (bI (decide (nw 3 < sec b - s0))))) (w_M hm cI cZ cJ mth np ne ns tl mbd gr stt sp sq sec ans rt nw mtd un mss msc mip mcb msco mtim) := by
  refine M_start (by decide) (Nat.le_of_ble_eq_true rfl) ?_
  intro p e s m args below meth c A Q ls X Y hW hl
  have hx := X.1.1
  have hb := X.1.2.1
  have hl : lv_has ls 2 [(0, .ref (hm 0)), (1, .int (nI b))] := hl
  have q1 := hnw 3 (by omega)
  refine lv_aload_n hx hb d_Model_isLate_0 rfl (lv_at hl 0 rfl) ?_
  refine lv_iload_n hx hb d_Model_isLate_1 rfl (lv_at hl 1 rfl) ?_
  refine R_callV (q0 := 0) (m_secondsOf l G cI cZ cJ hm mth np ne ns tl mbd gr stt sp sq sec ans rt nw mtd un mss msc mip mcb msco mtim b s0 hb0 hsp hs0 hle) X rfl hW cw_Model_103 ki_Model_secondsOf ks_Model_secondsOf rfl rfl ⟨rfl, rfl⟩ ⟨by decide, by decide⟩ ⟨Nat.zero_le _, Nat.zero_le _⟩ [true, true, true, true, true, true, true, true, true, true, true, true, true, true, true, true, true] rfl (Nat.le_of_ble_eq_true rfl) rfl rfl hl.1 rfl rfl (Nat.le_of_ble_eq_true rfl) d_Model_isLate_2 rfl (fun H locs hW => ?_)
  have hW : Wr G A s.heap (w_M hm cI cZ cJ mth np ne ns tl mbd gr stt sp sq sec ans rt nw mtd un mss msc mip mcb msco mtim) H locs := hW
  refine lv_aload_n hx hb d_Model_isLate_5 rfl (lv_at hl 0 rfl) ?_
  refine R_get X hW i_Model rfl 11 (by decide) kf_Model_32 0 rfl rfl d_Model_isLate_6 ?_
  refine lv_iconst (v := (nI 3)) hx hb d_Model_isLate_9 (by decide +kernel) ?_
  refine R_iald X hW (t0 := 0) rfl 8 rfl (k := 3) (by omega) (by decide) d_Model_isLate_10 ?_
  refine N_icmp_le_NN hx hb (by omega) (by omega) (tgt := 18) d_Model_isLate_11 (by decide) (fun c11 => ?_) (fun c11 => ?_)
  · refine lv_iconst (v := (nI 0)) hx hb d_Model_isLate_18 (by decide +kernel) ?_
    exact R_zret X Y hW rfl false (by decide +kernel) (by rw [decide_eq_false (by omega)]) d_Model_isLate_19
  · refine lv_iconst (v := (nI 1)) hx hb d_Model_isLate_14 (by decide +kernel) ?_
    refine lv_goto (tgt := 19) hx hb d_Model_isLate_15 (by decide) ?_
    exact R_zret X Y hW rfl true (by decide +kernel) (by rw [decide_eq_true (by omega)]) d_Model_isLate_19

theorem kb_Model_isBetter : Cond.code y_Model_isBetter b_Model_isBetter 3 (some .boolean) ∈ TBL := TBL_t (List.mem_append_right _ (List.mem_append_right _ (List.mem_of_getElem? (i := 188) rfl))) rfl
theorem km_Model_134 : Cond.methodLink "ContestRowsModel" 134 y_Model_isBetter ∈ TBL := TBL_t (List.mem_append_right _ (List.mem_append_right _ (List.mem_of_getElem? (i := 185) rfl))) rfl
theorem cw_Model_134 : Cw "ContestRowsModel" 134 y_Model_isBetter b_Model_isBetter 3 (some .boolean) 2 := ⟨kb_Model_isBetter, kn_Model, km_Model_134, by decide +kernel⟩
theorem ki_Model_isBetter : Cond.instanceMethod y_Model_isBetter ∈ TBL := TBL_t (List.mem_append_right _ (List.mem_append_right _ (List.mem_of_getElem? (i := 187) rfl))) rfl
theorem ks_Model_isBetter : Cond.selects "ContestRowsModel" y_Model_isBetter y_Model_isBetter ∈ TBL := TBL_in (List.mem_append_left _ (List.mem_map.mpr ⟨(y_Model_isBetter, 22), by decide +kernel, rfl⟩)) rfl
set_option maxHeartbeats 4000000 in
set_option maxRecDepth 100000 in
theorem m_isAlike (l : Launch) (G : va_G) (cI cZ cJ : ClassId) (hm : Nat → Nat) (mth : Nat) (np : Nat) (ne : Nat) (ns : Nat) (tl : Nat) (mbd : Option Nat) (gr : Nat → Nat) (stt : Nat → Option Nat) (sp : Nat → Nat) (sq : Nat → Nat) (sec : Nat → Nat) (ans : Nat → Nat) (rt : Nat → Bool) (nw : Nat → Nat) (mtd : Nat → Nat) (un : Nat → Nat) (mss : Nat → Nat) (msc : Nat → Nat) (mip : Nat → Bool) (mcb : Nat → Bool) (msco : Nat → Nat) (mtim : Nat → Nat) (a : Nat) (b : Nat) (ha : a < 20) (hb0 : b < 20) (hnw : ∀ i, i < 5 → nw i ≤ 9999) (hsc : ∀ i, i < 20 → msco i < 2 ^ 63) (htm : ∀ i, i < 20 → mtim i < 2 ^ 63) : Ct l G (tyL cI cZ cJ) y_Model_isAlike b_Model_isAlike 3 (some .boolean) (rmL 1) [.ref (hm 0), .int (nI a), .int (nI b)] (w_M hm cI cZ cJ mth np ne ns tl mbd gr stt sp sq sec ans rt nw mtd un mss msc mip mcb msco mtim) (some (.int (bI (alk msco mtim (decide (nw 4 = 1)) a b)))) (w_M hm cI cZ cJ mth np ne ns tl mbd gr stt sp sq sec ans rt nw mtd un mss msc mip mcb msco mtim) := by
  refine M_start (by decide) (Nat.le_of_ble_eq_true rfl) ?_
  intro p e s m args below meth c A Q ls X Y hW hl
  have hx := X.1.1
  have hb := X.1.2.1
  have hl : lv_has ls 3 [(0, .ref (hm 0)), (1, .int (nI a)), (2, .int (nI b))] := hl
  refine lv_aload_n hx hb d_Model_isAlike_0 rfl (lv_at hl 0 rfl) ?_
  refine lv_iload_n hx hb d_Model_isAlike_1 rfl (lv_at hl 1 rfl) ?_
  refine lv_iload_n hx hb d_Model_isAlike_2 rfl (lv_at hl 2 rfl) ?_
  refine R_callV (q0 := 0) (m_isBetter l G cI cZ cJ hm mth np ne ns tl mbd gr stt sp sq sec ans rt nw mtd un mss msc mip mcb msco mtim a b ha hb0 hnw hsc htm) X rfl hW cw_Model_134 ki_Model_isBetter ks_Model_isBetter rfl rfl ⟨rfl, rfl⟩ ⟨by decide, by decide⟩ ⟨Nat.zero_le _, Nat.zero_le _⟩ [true, true, true, true, true, true, true, true, true, true, true, true, true, true, true, true, true] rfl (Nat.le_of_ble_eq_true rfl) rfl rfl hl.1 rfl rfl (Nat.le_of_ble_eq_true rfl) d_Model_isAlike_3 rfl (fun H locs hW => ?_)
  have hW : Wr G A s.heap (w_M hm cI cZ cJ mth np ne ns tl mbd gr stt sp sq sec ans rt nw mtd un mss msc mip mcb msco mtim) H locs := hW
  refine N_if_ne_B hx hb  (tgt := 22) d_Model_isAlike_6 (by decide) (fun c6 => ?_) (fun c6 => ?_)
  · refine lv_iconst (v := (nI 0)) hx hb d_Model_isAlike_22 (by decide +kernel) ?_
    exact R_zret X Y hW rfl false (by decide +kernel) (by rw [alk, decide_eq_false (by simp [ahd] at c6; simp; omega)]) d_Model_isAlike_23
  · refine lv_aload_n hx hb d_Model_isAlike_9 rfl (lv_at hl 0 rfl) ?_
    refine lv_iload_n hx hb d_Model_isAlike_10 rfl (lv_at hl 2 rfl) ?_
    refine lv_iload_n hx hb d_Model_isAlike_11 rfl (lv_at hl 1 rfl) ?_
    refine R_callV (q0 := 0) (m_isBetter l G cI cZ cJ hm mth np ne ns tl mbd gr stt sp sq sec ans rt nw mtd un mss msc mip mcb msco mtim b a hb0 ha hnw hsc htm) X rfl hW cw_Model_134 ki_Model_isBetter ks_Model_isBetter rfl rfl ⟨rfl, rfl⟩ ⟨by decide, by decide⟩ ⟨Nat.zero_le _, Nat.zero_le _⟩ [true, true, true, true, true, true, true, true, true, true, true, true, true, true, true, true, true] rfl (Nat.le_of_ble_eq_true rfl) rfl rfl hl.1 rfl rfl (Nat.le_of_ble_eq_true rfl) d_Model_isAlike_12 rfl (fun H locs hW => ?_)
    have hW : Wr G A s.heap (w_M hm cI cZ cJ mth np ne ns tl mbd gr stt sp sq sec ans rt nw mtd un mss msc mip mcb msco mtim) H locs := hW
    refine N_if_ne_B hx hb  (tgt := 22) d_Model_isAlike_15 (by decide) (fun c15 => ?_) (fun c15 => ?_)
    · refine lv_iconst (v := (nI 0)) hx hb d_Model_isAlike_22 (by decide +kernel) ?_
      exact R_zret X Y hW rfl false (by decide +kernel) (by rw [alk, decide_eq_false (by simp [ahd] at c6 c15; simp; omega)]) d_Model_isAlike_23
    · refine lv_iconst (v := (nI 1)) hx hb d_Model_isAlike_18 (by decide +kernel) ?_
      refine lv_goto (tgt := 23) hx hb d_Model_isAlike_19 (by decide) ?_
      exact R_zret X Y hW rfl true (by decide +kernel) (by rw [alk, decide_eq_true (by simp [ahd] at c6 c15; simp; omega)]) d_Model_isAlike_23

set_option maxHeartbeats 4000000 in
set_option maxRecDepth 100000 in
theorem m_late_none (l : Launch) (G : va_G) (cI cZ cJ : ClassId) (hm : Nat → Nat) (mth : Nat) (np : Nat) (ne : Nat) (ns : Nat) (tl : Nat) (mbd : Option Nat) (gr : Nat → Nat) (stt : Nat → Option Nat) (sp : Nat → Nat) (sq : Nat → Nat) (sec : Nat → Nat) (ans : Nat → Nat) (rt : Nat → Bool) (nw : Nat → Nat) (mtd : Nat → Nat) (un : Nat → Nat) (mss : Nat → Nat) (msc : Nat → Nat) (mip : Nat → Bool) (mcb : Nat → Bool) (msco : Nat → Nat) (mtim : Nat → Nat) (x : Int32) (hbad : inB x ns = false) (hns : ns ≤ 300) : Ct l G (tyL cI cZ cJ) y_Model_late b_Model_late 2 (some .boolean) (rmL 2) [.ref (hm 0), .int x] (w_M hm cI cZ cJ mth np ne ns tl mbd gr stt sp sq sec ans rt nw mtd un mss msc mip mcb msco mtim) (some (.int (bI false))) (w_M hm cI cZ cJ 0 np ne ns tl mbd gr stt sp sq sec ans rt nw mtd un mss msc mip mcb msco mtim) := by
  refine M_start (by decide) (Nat.le_of_ble_eq_true rfl) ?_
  intro p e s m args below meth c A Q ls X Y hW hl
  have hx := X.1.1
  have hb := X.1.2.1
  have hl : lv_has ls 2 [(0, .ref (hm 0)), (1, .int x)] := hl
  refine lv_aload_n hx hb d_Model_late_0 rfl (lv_at hl 0 rfl) ?_
  refine lv_iconst (v := (nI 0)) hx hb d_Model_late_1 (by decide +kernel) ?_
  refine R_put X hW i_Model rfl t_Model t_Model_ok n_Model 0 (by decide) kf_Model_60 rfl (ty := .int) (by decide +kernel) 0 rfl (v := .int (nI 0)) rfl rfl (Nat.le_of_ble_eq_true rfl) d_Model_late_2 (fun H locs hW => ?_)
  have hW : Wr G A s.heap (w_M hm cI cZ cJ 0 np ne ns tl mbd gr stt sp sq sec ans rt nw mtd un mss msc mip mcb msco mtim) H locs := hW
  refine lv_aload_n hx hb d_Model_late_5 rfl (lv_at hl 0 rfl) ?_
  refine lv_iload_n hx hb d_Model_late_6 rfl (lv_at hl 1 rfl) ?_
  refine R_callV (q0 := 0) (m_isRow l G cI cZ cJ hm 0 np ne ns tl mbd gr stt sp sq sec ans rt nw mtd un mss msc mip mcb msco mtim x (by omega)) X rfl hW cw_Model_100 ki_Model_isRow ks_Model_isRow rfl rfl ⟨rfl, rfl⟩ ⟨by decide, by decide⟩ ⟨Nat.zero_le _, Nat.zero_le _⟩ [true, true, true, true, true, true, true, true, true, true, true, true, true, true, true, true, true] rfl (Nat.le_of_ble_eq_true rfl) rfl rfl hl.1 rfl rfl (Nat.le_of_ble_eq_true rfl) d_Model_late_7 rfl (fun H locs hW => ?_)
  have hW : Wr G A s.heap (w_M hm cI cZ cJ 0 np ne ns tl mbd gr stt sp sq sec ans rt nw mtd un mss msc mip mcb msco mtim) H locs := hW
  refine N_if_eq_B hx hb  (tgt := 25) d_Model_late_10 (by decide) (fun c10 => ?_) (fun c10 => ?_)
  · refine lv_iconst (v := (nI 0)) hx hb d_Model_late_25 (by decide +kernel) ?_
    exact R_zret X Y hW rfl false (by decide +kernel) rfl d_Model_late_26
  · exfalso; rw [hbad] at c10; cases c10

theorem kb_Model_isLate : Cond.code y_Model_isLate b_Model_isLate 2 (some .boolean) ∈ TBL := TBL_t (List.mem_append_right _ (List.mem_append_right _ (List.mem_of_getElem? (i := 147) rfl))) rfl
theorem km_Model_106 : Cond.methodLink "ContestRowsModel" 106 y_Model_isLate ∈ TBL := TBL_t (List.mem_append_right _ (List.mem_append_right _ (List.mem_of_getElem? (i := 144) rfl))) rfl
theorem cw_Model_106 : Cw "ContestRowsModel" 106 y_Model_isLate b_Model_isLate 2 (some .boolean) 1 := ⟨kb_Model_isLate, kn_Model, km_Model_106, by decide +kernel⟩
theorem ki_Model_isLate : Cond.instanceMethod y_Model_isLate ∈ TBL := TBL_t (List.mem_append_right _ (List.mem_append_right _ (List.mem_of_getElem? (i := 146) rfl))) rfl
theorem ks_Model_isLate : Cond.selects "ContestRowsModel" y_Model_isLate y_Model_isLate ∈ TBL := TBL_in (List.mem_append_left _ (List.mem_map.mpr ⟨(y_Model_isLate, 22), by decide +kernel, rfl⟩)) rfl
set_option maxHeartbeats 4000000 in
set_option maxRecDepth 100000 in
theorem m_late_some (l : Launch) (G : va_G) (cI cZ cJ : ClassId) (hm : Nat → Nat) (mth : Nat) (np : Nat) (ne : Nat) (ns : Nat) (tl : Nat) (mbd : Option Nat) (gr : Nat → Nat) (stt : Nat → Option Nat) (sp : Nat → Nat) (sq : Nat → Nat) (sec : Nat → Nat) (ans : Nat → Nat) (rt : Nat → Bool) (nw : Nat → Nat) (mtd : Nat → Nat) (un : Nat → Nat) (mss : Nat → Nat) (msc : Nat → Nat) (mip : Nat → Bool) (mcb : Nat → Bool) (msco : Nat → Nat) (mtim : Nat → Nat) (x : Nat) (s0 : Nat) (hx0 : x < ns) (hs0 : stt (sp x) = some s0) (hle : s0 ≤ sec x) (hI : IS np ne ns gr nw sp sq sec (fun i => i) ans stt) : Ct l G (tyL cI cZ cJ) y_Model_late b_Model_late 2 (some .boolean) (rmL 2) [.ref (hm 0), .int (nI x)] (w_M hm cI cZ cJ mth np ne ns tl mbd gr stt sp sq sec ans rt nw mtd un mss msc mip mcb msco mtim) (some (.int (bI (decide (nw 3 < sec x - s0))))) (w_M hm cI cZ cJ 0 np ne ns tl mbd gr stt sp sq sec ans rt nw mtd un mss msc mip mcb msco mtim) := by
  refine M_start (by decide) (Nat.le_of_ble_eq_true rfl) ?_
  intro p e s m args below meth c A Q ls X Y hW hl
  have hx := X.1.1
  have hb := X.1.2.1
  have hl : lv_has ls 2 [(0, .ref (hm 0)), (1, .int (nI x))] := hl
  obtain ⟨z1, z2, z3, z4, z5, z6, z7, z8, z9, z10, z11, z12, z13⟩ := id hI
  refine lv_aload_n hx hb d_Model_late_0 rfl (lv_at hl 0 rfl) ?_
  refine lv_iconst (v := (nI 0)) hx hb d_Model_late_1 (by decide +kernel) ?_
  refine R_put X hW i_Model rfl t_Model t_Model_ok n_Model 0 (by decide) kf_Model_60 rfl (ty := .int) (by decide +kernel) 0 rfl (v := .int (nI 0)) rfl rfl (Nat.le_of_ble_eq_true rfl) d_Model_late_2 (fun H locs hW => ?_)
  have hW : Wr G A s.heap (w_M hm cI cZ cJ 0 np ne ns tl mbd gr stt sp sq sec ans rt nw mtd un mss msc mip mcb msco mtim) H locs := hW
  refine lv_aload_n hx hb d_Model_late_5 rfl (lv_at hl 0 rfl) ?_
  refine lv_iload_n hx hb d_Model_late_6 rfl (lv_at hl 1 rfl) ?_
  refine R_callV (q0 := 0) (m_isRow l G cI cZ cJ hm 0 np ne ns tl mbd gr stt sp sq sec ans rt nw mtd un mss msc mip mcb msco mtim (nI x) (by omega)) X rfl hW cw_Model_100 ki_Model_isRow ks_Model_isRow rfl rfl ⟨rfl, rfl⟩ ⟨by decide, by decide⟩ ⟨Nat.zero_le _, Nat.zero_le _⟩ [true, true, true, true, true, true, true, true, true, true, true, true, true, true, true, true, true] rfl (Nat.le_of_ble_eq_true rfl) rfl rfl hl.1 rfl rfl (Nat.le_of_ble_eq_true rfl) d_Model_late_7 rfl (fun H locs hW => ?_)
  have hW : Wr G A s.heap (w_M hm cI cZ cJ 0 np ne ns tl mbd gr stt sp sq sec ans rt nw mtd un mss msc mip mcb msco mtim) H locs := hW
  refine N_if_eq_B hx hb  (tgt := 25) d_Model_late_10 (by decide) (fun c10 => ?_) (fun c10 => ?_)
  · exfalso; rw [inB_nI (by omega) (by omega)] at c10; cases c10
  · refine lv_aload_n hx hb d_Model_late_13 rfl (lv_at hl 0 rfl) ?_
    refine lv_iload_n hx hb d_Model_late_14 rfl (lv_at hl 1 rfl) ?_
    refine R_callV (q0 := 0) (m_isLate l G cI cZ cJ hm 0 np ne ns tl mbd gr stt sp sq sec ans rt nw mtd un mss msc mip mcb msco mtim x s0 (by omega) (z13 x (by omega)).1 hs0 hle (z8 x (by omega)) z5) X rfl hW cw_Model_106 ki_Model_isLate ks_Model_isLate rfl rfl ⟨rfl, rfl⟩ ⟨by decide, by decide⟩ ⟨Nat.zero_le _, Nat.zero_le _⟩ [true, true, true, true, true, true, true, true, true, true, true, true, true, true, true, true, true] rfl (Nat.le_of_ble_eq_true rfl) rfl rfl hl.1 rfl rfl (Nat.le_of_ble_eq_true rfl) d_Model_late_15 rfl (fun H locs hW => ?_)
    have hW : Wr G A s.heap (w_M hm cI cZ cJ 0 np ne ns tl mbd gr stt sp sq sec ans rt nw mtd un mss msc mip mcb msco mtim) H locs := hW
    refine N_if_eq_B hx hb  (tgt := 25) d_Model_late_18 (by decide) (fun c18 => ?_) (fun c18 => ?_)
    · refine lv_iconst (v := (nI 0)) hx hb d_Model_late_25 (by decide +kernel) ?_
      exact R_zret X Y hW rfl false (by decide +kernel) (by rw [c18]) d_Model_late_26
    · refine lv_iconst (v := (nI 1)) hx hb d_Model_late_21 (by decide +kernel) ?_
      refine lv_goto (tgt := 26) hx hb d_Model_late_22 (by decide) ?_
      exact R_zret X Y hW rfl true (by decide +kernel) (by rw [c18]) d_Model_late_26

theorem kb_Model_isOf : Cond.code y_Model_isOf b_Model_isOf 4 (some .boolean) ∈ TBL := TBL_t (List.mem_append_right _ (List.mem_append_right _ (List.mem_of_getElem? (i := 168) rfl))) rfl
theorem km_Model_109 : Cond.methodLink "ContestRowsModel" 109 y_Model_isOf ∈ TBL := TBL_t (List.mem_append_right _ (List.mem_append_right _ (List.mem_of_getElem? (i := 165) rfl))) rfl
theorem cw_Model_109 : Cw "ContestRowsModel" 109 y_Model_isOf b_Model_isOf 4 (some .boolean) 3 := ⟨kb_Model_isOf, kn_Model, km_Model_109, by decide +kernel⟩
theorem ki_Model_isOf : Cond.instanceMethod y_Model_isOf ∈ TBL := TBL_t (List.mem_append_right _ (List.mem_append_right _ (List.mem_of_getElem? (i := 167) rfl))) rfl
theorem ks_Model_isOf : Cond.selects "ContestRowsModel" y_Model_isOf y_Model_isOf ∈ TBL := TBL_in (List.mem_append_left _ (List.mem_map.mpr ⟨(y_Model_isOf, 22), by decide +kernel, rfl⟩)) rfl
theorem kb_Model_isAhead : Cond.code y_Model_isAhead b_Model_isAhead 3 (some .boolean) ∈ TBL := TBL_t (List.mem_append_right _ (List.mem_append_right _ (List.mem_of_getElem? (i := 172) rfl))) rfl
theorem km_Model_113 : Cond.methodLink "ContestRowsModel" 113 y_Model_isAhead ∈ TBL := TBL_t (List.mem_append_right _ (List.mem_append_right _ (List.mem_of_getElem? (i := 169) rfl))) rfl
theorem cw_Model_113 : Cw "ContestRowsModel" 113 y_Model_isAhead b_Model_isAhead 3 (some .boolean) 2 := ⟨kb_Model_isAhead, kn_Model, km_Model_113, by decide +kernel⟩
theorem ki_Model_isAhead : Cond.instanceMethod y_Model_isAhead ∈ TBL := TBL_t (List.mem_append_right _ (List.mem_append_right _ (List.mem_of_getElem? (i := 171) rfl))) rfl
theorem ks_Model_isAhead : Cond.selects "ContestRowsModel" y_Model_isAhead y_Model_isAhead ∈ TBL := TBL_in (List.mem_append_left _ (List.mem_map.mpr ⟨(y_Model_isAhead, 22), by decide +kernel, rfl⟩)) rfl
set_option maxHeartbeats 4000000 in
set_option maxRecDepth 100000 in
theorem m_counting (l : Launch) (G : va_G) (cI cZ cJ : ClassId) (hm : Nat → Nat) (mth : Nat) (np : Nat) (ne : Nat) (ns : Nat) (tl : Nat) (mbd : Option Nat) (gr : Nat → Nat) (stt : Nat → Option Nat) (sp : Nat → Nat) (sq : Nat → Nat) (sec : Nat → Nat) (ans : Nat → Nat) (rt : Nat → Bool) (nw : Nat → Nat) (mtd : Nat → Nat) (un : Nat → Nat) (mss : Nat → Nat) (msc : Nat → Nat) (mip : Nat → Bool) (mcb : Nat → Bool) (msco : Nat → Nat) (mtim : Nat → Nat) (x : Nat) (y : Nat) (hx0 : x < 20) (hy0 : y < 20) (hI : IS np ne ns gr nw sp sq sec (fun i => i) ans stt) : Ct l G (tyL cI cZ cJ) y_Model_counting b_Model_counting 5 (some .int) (rmL 2) [.ref (hm 0), .int (nI x), .int (nI y)] (w_M hm cI cZ cJ mth np ne ns tl mbd gr stt sp sq sec ans rt nw mtd un mss msc mip mcb msco mtim) (some (.int (oI (ctF nw sp sq sec rt stt ns x y)))) (w_M hm cI cZ cJ mth np ne ns tl mbd gr stt sp sq sec ans rt nw mtd un mss msc mip mcb msco mtim) := by
  refine M_start (by decide) (Nat.le_of_ble_eq_true rfl) ?_
  intro p e s m args below meth c A Q ls X Y hW hl
  have hx := X.1.1
  have hb := X.1.2.1
  have hl : lv_has ls 5 [(0, .ref (hm 0)), (1, .int (nI x)), (2, .int (nI y))] := hl
  obtain ⟨z1, z2, z3, z4, z5, z6, z7, z8, z9, z10, z11, z12, z13⟩ := id hI
  refine lv_iconst (v := (-1)) hx hb d_Model_counting_0 (by decide +kernel) ?_
  refine lv_istore_n (lv' := [(3, .int (-1)), (0, .ref (hm 0)), (1, .int (nI x)), (2, .int (nI y))]) hx hb d_Model_counting_1 rfl hl (by decide) rfl (fun ls hl => ?_)
  refine lv_iconst (v := (nI 0)) hx hb d_Model_counting_2 (by decide +kernel) ?_
  refine lv_istore (lv' := [(4, .int (nI 0)), (3, .int (-1)), (0, .ref (hm 0)), (1, .int (nI x)), (2, .int (nI y))]) hx hb d_Model_counting_3 hl (by decide) rfl (fun ls hl => ?_)
  have L5 : ∀ (n : Nat) (bo : Option Nat) (i : Nat) (hi : i + n = ns) (hbo : ∀ z, bo = some z → z < ns) (he : bsG sp sq sec rt x y n i bo = bsG sp sq sec rt x y ns 0 none) (H : Heap) (locs : List Loc) (hW : Wr G A s.heap (w_M hm cI cZ cJ mth np ne ns tl mbd gr stt sp sq sec ans rt nw mtd un mss msc mip mcb msco mtim) H locs) (ls : Array Slot) (hl : lv_has ls 5 [(0, .ref (hm 0)), (1, .int (nI x)), (2, .int (nI y)), (3, .int (oI bo)), (4, .int (nI i))]), W p l e (rmL 2) s m args below meth c H locs 0 0 Q (F0 m 5 ls []) := by
    intro n
    induction n with
    | zero =>
      intro bo i hi hbo he H locs hW ls hl
      refine lv_iload hx hb d_Model_counting_5 (lv_at hl 4 rfl) ?_
      refine lv_aload_n hx hb d_Model_counting_7 rfl (lv_at hl 0 rfl) ?_
      refine R_get X hW i_Model rfl 3 (by decide) kf_Model_70 0 rfl rfl d_Model_counting_8 ?_
      refine N_icmp_ge_NN hx hb (by omega) (by omega) (tgt := 58) d_Model_counting_11 (by decide) (fun c11 => ?_) (fun c11 => ?_)
      · have hb9 : bsG sp sq sec rt x y ns 0 none = bo := he.symm
        refine lv_iload_n hx hb d_Model_counting_58 rfl (lv_at hl 3 rfl) ?_
        refine N_if_lt_O hx hb (fun z hz => by have := hbo z hz; omega) (tgt := 74) d_Model_counting_59 (by decide) (fun c59 => ?_) (fun c59 => ?_)
        · refine lv_iconst (v := (-1)) hx hb d_Model_counting_74 (by decide +kernel) ?_
          exact R_iret X Y hW rfl (by rw [ctF, hb9, c59]; rfl) d_Model_counting_75
        · obtain ⟨w, hw⟩ : ∃ q, bo = some q := by cases hq : bo with | none => exact absurd hq c59 | some q => exact ⟨q, rfl⟩
          have y5 := hbo w hw
          obtain ⟨s0, hs0, hle⟩ := z11 w (by omega)
          have hsf : sfs sec sp stt w = sec w - s0 := by simp [sfs, hs0]
          refine lv_aload_n hx hb d_Model_counting_62 rfl (lv_at hl 0 rfl) ?_
          refine lv_iload_n hx hb d_Model_counting_63 rfl (lv_at hl 3 rfl) ?_
          refine W.eq (g2 := F0 m 64 ls (.int (nI w) :: .ref (hm 0) :: [])) (by rw [hw]; first | done | rfl) ?_
          refine R_callV (q0 := 0) (m_isLate l G cI cZ cJ hm mth np ne ns tl mbd gr stt sp sq sec ans rt nw mtd un mss msc mip mcb msco mtim w s0 (by omega) (z13 w (by omega)).1 hs0 hle (z8 w (by omega)) z5) X rfl hW cw_Model_106 ki_Model_isLate ks_Model_isLate rfl rfl ⟨rfl, rfl⟩ ⟨by decide, by decide⟩ ⟨Nat.zero_le _, Nat.zero_le _⟩ [true, true, true, true, true, true, true, true, true, true, true, true, true, true, true, true, true] rfl (Nat.le_of_ble_eq_true rfl) rfl rfl hl.1 rfl rfl (Nat.le_of_ble_eq_true rfl) d_Model_counting_64 rfl (fun H locs hW => ?_)
          have hW : Wr G A s.heap (w_M hm cI cZ cJ mth np ne ns tl mbd gr stt sp sq sec ans rt nw mtd un mss msc mip mcb msco mtim) H locs := hW
          refine N_if_ne_B hx hb  (tgt := 74) d_Model_counting_67 (by decide) (fun c67 => ?_) (fun c67 => ?_)
          · refine lv_iconst (v := (-1)) hx hb d_Model_counting_74 (by decide +kernel) ?_
            exact R_iret X Y hW rfl (by rw [ctF, hb9, hw]; dsimp only; rw [hsf, if_pos (by simpa using c67)]; rfl) d_Model_counting_75
          · refine lv_iload_n hx hb d_Model_counting_70 rfl (lv_at hl 3 rfl) ?_
            refine lv_goto (tgt := 75) hx hb d_Model_counting_71 (by decide) ?_
            exact R_iret X Y hW rfl (by rw [ctF, hb9, hw]; dsimp only; rw [hsf, if_neg (by simpa using c67)]) d_Model_counting_75
      · exfalso; omega
    | succ n ih5 =>
      intro bo i hi hbo he H locs hW ls hl
      refine lv_iload hx hb d_Model_counting_5 (lv_at hl 4 rfl) ?_
      refine lv_aload_n hx hb d_Model_counting_7 rfl (lv_at hl 0 rfl) ?_
      refine R_get X hW i_Model rfl 3 (by decide) kf_Model_70 0 rfl rfl d_Model_counting_8 ?_
      refine N_icmp_ge_NN hx hb (by omega) (by omega) (tgt := 58) d_Model_counting_11 (by decide) (fun c11 => ?_) (fun c11 => ?_)
      · exfalso; omega
      · refine lv_aload_n hx hb d_Model_counting_14 rfl (lv_at hl 0 rfl) ?_
        refine lv_iload hx hb d_Model_counting_15 (lv_at hl 4 rfl) ?_
        refine lv_iload_n hx hb d_Model_counting_17 rfl (lv_at hl 1 rfl) ?_
        refine lv_iload_n hx hb d_Model_counting_18 rfl (lv_at hl 2 rfl) ?_
        refine R_callV (q0 := 0) (m_isOf l G cI cZ cJ hm mth np ne ns tl mbd gr stt sp sq sec ans rt nw mtd un mss msc mip mcb msco mtim i x y (by omega) hx0 hy0 z13) X rfl hW cw_Model_109 ki_Model_isOf ks_Model_isOf rfl rfl ⟨rfl, rfl⟩ ⟨by decide, by decide⟩ ⟨Nat.zero_le _, Nat.zero_le _⟩ [true, true, true, true, true, true, true, true, true, true, true, true, true, true, true, true, true] rfl (Nat.le_of_ble_eq_true rfl) rfl rfl hl.1 rfl rfl (Nat.le_of_ble_eq_true rfl) d_Model_counting_19 rfl (fun H locs hW => ?_)
        have hW : Wr G A s.heap (w_M hm cI cZ cJ mth np ne ns tl mbd gr stt sp sq sec ans rt nw mtd un mss msc mip mcb msco mtim) H locs := hW
        refine N_if_eq_B hx hb  (tgt := 52) d_Model_counting_22 (by decide) (fun c22 => ?_) (fun c22 => ?_)
        · refine lv_iinc (v := (nI (i + 1))) (lv' := [(4, .int (nI (i + 1))), (0, .ref (hm 0)), (1, .int (nI x)), (2, .int (nI y)), (3, .int (oI bo))]) hx hb d_Model_counting_52 hl (k := 4) rfl (N_inc i) (by decide) rfl (fun ls hl => ?_)
          refine lv_goto (tgt := 5) hx hb d_Model_counting_55 (by decide) ?_
          exact ih5 bo (i + 1) (by omega) hbo (by rw [← he, bsG, if_neg (by simp [c22])]) _ _ hW ls (lv_sub hl [1, 2, 3, 4, 0] rfl)
        · refine lv_aload_n hx hb d_Model_counting_25 rfl (lv_at hl 0 rfl) ?_
          refine R_get X hW i_Model rfl 10 (by decide) kf_Model_28 0 rfl rfl d_Model_counting_26 ?_
          refine lv_iload hx hb d_Model_counting_29 (lv_at hl 4 rfl) ?_
          refine R_zald X hW (t0 := 1) rfl 7 rfl (k := i) (by omega) (by decide) d_Model_counting_31 ?_
          refine N_if_eq_B hx hb  (tgt := 52) d_Model_counting_32 (by decide) (fun c32 => ?_) (fun c32 => ?_)
          · refine lv_iinc (v := (nI (i + 1))) (lv' := [(4, .int (nI (i + 1))), (0, .ref (hm 0)), (1, .int (nI x)), (2, .int (nI y)), (3, .int (oI bo))]) hx hb d_Model_counting_52 hl (k := 4) rfl (N_inc i) (by decide) rfl (fun ls hl => ?_)
            refine lv_goto (tgt := 5) hx hb d_Model_counting_55 (by decide) ?_
            exact ih5 bo (i + 1) (by omega) hbo (by rw [← he, bsG, if_neg (by simp [c32])]) _ _ hW ls (lv_sub hl [1, 2, 3, 4, 0] rfl)
          · refine lv_iload_n hx hb d_Model_counting_35 rfl (lv_at hl 3 rfl) ?_
            refine N_if_lt_O hx hb (fun z hz => by have := hbo z hz; omega) (tgt := 49) d_Model_counting_36 (by decide) (fun c36 => ?_) (fun c36 => ?_)
            · refine lv_iload hx hb d_Model_counting_49 (lv_at hl 4 rfl) ?_
              refine lv_istore_n (lv' := [(3, .int (nI i)), (0, .ref (hm 0)), (1, .int (nI x)), (2, .int (nI y)), (4, .int (nI i))]) hx hb d_Model_counting_51 rfl hl (by decide) rfl (fun ls hl => ?_)
              refine lv_iinc (v := (nI (i + 1))) (lv' := [(4, .int (nI (i + 1))), (3, .int (nI i)), (0, .ref (hm 0)), (1, .int (nI x)), (2, .int (nI y))]) hx hb d_Model_counting_52 hl (k := 4) rfl (N_inc i) (by decide) rfl (fun ls hl => ?_)
              refine lv_goto (tgt := 5) hx hb d_Model_counting_55 (by decide) ?_
              exact ih5 (some i) (i + 1) (by omega) (fun z hz => by cases hz; omega) (by rw [← he, bsG, if_pos ⟨c22, c32, Or.inl c36⟩]) _ _ hW ls (lv_sub hl [2, 3, 4, 1, 0] rfl)
            · obtain ⟨w, hw⟩ : ∃ q, bo = some q := by cases hq : bo with | none => exact absurd hq c36 | some q => exact ⟨q, rfl⟩
              have y5 := hbo w hw
              refine lv_aload_n hx hb d_Model_counting_39 rfl (lv_at hl 0 rfl) ?_
              refine lv_iload hx hb d_Model_counting_40 (lv_at hl 4 rfl) ?_
              refine lv_iload_n hx hb d_Model_counting_42 rfl (lv_at hl 3 rfl) ?_
              refine W.eq (g2 := F0 m 43 ls (.int (nI w) :: .int (nI i) :: .ref (hm 0) :: [])) (by rw [hw]; first | done | rfl) ?_
              refine R_callV (q0 := 0) (m_isAhead l G cI cZ cJ hm mth np ne ns tl mbd gr stt sp sq sec ans rt nw mtd un mss msc mip mcb msco mtim i w (by omega) (by omega) z8) X rfl hW cw_Model_113 ki_Model_isAhead ks_Model_isAhead rfl rfl ⟨rfl, rfl⟩ ⟨by decide, by decide⟩ ⟨Nat.zero_le _, Nat.zero_le _⟩ [true, true, true, true, true, true, true, true, true, true, true, true, true, true, true, true, true] rfl (Nat.le_of_ble_eq_true rfl) rfl rfl hl.1 rfl rfl (Nat.le_of_ble_eq_true rfl) d_Model_counting_43 rfl (fun H locs hW => ?_)
              have hW : Wr G A s.heap (w_M hm cI cZ cJ mth np ne ns tl mbd gr stt sp sq sec ans rt nw mtd un mss msc mip mcb msco mtim) H locs := hW
              refine N_if_eq_B hx hb  (tgt := 52) d_Model_counting_46 (by decide) (fun c46 => ?_) (fun c46 => ?_)
              · refine lv_iinc (v := (nI (i + 1))) (lv' := [(4, .int (nI (i + 1))), (0, .ref (hm 0)), (1, .int (nI x)), (2, .int (nI y)), (3, .int (oI bo))]) hx hb d_Model_counting_52 hl (k := 4) rfl (N_inc i) (by decide) rfl (fun ls hl => ?_)
                refine lv_goto (tgt := 5) hx hb d_Model_counting_55 (by decide) ?_
                exact ih5 bo (i + 1) (by omega) hbo (by rw [← he, bsG, if_neg (by rw [hw]; simp [c46])]) _ _ hW ls (lv_sub hl [1, 2, 3, 4, 0] rfl)
              · refine lv_iload hx hb d_Model_counting_49 (lv_at hl 4 rfl) ?_
                refine lv_istore_n (lv' := [(3, .int (nI i)), (0, .ref (hm 0)), (1, .int (nI x)), (2, .int (nI y)), (4, .int (nI i))]) hx hb d_Model_counting_51 rfl hl (by decide) rfl (fun ls hl => ?_)
                refine lv_iinc (v := (nI (i + 1))) (lv' := [(4, .int (nI (i + 1))), (3, .int (nI i)), (0, .ref (hm 0)), (1, .int (nI x)), (2, .int (nI y))]) hx hb d_Model_counting_52 hl (k := 4) rfl (N_inc i) (by decide) rfl (fun ls hl => ?_)
                refine lv_goto (tgt := 5) hx hb d_Model_counting_55 (by decide) ?_
                exact ih5 (some i) (i + 1) (by omega) (fun z hz => by cases hz; omega) (by rw [← he, bsG, if_pos ⟨c22, c32, Or.inr (by rw [hw]; exact c46)⟩]) _ _ hW ls (lv_sub hl [2, 3, 4, 1, 0] rfl)
  exact L5 ns none 0 (by omega) (fun z hz => by cases hz) rfl _ _ hW ls (lv_sub hl [2, 3, 4, 1, 0] rfl)

theorem kb_Model_counting : Cond.code y_Model_counting b_Model_counting 5 (some .int) ∈ TBL := TBL_t (List.mem_append_right _ (List.mem_append_right _ (List.mem_of_getElem? (i := 164) rfl))) rfl
theorem km_Model_117 : Cond.methodLink "ContestRowsModel" 117 y_Model_counting ∈ TBL := TBL_t (List.mem_append_right _ (List.mem_append_right _ (List.mem_of_getElem? (i := 161) rfl))) rfl
theorem cw_Model_117 : Cw "ContestRowsModel" 117 y_Model_counting b_Model_counting 5 (some .int) 2 := ⟨kb_Model_counting, kn_Model, km_Model_117, by decide +kernel⟩
theorem ki_Model_counting : Cond.instanceMethod y_Model_counting ∈ TBL := TBL_t (List.mem_append_right _ (List.mem_append_right _ (List.mem_of_getElem? (i := 163) rfl))) rfl
theorem ks_Model_counting : Cond.selects "ContestRowsModel" y_Model_counting y_Model_counting ∈ TBL := TBL_in (List.mem_append_left _ (List.mem_map.mpr ⟨(y_Model_counting, 22), by decide +kernel, rfl⟩)) rfl
theorem kl_Model_121 : Cond.constantLong "ContestRowsModel" 121 (-1) ∈ TBL := TBL_t (List.mem_append_right _ (List.mem_append_right _ (List.mem_of_getElem? (i := 156) rfl))) rfl
set_option maxHeartbeats 4000000 in
set_option maxRecDepth 100000 in
theorem m_pointsOf_none (l : Launch) (G : va_G) (cI cZ cJ : ClassId) (hm : Nat → Nat) (mth : Nat) (np : Nat) (ne : Nat) (ns : Nat) (tl : Nat) (mbd : Option Nat) (gr : Nat → Nat) (stt : Nat → Option Nat) (sp : Nat → Nat) (sq : Nat → Nat) (sec : Nat → Nat) (ans : Nat → Nat) (rt : Nat → Bool) (nw : Nat → Nat) (mtd : Nat → Nat) (un : Nat → Nat) (mss : Nat → Nat) (msc : Nat → Nat) (mip : Nat → Bool) (mcb : Nat → Bool) (msco : Nat → Nat) (mtim : Nat → Nat) (x : Nat) (y : Nat) (hx0 : x < 20) (hy0 : y < 20) (hc : ctF nw sp sq sec rt stt ns x y = none) (hI : IS np ne ns gr nw sp sq sec (fun i => i) ans stt) : Ct l G (tyL cI cZ cJ) y_Model_pointsOf b_Model_pointsOf 7 (some .long) (rmL 3) [.ref (hm 0), .int (nI x), .int (nI y)] (w_M hm cI cZ cJ mth np ne ns tl mbd gr stt sp sq sec ans rt nw mtd un mss msc mip mcb msco mtim) (some (.long (oL none))) (w_M hm cI cZ cJ mth np ne ns tl mbd gr stt sp sq sec ans rt nw mtd un mss msc mip mcb msco mtim) := by
  refine M_start (by decide) (Nat.le_of_ble_eq_true rfl) ?_
  intro p e s m args below meth c A Q ls X Y hW hl
  have hx := X.1.1
  have hb := X.1.2.1
  have hl : lv_has ls 7 [(0, .ref (hm 0)), (1, .int (nI x)), (2, .int (nI y))] := hl
  refine lv_aload_n hx hb d_Model_pointsOf_0 rfl (lv_at hl 0 rfl) ?_
  refine lv_iload_n hx hb d_Model_pointsOf_1 rfl (lv_at hl 1 rfl) ?_
  refine lv_iload_n hx hb d_Model_pointsOf_2 rfl (lv_at hl 2 rfl) ?_
  refine R_callV (q0 := 0) (m_counting l G cI cZ cJ hm mth np ne ns tl mbd gr stt sp sq sec ans rt nw mtd un mss msc mip mcb msco mtim x y hx0 hy0 hI) X rfl hW cw_Model_117 ki_Model_counting ks_Model_counting rfl rfl ⟨rfl, rfl⟩ ⟨by decide, by decide⟩ ⟨Nat.zero_le _, Nat.zero_le _⟩ [true, true, true, true, true, true, true, true, true, true, true, true, true, true, true, true, true] rfl (Nat.le_of_ble_eq_true rfl) rfl rfl hl.1 rfl rfl (Nat.le_of_ble_eq_true rfl) d_Model_pointsOf_3 rfl (fun H locs hW => ?_)
  have hW : Wr G A s.heap (w_M hm cI cZ cJ mth np ne ns tl mbd gr stt sp sq sec ans rt nw mtd un mss msc mip mcb msco mtim) H locs := hW
  refine lv_istore_n (lv' := [(3, .int (oI (ctF nw sp sq sec rt stt ns x y))), (0, .ref (hm 0)), (1, .int (nI x)), (2, .int (nI y))]) hx hb d_Model_pointsOf_6 rfl hl (by decide) rfl (fun ls hl => ?_)
  refine lv_iload_n hx hb d_Model_pointsOf_7 rfl (lv_at hl 0 rfl) ?_
  refine N_if_ge_O hx hb (fun z hz => by rw [hc] at hz; cases hz) (tgt := 15) d_Model_pointsOf_8 (by decide) (fun c8 => ?_) (fun c8 => ?_)
  · exact absurd hc c8
  · refine lv_ldc2 hx hb X.1.2.2.2.1 (X.1.2.2.2.2 _ kl_Model_121) d_Model_pointsOf_11 ?_
    exact R_lret X Y hW rfl rfl d_Model_pointsOf_14

set_option maxHeartbeats 4000000 in
set_option maxRecDepth 100000 in
theorem m_pointsOf_some (l : Launch) (G : va_G) (cI cZ cJ : ClassId) (hm : Nat → Nat) (mth : Nat) (np : Nat) (ne : Nat) (ns : Nat) (tl : Nat) (mbd : Option Nat) (gr : Nat → Nat) (stt : Nat → Option Nat) (sp : Nat → Nat) (sq : Nat → Nat) (sec : Nat → Nat) (ans : Nat → Nat) (rt : Nat → Bool) (nw : Nat → Nat) (mtd : Nat → Nat) (un : Nat → Nat) (mss : Nat → Nat) (msc : Nat → Nat) (mip : Nat → Bool) (mcb : Nat → Bool) (msco : Nat → Nat) (mtim : Nat → Nat) (x : Nat) (y : Nat) (d : Nat) (hx0 : x < 20) (hy0 : y < 20) (hd : ctF nw sp sq sec rt stt ns x y = some d) (hI : IS np ne ns gr nw sp sq sec (fun i => i) ans stt) : Ct l G (tyL cI cZ cJ) y_Model_pointsOf b_Model_pointsOf 7 (some .long) (rmL 3) [.ref (hm 0), .int (nI x), .int (nI y)] (w_M hm cI cZ cJ mth np ne ns tl mbd gr stt sp sq sec ans rt nw mtd un mss msc mip mcb msco mtim) (some (.long (lN (ptV gr nw sp sq sec rt stt ns x y d)))) (w_M hm cI cZ cJ mth np ne ns tl mbd gr stt sp sq sec ans rt nw mtd un mss msc mip mcb msco mtim) := by
  refine M_start (by decide) (Nat.le_of_ble_eq_true rfl) ?_
  intro p e s m args below meth c A Q ls X Y hW hl
  have hx := X.1.1
  have hb := X.1.2.1
  have hl : lv_has ls 7 [(0, .ref (hm 0)), (1, .int (nI x)), (2, .int (nI y))] := hl
  obtain ⟨z1, z2, z3, z4, z5, z6, z7, z8, z9, z10, z11, z12, z13⟩ := id hI
  have y1 := ctF_lt hd
  obtain ⟨s0, hs0, hle⟩ := z11 d y1
  have hsf : sfs sec sp stt d = sec d - s0 := by simp [sfs, hs0]
  have y2 := z8 d (by omega)
  have y3 := z4 y hy0
  have q0 := z5 0 (by omega)
  have q1 := z5 1 (by omega)
  have q2 := z5 2 (by omega)
  refine lv_aload_n hx hb d_Model_pointsOf_0 rfl (lv_at hl 0 rfl) ?_
  refine lv_iload_n hx hb d_Model_pointsOf_1 rfl (lv_at hl 1 rfl) ?_
  refine lv_iload_n hx hb d_Model_pointsOf_2 rfl (lv_at hl 2 rfl) ?_
  refine R_callV (q0 := 0) (m_counting l G cI cZ cJ hm mth np ne ns tl mbd gr stt sp sq sec ans rt nw mtd un mss msc mip mcb msco mtim x y hx0 hy0 hI) X rfl hW cw_Model_117 ki_Model_counting ks_Model_counting rfl rfl ⟨rfl, rfl⟩ ⟨by decide, by decide⟩ ⟨Nat.zero_le _, Nat.zero_le _⟩ [true, true, true, true, true, true, true, true, true, true, true, true, true, true, true, true, true] rfl (Nat.le_of_ble_eq_true rfl) rfl rfl hl.1 rfl rfl (Nat.le_of_ble_eq_true rfl) d_Model_pointsOf_3 rfl (fun H locs hW => ?_)
  have hW : Wr G A s.heap (w_M hm cI cZ cJ mth np ne ns tl mbd gr stt sp sq sec ans rt nw mtd un mss msc mip mcb msco mtim) H locs := hW
  refine lv_istore_n (lv' := [(3, .int (oI (ctF nw sp sq sec rt stt ns x y))), (0, .ref (hm 0)), (1, .int (nI x)), (2, .int (nI y))]) hx hb d_Model_pointsOf_6 rfl hl (by decide) rfl (fun ls hl => ?_)
  refine lv_iload_n hx hb d_Model_pointsOf_7 rfl (lv_at hl 0 rfl) ?_
  refine N_if_ge_O hx hb (fun z hz => by have := ctF_lt hz; omega) (tgt := 15) d_Model_pointsOf_8 (by decide) (fun c8 => ?_) (fun c8 => ?_)
  · refine lv_iconst (v := (nI 0)) hx hb d_Model_pointsOf_15 (by decide +kernel) ?_
    refine lv_istore (lv' := [(4, .int (nI 0)), (3, .int (oI (ctF nw sp sq sec rt stt ns x y))), (0, .ref (hm 0)), (1, .int (nI x)), (2, .int (nI y))]) hx hb d_Model_pointsOf_16 hl (by decide) rfl (fun ls hl => ?_)
    refine lv_iconst (v := (nI 0)) hx hb d_Model_pointsOf_18 (by decide +kernel) ?_
    refine lv_istore (lv' := [(5, .int (nI 0)), (4, .int (nI 0)), (3, .int (oI (ctF nw sp sq sec rt stt ns x y))), (0, .ref (hm 0)), (1, .int (nI x)), (2, .int (nI y))]) hx hb d_Model_pointsOf_19 hl (by decide) rfl (fun ls hl => ?_)
    have L21 : ∀ (n : Nat) (r : Nat) (i : Nat) (hi : i + n = ns) (hr : r = cntF (wrM sp sq sec rt x y d) i) (H : Heap) (locs : List Loc) (hW : Wr G A s.heap (w_M hm cI cZ cJ mth np ne ns tl mbd gr stt sp sq sec ans rt nw mtd un mss msc mip mcb msco mtim) H locs) (ls : Array Slot) (hl : lv_has ls 7 [(0, .ref (hm 0)), (1, .int (nI x)), (2, .int (nI y)), (3, .int (oI (ctF nw sp sq sec rt stt ns x y))), (4, .int (nI r)), (5, .int (nI i))]), W p l e (rmL 3) s m args below meth c H locs 0 0 Q (F0 m 21 ls []) := by
      intro n
      induction n with
      | zero =>
        intro r i hi hr H locs hW ls hl
        refine lv_iload hx hb d_Model_pointsOf_21 (lv_at hl 5 rfl) ?_
        refine lv_aload_n hx hb d_Model_pointsOf_23 rfl (lv_at hl 0 rfl) ?_
        refine R_get X hW i_Model rfl 3 (by decide) kf_Model_70 0 rfl rfl d_Model_pointsOf_24 ?_
        refine N_icmp_ge_NN hx hb (by omega) (by omega) (tgt := 77) d_Model_pointsOf_27 (by decide) (fun c27 => ?_) (fun c27 => ?_)
        · have y4 := cntF_le (wrM sp sq sec rt x y d) ns
          have e9 : ns = i := by omega
          subst e9
          refine lv_aload_n hx hb d_Model_pointsOf_77 rfl (lv_at hl 0 rfl) ?_
          refine R_get X hW i_Model rfl 4 (by decide) kf_Model_7 0 rfl rfl d_Model_pointsOf_78 ?_
          refine lv_iload_n hx hb d_Model_pointsOf_81 rfl (lv_at hl 2 rfl) ?_
          refine R_iald X hW (t0 := 0) rfl 1 rfl (k := y) (by omega) (by decide) d_Model_pointsOf_82 ?_
          refine N_i2l hx hb (by omega) d_Model_pointsOf_83 ?_
          refine lv_aload_n hx hb d_Model_pointsOf_84 rfl (lv_at hl 0 rfl) ?_
          refine R_get X hW i_Model rfl 11 (by decide) kf_Model_32 0 rfl rfl d_Model_pointsOf_85 ?_
          refine lv_iconst (v := (nI 0)) hx hb d_Model_pointsOf_88 (by decide +kernel) ?_
          refine R_iald X hW (t0 := 0) rfl 8 rfl (k := 0) (by omega) (by decide) d_Model_pointsOf_89 ?_
          refine N_i2l hx hb (by omega) d_Model_pointsOf_90 ?_
          refine N_lmul hx hb d_Model_pointsOf_91 ?_
          refine lv_aload_n hx hb d_Model_pointsOf_92 rfl (lv_at hl 0 rfl) ?_
          refine R_get X hW i_Model rfl 4 (by decide) kf_Model_7 0 rfl rfl d_Model_pointsOf_93 ?_
          refine lv_iload_n hx hb d_Model_pointsOf_96 rfl (lv_at hl 2 rfl) ?_
          refine R_iald X hW (t0 := 0) rfl 1 rfl (k := y) (by omega) (by decide) d_Model_pointsOf_97 ?_
          refine N_i2l hx hb (by omega) d_Model_pointsOf_98 ?_
          refine lv_aload_n hx hb d_Model_pointsOf_99 rfl (lv_at hl 0 rfl) ?_
          refine R_get X hW i_Model rfl 11 (by decide) kf_Model_32 0 rfl rfl d_Model_pointsOf_100 ?_
          refine lv_iconst (v := (nI 1)) hx hb d_Model_pointsOf_103 (by decide +kernel) ?_
          refine R_iald X hW (t0 := 0) rfl 8 rfl (k := 1) (by omega) (by decide) d_Model_pointsOf_104 ?_
          refine N_i2l hx hb (by omega) d_Model_pointsOf_105 ?_
          refine N_lmul hx hb d_Model_pointsOf_106 ?_
          refine lv_aload_n hx hb d_Model_pointsOf_107 rfl (lv_at hl 0 rfl) ?_
          refine lv_iload_n hx hb d_Model_pointsOf_108 rfl (lv_at hl 3 rfl) ?_
          refine W.eq (g2 := F0 m 109 ls (.int (nI d) :: .ref (hm 0) :: .long (lN ((gr y) * (nw 1))) :: .long (lN ((gr y) * (nw 0))) :: [])) (by rw [hd]; first | done | rfl) ?_
          refine R_callV (q0 := 0) (m_secondsOf l G cI cZ cJ hm mth np ne ns tl mbd gr stt sp sq sec ans rt nw mtd un mss msc mip mcb msco mtim d s0 (by omega) (z13 d (by omega)).1 hs0 hle) X rfl hW cw_Model_103 ki_Model_secondsOf ks_Model_secondsOf rfl rfl ⟨rfl, rfl⟩ ⟨by decide, by decide⟩ ⟨Nat.zero_le _, Nat.zero_le _⟩ [true, true, true, true, true, true, true, true, true, true, true, true, true, true, true, true, true] rfl (Nat.le_of_ble_eq_true rfl) rfl rfl hl.1 rfl rfl (Nat.le_of_ble_eq_true rfl) d_Model_pointsOf_109 rfl (fun H locs hW => ?_)
          have hW : Wr G A s.heap (w_M hm cI cZ cJ mth np ne ns tl mbd gr stt sp sq sec ans rt nw mtd un mss msc mip mcb msco mtim) H locs := hW
          refine lv_bipush (v := (nI 60)) hx hb d_Model_pointsOf_112 (by decide +kernel) ?_
          refine N_idiv hx hb (by omega) (by decide) (by decide) d_Model_pointsOf_114 ?_
          refine N_i2l hx hb (by omega) d_Model_pointsOf_115 ?_
          refine N_lmul hx hb d_Model_pointsOf_116 ?_
          refine lv_lsub hx hb d_Model_pointsOf_117 ?_
          refine lv_aload_n hx hb d_Model_pointsOf_118 rfl (lv_at hl 0 rfl) ?_
          refine R_get X hW i_Model rfl 11 (by decide) kf_Model_32 0 rfl rfl d_Model_pointsOf_119 ?_
          refine lv_iconst (v := (nI 2)) hx hb d_Model_pointsOf_122 (by decide +kernel) ?_
          refine R_iald X hW (t0 := 0) rfl 8 rfl (k := 2) (by omega) (by decide) d_Model_pointsOf_123 ?_
          refine N_i2l hx hb (by omega) d_Model_pointsOf_124 ?_
          refine lv_iload hx hb d_Model_pointsOf_125 (lv_at hl 4 rfl) ?_
          refine N_i2l hx hb (by omega) d_Model_pointsOf_127 ?_
          refine N_lmul hx hb d_Model_pointsOf_128 ?_
          refine lv_lsub hx hb d_Model_pointsOf_129 ?_
          refine lv_lstore (lv' := [(5, .long (((lN ((gr y) * (nw 0))) - (lN (((gr y) * (nw 1)) * ((sec d - s0) / 60)))) - (lN ((nw 2) * r)))), (0, .ref (hm 0)), (1, .int (nI x)), (2, .int (nI y)), (3, .int (oI (ctF nw sp sq sec rt stt ns x y))), (4, .int (nI r))]) hx hb d_Model_pointsOf_130 hl (by decide) rfl (fun ls hl => ?_)
          refine lv_lload hx hb d_Model_pointsOf_132 (lv_at hl 0 rfl) ?_
          refine lv_lconst (v := lN 0) hx hb d_Model_pointsOf_134 (by decide +kernel) ?_
          refine N_lcmp_ge_R0 hx hb (tgt := 143) d_Model_pointsOf_135 d_Model_pointsOf_136 (by decide) (fun c135 => ?_) (fun c135 => ?_)
          · refine lv_lload hx hb d_Model_pointsOf_143 (lv_at hl 0 rfl) ?_
            exact R_lret X Y hW rfl (by rw [wth_pos y3 (by omega) (by omega) q0 q1 q2 c135, ptV, hsf, hr]) d_Model_pointsOf_145
          · refine lv_lconst (v := lN 0) hx hb d_Model_pointsOf_139 (by decide +kernel) ?_
            refine lv_goto (tgt := 145) hx hb d_Model_pointsOf_140 (by decide) ?_
            exact R_lret X Y hW rfl (by rw [wth_neg y3 (by omega) (by omega) q0 q1 q2 c135, ptV, hsf, hr]) d_Model_pointsOf_145
        · exfalso; omega
      | succ n ih21 =>
        intro r i hi hr H locs hW ls hl
        refine lv_iload hx hb d_Model_pointsOf_21 (lv_at hl 5 rfl) ?_
        refine lv_aload_n hx hb d_Model_pointsOf_23 rfl (lv_at hl 0 rfl) ?_
        refine R_get X hW i_Model rfl 3 (by decide) kf_Model_70 0 rfl rfl d_Model_pointsOf_24 ?_
        refine N_icmp_ge_NN hx hb (by omega) (by omega) (tgt := 77) d_Model_pointsOf_27 (by decide) (fun c27 => ?_) (fun c27 => ?_)
        · exfalso; omega
        · refine lv_iload hx hb d_Model_pointsOf_30 (lv_at hl 4 rfl) ?_
          refine lv_aload_n hx hb d_Model_pointsOf_32 rfl (lv_at hl 0 rfl) ?_
          refine lv_iload hx hb d_Model_pointsOf_33 (lv_at hl 5 rfl) ?_
          refine lv_iload_n hx hb d_Model_pointsOf_35 rfl (lv_at hl 1 rfl) ?_
          refine lv_iload_n hx hb d_Model_pointsOf_36 rfl (lv_at hl 2 rfl) ?_
          refine R_callV (q0 := 0) (m_isOf l G cI cZ cJ hm mth np ne ns tl mbd gr stt sp sq sec ans rt nw mtd un mss msc mip mcb msco mtim i x y (by omega) hx0 hy0 z13) X rfl hW cw_Model_109 ki_Model_isOf ks_Model_isOf rfl rfl ⟨rfl, rfl⟩ ⟨by decide, by decide⟩ ⟨Nat.zero_le _, Nat.zero_le _⟩ [true, true, true, true, true, true, true, true, true, true, true, true, true, true, true, true, true] rfl (Nat.le_of_ble_eq_true rfl) rfl rfl hl.1 rfl rfl (Nat.le_of_ble_eq_true rfl) d_Model_pointsOf_37 rfl (fun H locs hW => ?_)
          have hW : Wr G A s.heap (w_M hm cI cZ cJ mth np ne ns tl mbd gr stt sp sq sec ans rt nw mtd un mss msc mip mcb msco mtim) H locs := hW
          refine N_if_eq_B hx hb  (tgt := 67) d_Model_pointsOf_40 (by decide) (fun c40 => ?_) (fun c40 => ?_)
          · refine lv_iconst (v := (nI 0)) hx hb d_Model_pointsOf_67 (by decide +kernel) ?_
            refine N_iadd hx hb d_Model_pointsOf_68 ?_
            refine lv_istore (lv' := [(4, .int (nI (r + 0))), (0, .ref (hm 0)), (1, .int (nI x)), (2, .int (nI y)), (3, .int (oI (ctF nw sp sq sec rt stt ns x y))), (5, .int (nI i))]) hx hb d_Model_pointsOf_69 hl (by decide) rfl (fun ls hl => ?_)
            refine lv_iinc (v := (nI (i + 1))) (lv' := [(5, .int (nI (i + 1))), (4, .int (nI (r + 0))), (0, .ref (hm 0)), (1, .int (nI x)), (2, .int (nI y)), (3, .int (oI (ctF nw sp sq sec rt stt ns x y)))]) hx hb d_Model_pointsOf_71 hl (k := 5) rfl (N_inc i) (by decide) rfl (fun ls hl => ?_)
            refine lv_goto (tgt := 21) hx hb d_Model_pointsOf_74 (by decide) ?_
            exact ih21 (r + 0) (i + 1) (by omega) (by rw [cntF, ← hr, if_neg (by simp [wrM, c40])]) _ _ hW ls (lv_sub hl [2, 3, 4, 5, 1, 0] rfl)
          · refine lv_aload_n hx hb d_Model_pointsOf_43 rfl (lv_at hl 0 rfl) ?_
            refine R_get X hW i_Model rfl 10 (by decide) kf_Model_28 0 rfl rfl d_Model_pointsOf_44 ?_
            refine lv_iload hx hb d_Model_pointsOf_47 (lv_at hl 5 rfl) ?_
            refine R_zald X hW (t0 := 1) rfl 7 rfl (k := i) (by omega) (by decide) d_Model_pointsOf_49 ?_
            refine N_if_ne_B hx hb  (tgt := 67) d_Model_pointsOf_50 (by decide) (fun c50 => ?_) (fun c50 => ?_)
            · refine lv_iconst (v := (nI 0)) hx hb d_Model_pointsOf_67 (by decide +kernel) ?_
              refine N_iadd hx hb d_Model_pointsOf_68 ?_
              refine lv_istore (lv' := [(4, .int (nI (r + 0))), (0, .ref (hm 0)), (1, .int (nI x)), (2, .int (nI y)), (3, .int (oI (ctF nw sp sq sec rt stt ns x y))), (5, .int (nI i))]) hx hb d_Model_pointsOf_69 hl (by decide) rfl (fun ls hl => ?_)
              refine lv_iinc (v := (nI (i + 1))) (lv' := [(5, .int (nI (i + 1))), (4, .int (nI (r + 0))), (0, .ref (hm 0)), (1, .int (nI x)), (2, .int (nI y)), (3, .int (oI (ctF nw sp sq sec rt stt ns x y)))]) hx hb d_Model_pointsOf_71 hl (k := 5) rfl (N_inc i) (by decide) rfl (fun ls hl => ?_)
              refine lv_goto (tgt := 21) hx hb d_Model_pointsOf_74 (by decide) ?_
              exact ih21 (r + 0) (i + 1) (by omega) (by rw [cntF, ← hr, if_neg (by simp [wrM, c50])]) _ _ hW ls (lv_sub hl [2, 3, 4, 5, 1, 0] rfl)
            · refine lv_aload_n hx hb d_Model_pointsOf_53 rfl (lv_at hl 0 rfl) ?_
              refine lv_iload hx hb d_Model_pointsOf_54 (lv_at hl 5 rfl) ?_
              refine lv_iload_n hx hb d_Model_pointsOf_56 rfl (lv_at hl 3 rfl) ?_
              refine W.eq (g2 := F0 m 57 ls (.int (nI d) :: .int (nI i) :: .ref (hm 0) :: .int (nI r) :: [])) (by rw [hd]; first | done | rfl) ?_
              refine R_callV (q0 := 0) (m_isAhead l G cI cZ cJ hm mth np ne ns tl mbd gr stt sp sq sec ans rt nw mtd un mss msc mip mcb msco mtim i d (by omega) (by omega) z8) X rfl hW cw_Model_113 ki_Model_isAhead ks_Model_isAhead rfl rfl ⟨rfl, rfl⟩ ⟨by decide, by decide⟩ ⟨Nat.zero_le _, Nat.zero_le _⟩ [true, true, true, true, true, true, true, true, true, true, true, true, true, true, true, true, true] rfl (Nat.le_of_ble_eq_true rfl) rfl rfl hl.1 rfl rfl (Nat.le_of_ble_eq_true rfl) d_Model_pointsOf_57 rfl (fun H locs hW => ?_)
              have hW : Wr G A s.heap (w_M hm cI cZ cJ mth np ne ns tl mbd gr stt sp sq sec ans rt nw mtd un mss msc mip mcb msco mtim) H locs := hW
              refine N_if_eq_B hx hb  (tgt := 67) d_Model_pointsOf_60 (by decide) (fun c60 => ?_) (fun c60 => ?_)
              · refine lv_iconst (v := (nI 0)) hx hb d_Model_pointsOf_67 (by decide +kernel) ?_
                refine N_iadd hx hb d_Model_pointsOf_68 ?_
                refine lv_istore (lv' := [(4, .int (nI (r + 0))), (0, .ref (hm 0)), (1, .int (nI x)), (2, .int (nI y)), (3, .int (oI (ctF nw sp sq sec rt stt ns x y))), (5, .int (nI i))]) hx hb d_Model_pointsOf_69 hl (by decide) rfl (fun ls hl => ?_)
                refine lv_iinc (v := (nI (i + 1))) (lv' := [(5, .int (nI (i + 1))), (4, .int (nI (r + 0))), (0, .ref (hm 0)), (1, .int (nI x)), (2, .int (nI y)), (3, .int (oI (ctF nw sp sq sec rt stt ns x y)))]) hx hb d_Model_pointsOf_71 hl (k := 5) rfl (N_inc i) (by decide) rfl (fun ls hl => ?_)
                refine lv_goto (tgt := 21) hx hb d_Model_pointsOf_74 (by decide) ?_
                exact ih21 (r + 0) (i + 1) (by omega) (by rw [cntF, ← hr, if_neg (by simp [wrM, c60])]) _ _ hW ls (lv_sub hl [2, 3, 4, 5, 1, 0] rfl)
              · refine lv_iconst (v := (nI 1)) hx hb d_Model_pointsOf_63 (by decide +kernel) ?_
                refine lv_goto (tgt := 68) hx hb d_Model_pointsOf_64 (by decide) ?_
                refine N_iadd hx hb d_Model_pointsOf_68 ?_
                refine lv_istore (lv' := [(4, .int (nI (r + 1))), (0, .ref (hm 0)), (1, .int (nI x)), (2, .int (nI y)), (3, .int (oI (ctF nw sp sq sec rt stt ns x y))), (5, .int (nI i))]) hx hb d_Model_pointsOf_69 hl (by decide) rfl (fun ls hl => ?_)
                refine lv_iinc (v := (nI (i + 1))) (lv' := [(5, .int (nI (i + 1))), (4, .int (nI (r + 1))), (0, .ref (hm 0)), (1, .int (nI x)), (2, .int (nI y)), (3, .int (oI (ctF nw sp sq sec rt stt ns x y)))]) hx hb d_Model_pointsOf_71 hl (k := 5) rfl (N_inc i) (by decide) rfl (fun ls hl => ?_)
                refine lv_goto (tgt := 21) hx hb d_Model_pointsOf_74 (by decide) ?_
                exact ih21 (r + 1) (i + 1) (by omega) (by rw [cntF, ← hr, if_pos (by simp [wrM, c40, c50, c60])]) _ _ hW ls (lv_sub hl [2, 3, 4, 5, 1, 0] rfl)
    exact L21 ns 0 0 (by omega) rfl _ _ hW ls (lv_sub hl [3, 4, 5, 2, 1, 0] rfl)
  · exfalso; rw [hd] at c8; cases c8
