set_option maxHeartbeats 4000000 in
set_option maxRecDepth 100000 in
theorem m_points_bad (l : Launch) (G : va_G) (cI cZ cJ : ClassId) (hm : Nat → Nat) (mth : Nat) (np : Nat) (ne : Nat) (ns : Nat) (tl : Nat) (mbd : Option Nat) (gr : Nat → Nat) (stt : Nat → Option Nat) (sp : Nat → Nat) (sq : Nat → Nat) (sec : Nat → Nat) (ans : Nat → Nat) (rt : Nat → Bool) (nw : Nat → Nat) (mtd : Nat → Nat) (un : Nat → Nat) (mss : Nat → Nat) (msc : Nat → Nat) (mip : Nat → Bool) (mcb : Nat → Bool) (msco : Nat → Nat) (mtim : Nat → Nat) (x : Int32) (y : Int32) (hbad : ¬ (inB x ne = true ∧ inB y np = true)) (hn : ne ≤ 20 ∧ np ≤ 20) : Ct l G (tyL cI cZ cJ) y_Model_points b_Model_points 3 (some .long) (rmL 1) [.ref (hm 0), .int x, .int y] (w_M hm cI cZ cJ mth np ne ns tl mbd gr stt sp sq sec ans rt nw mtd un mss msc mip mcb msco mtim) (some (.long (oL none))) (w_M hm cI cZ cJ 0 np ne ns tl mbd gr stt sp sq sec ans rt nw mtd un mss msc mip mcb msco mtim) := by
  refine M_start (by decide) (Nat.le_of_ble_eq_true rfl) ?_
  intro p e s m args below meth c A Q ls X Y hW hl
  have hx := X.1.1
  have hb := X.1.2.1
  have hl : lv_has ls 3 [(0, .ref (hm 0)), (1, .int x), (2, .int y)] := hl
  refine lv_aload_n hx hb d_Model_points_0 rfl (lv_at hl 0 rfl) ?_
  refine lv_iconst (v := (nI 0)) hx hb d_Model_points_1 (by decide +kernel) ?_
  refine R_put X hW i_Model rfl t_Model t_Model_ok n_Model 0 (by decide) kf_Model_60 rfl (ty := .int) (by decide +kernel) 0 rfl (v := .int (nI 0)) rfl rfl (Nat.le_of_ble_eq_true rfl) d_Model_points_2 (fun H locs hW => ?_)
  have hW : Wr G A s.heap (w_M hm cI cZ cJ 0 np ne ns tl mbd gr stt sp sq sec ans rt nw mtd un mss msc mip mcb msco mtim) H locs := hW
  refine lv_aload_n hx hb d_Model_points_5 rfl (lv_at hl 0 rfl) ?_
  refine lv_iload_n hx hb d_Model_points_6 rfl (lv_at hl 1 rfl) ?_
  refine R_callV (q0 := 0) (m_isPerson l G cI cZ cJ hm 0 np ne ns tl mbd gr stt sp sq sec ans rt nw mtd un mss msc mip mcb msco mtim x (by omega)) X rfl hW cw_Model_93 ki_Model_isPerson ks_Model_isPerson rfl rfl ⟨rfl, rfl⟩ ⟨by decide, by decide⟩ ⟨Nat.zero_le _, Nat.zero_le _⟩ [true, true, true, true, true, true, true, true, true, true, true, true, true, true, true, true, true] rfl (Nat.le_of_ble_eq_true rfl) rfl rfl hl.1 rfl rfl (Nat.le_of_ble_eq_true rfl) d_Model_points_7 rfl (fun H locs hW => ?_)
  have hW : Wr G A s.heap (w_M hm cI cZ cJ 0 np ne ns tl mbd gr stt sp sq sec ans rt nw mtd un mss msc mip mcb msco mtim) H locs := hW
  refine N_if_eq_B hx hb  (tgt := 30) d_Model_points_10 (by decide) (fun c10 => ?_) (fun c10 => ?_)
  · refine lv_ldc2 hx hb X.1.2.2.2.1 (X.1.2.2.2.2 _ kl_Model_121) d_Model_points_30 ?_
    exact R_lret X Y hW rfl rfl d_Model_points_33
  · refine lv_aload_n hx hb d_Model_points_13 rfl (lv_at hl 0 rfl) ?_
    refine lv_iload_n hx hb d_Model_points_14 rfl (lv_at hl 2 rfl) ?_
    refine R_callV (q0 := 0) (m_isPuzzle l G cI cZ cJ hm 0 np ne ns tl mbd gr stt sp sq sec ans rt nw mtd un mss msc mip mcb msco mtim y (by omega)) X rfl hW cw_Model_97 ki_Model_isPuzzle ks_Model_isPuzzle rfl rfl ⟨rfl, rfl⟩ ⟨by decide, by decide⟩ ⟨Nat.zero_le _, Nat.zero_le _⟩ [true, true, true, true, true, true, true, true, true, true, true, true, true, true, true, true, true] rfl (Nat.le_of_ble_eq_true rfl) rfl rfl hl.1 rfl rfl (Nat.le_of_ble_eq_true rfl) d_Model_points_15 rfl (fun H locs hW => ?_)
    have hW : Wr G A s.heap (w_M hm cI cZ cJ 0 np ne ns tl mbd gr stt sp sq sec ans rt nw mtd un mss msc mip mcb msco mtim) H locs := hW
    refine N_if_eq_B hx hb  (tgt := 30) d_Model_points_18 (by decide) (fun c18 => ?_) (fun c18 => ?_)
    · refine lv_ldc2 hx hb X.1.2.2.2.1 (X.1.2.2.2.2 _ kl_Model_121) d_Model_points_30 ?_
      exact R_lret X Y hW rfl rfl d_Model_points_33
    · exact absurd ⟨c10, c18⟩ hbad

set_option maxHeartbeats 4000000 in
set_option maxRecDepth 100000 in
theorem m_score_bad (l : Launch) (G : va_G) (cI cZ cJ : ClassId) (hm : Nat → Nat) (mth : Nat) (np : Nat) (ne : Nat) (ns : Nat) (tl : Nat) (mbd : Option Nat) (gr : Nat → Nat) (stt : Nat → Option Nat) (sp : Nat → Nat) (sq : Nat → Nat) (sec : Nat → Nat) (ans : Nat → Nat) (rt : Nat → Bool) (nw : Nat → Nat) (mtd : Nat → Nat) (un : Nat → Nat) (mss : Nat → Nat) (msc : Nat → Nat) (mip : Nat → Bool) (mcb : Nat → Bool) (msco : Nat → Nat) (mtim : Nat → Nat) (x : Int32) (w : Int32) (hbad : ¬ (inB x ne = true ∧ 0 ≤ w.toInt ∧ w.toInt ≤ 3)) (hn : ne ≤ 20) : Ct l G (tyL cI cZ cJ) y_Model_score b_Model_score 5 (some .long) (rmL 1) [.ref (hm 0), .int x, .int w] (w_M hm cI cZ cJ mth np ne ns tl mbd gr stt sp sq sec ans rt nw mtd un mss msc mip mcb msco mtim) (some (.long (oL none))) (w_M hm cI cZ cJ 0 np ne ns tl mbd gr stt sp sq sec ans rt nw mtd un mss msc mip mcb msco mtim) := by
  refine M_start (by decide) (Nat.le_of_ble_eq_true rfl) ?_
  intro p e s m args below meth c A Q ls X Y hW hl
  have hx := X.1.1
  have hb := X.1.2.1
  have hl : lv_has ls 5 [(0, .ref (hm 0)), (1, .int x), (2, .int w)] := hl
  refine lv_aload_n hx hb d_Model_score_0 rfl (lv_at hl 0 rfl) ?_
  refine lv_iconst (v := (nI 0)) hx hb d_Model_score_1 (by decide +kernel) ?_
  refine R_put X hW i_Model rfl t_Model t_Model_ok n_Model 0 (by decide) kf_Model_60 rfl (ty := .int) (by decide +kernel) 0 rfl (v := .int (nI 0)) rfl rfl (Nat.le_of_ble_eq_true rfl) d_Model_score_2 (fun H locs hW => ?_)
  have hW : Wr G A s.heap (w_M hm cI cZ cJ 0 np ne ns tl mbd gr stt sp sq sec ans rt nw mtd un mss msc mip mcb msco mtim) H locs := hW
  refine lv_aload_n hx hb d_Model_score_5 rfl (lv_at hl 0 rfl) ?_
  refine lv_iload_n hx hb d_Model_score_6 rfl (lv_at hl 1 rfl) ?_
  refine R_callV (q0 := 0) (m_isPerson l G cI cZ cJ hm 0 np ne ns tl mbd gr stt sp sq sec ans rt nw mtd un mss msc mip mcb msco mtim x (by omega)) X rfl hW cw_Model_93 ki_Model_isPerson ks_Model_isPerson rfl rfl ⟨rfl, rfl⟩ ⟨by decide, by decide⟩ ⟨Nat.zero_le _, Nat.zero_le _⟩ [true, true, true, true, true, true, true, true, true, true, true, true, true, true, true, true, true] rfl (Nat.le_of_ble_eq_true rfl) rfl rfl hl.1 rfl rfl (Nat.le_of_ble_eq_true rfl) d_Model_score_7 rfl (fun H locs hW => ?_)
  have hW : Wr G A s.heap (w_M hm cI cZ cJ 0 np ne ns tl mbd gr stt sp sq sec ans rt nw mtd un mss msc mip mcb msco mtim) H locs := hW
  refine N_if_ne_B hx hb  (tgt := 17) d_Model_score_10 (by decide) (fun c10 => ?_) (fun c10 => ?_)
  · refine lv_iconst (v := (nI 0)) hx hb d_Model_score_17 (by decide +kernel) ?_
    refine lv_istore_n (lv' := [(3, .int (nI 0)), (0, .ref (hm 0)), (1, .int x), (2, .int w)]) hx hb d_Model_score_18 rfl hl (by decide) rfl (fun ls hl => ?_)
    refine lv_iload_n hx hb d_Model_score_19 rfl (lv_at hl 3 rfl) ?_
    refine lv_tableOut (tgt := 148) hx hb d_Model_score_20 (by have : ¬ (0 ≤ w.toInt ∧ w.toInt ≤ 3) := fun q => hbad ⟨c10, q.1, q.2⟩; omega) (by decide) ?_
    refine lv_ldc2 hx hb X.1.2.2.2.1 (X.1.2.2.2.2 _ kl_Model_121) d_Model_score_148 ?_
    exact R_lret X Y hW rfl rfl d_Model_score_151
  · refine lv_ldc2 hx hb X.1.2.2.2.1 (X.1.2.2.2.2 _ kl_Model_121) d_Model_score_13 ?_
    exact R_lret X Y hW rfl rfl d_Model_score_16

set_option maxHeartbeats 4000000 in
set_option maxRecDepth 100000 in
theorem m_timeOf (l : Launch) (G : va_G) (cI cZ cJ : ClassId) (hm : Nat → Nat) (mth : Nat) (np : Nat) (ne : Nat) (ns : Nat) (tl : Nat) (mbd : Option Nat) (gr : Nat → Nat) (stt : Nat → Option Nat) (sp : Nat → Nat) (sq : Nat → Nat) (sec : Nat → Nat) (ans : Nat → Nat) (rt : Nat → Bool) (nw : Nat → Nat) (mtd : Nat → Nat) (un : Nat → Nat) (mss : Nat → Nat) (msc : Nat → Nat) (mip : Nat → Bool) (mcb : Nat → Bool) (msco : Nat → Nat) (mtim : Nat → Nat) (x : Nat) (hx0 : x < 20) (hI : IS np ne ns gr nw sp sq sec (fun i => i) ans stt) : Ct l G (tyL cI cZ cJ) y_Model_timeOf b_Model_timeOf 5 (some .long) (rmL 3) [.ref (hm 0), .int (nI x)] (w_M hm cI cZ cJ mth np ne ns tl mbd gr stt sp sq sec ans rt nw mtd un mss msc mip mcb msco mtim) (some (.long (lN (sumF (tiM nw sp sq sec rt stt ns x) np)))) (w_M hm cI cZ cJ mth np ne ns tl mbd gr stt sp sq sec ans rt nw mtd un mss msc mip mcb msco mtim) := by
  refine M_start (by decide) (Nat.le_of_ble_eq_true rfl) ?_
  intro p e s m args below meth c A Q ls X Y hW hl
  have hx := X.1.1
  have hb := X.1.2.1
  have hl : lv_has ls 5 [(0, .ref (hm 0)), (1, .int (nI x))] := hl
  obtain ⟨z1, z2, z3, z4, z5, z6, z7, z8, z9, z10, z11, z12, z13⟩ := id hI
  refine lv_lconst (v := lN 0) hx hb d_Model_timeOf_0 (by decide +kernel) ?_
  refine lv_lstore_n (lv' := [(2, .long (lN 0)), (0, .ref (hm 0)), (1, .int (nI x))]) hx hb d_Model_timeOf_1 rfl hl (by decide) rfl (fun ls hl => ?_)
  refine lv_iconst (v := (nI 0)) hx hb d_Model_timeOf_2 (by decide +kernel) ?_
  refine lv_istore (lv' := [(4, .int (nI 0)), (2, .long (lN 0)), (0, .ref (hm 0)), (1, .int (nI x))]) hx hb d_Model_timeOf_3 hl (by decide) rfl (fun ls hl => ?_)
  have L5 : ∀ (n : Nat) (v : Nat) (k : Nat) (hk : k + n = np) (hv : v = sumF (tiM nw sp sq sec rt stt ns x) k) (H : Heap) (locs : List Loc) (hW : Wr G A s.heap (w_M hm cI cZ cJ mth np ne ns tl mbd gr stt sp sq sec ans rt nw mtd un mss msc mip mcb msco mtim) H locs) (ls : Array Slot) (hl : lv_has ls 5 [(0, .ref (hm 0)), (1, .int (nI x)), (2, .long (lN v)), (4, .int (nI k))]), W p l e (rmL 3) s m args below meth c H locs 0 0 Q (F0 m 5 ls []) := by
    intro n
    induction n with
    | zero =>
      intro v k hk hv H locs hW ls hl
      refine lv_iload hx hb d_Model_timeOf_5 (lv_at hl 3 rfl) ?_
      refine lv_aload_n hx hb d_Model_timeOf_7 rfl (lv_at hl 0 rfl) ?_
      refine R_get X hW i_Model rfl 1 (by decide) kf_Model_64 0 rfl rfl d_Model_timeOf_8 ?_
      refine N_icmp_ge_NN hx hb (by omega) (by omega) (tgt := 49) d_Model_timeOf_11 (by decide) (fun c11 => ?_) (fun c11 => ?_)
      · have e9 : np = k := by omega
        subst e9
        refine lv_lload_n hx hb d_Model_timeOf_49 rfl (lv_at hl 2 rfl) ?_
        exact R_lret X Y hW rfl (by rw [hv]) d_Model_timeOf_50
      · exfalso; omega
    | succ n ih5 =>
      intro v k hk hv H locs hW ls hl
      refine lv_iload hx hb d_Model_timeOf_5 (lv_at hl 3 rfl) ?_
      refine lv_aload_n hx hb d_Model_timeOf_7 rfl (lv_at hl 0 rfl) ?_
      refine R_get X hW i_Model rfl 1 (by decide) kf_Model_64 0 rfl rfl d_Model_timeOf_8 ?_
      refine N_icmp_ge_NN hx hb (by omega) (by omega) (tgt := 49) d_Model_timeOf_11 (by decide) (fun c11 => ?_) (fun c11 => ?_)
      · exfalso; omega
      · refine lv_lload_n hx hb d_Model_timeOf_14 rfl (lv_at hl 2 rfl) ?_
        refine lv_aload_n hx hb d_Model_timeOf_15 rfl (lv_at hl 0 rfl) ?_
        refine lv_iload_n hx hb d_Model_timeOf_16 rfl (lv_at hl 1 rfl) ?_
        refine lv_iload hx hb d_Model_timeOf_17 (lv_at hl 3 rfl) ?_
        refine R_callV (q0 := 0) (m_counting l G cI cZ cJ hm mth np ne ns tl mbd gr stt sp sq sec ans rt nw mtd un mss msc mip mcb msco mtim x k hx0 (by omega) hI) X rfl hW cw_Model_117 ki_Model_counting ks_Model_counting rfl rfl ⟨rfl, rfl⟩ ⟨by decide, by decide⟩ ⟨Nat.zero_le _, Nat.zero_le _⟩ [true, true, true, true, true, true, true, true, true, true, true, true, true, true, true, true, true] rfl (Nat.le_of_ble_eq_true rfl) rfl rfl hl.1 rfl rfl (Nat.le_of_ble_eq_true rfl) d_Model_timeOf_19 rfl (fun H locs hW => ?_)
        have hW : Wr G A s.heap (w_M hm cI cZ cJ mth np ne ns tl mbd gr stt sp sq sec ans rt nw mtd un mss msc mip mcb msco mtim) H locs := hW
        refine N_if_lt_O hx hb (fun z hz => by have := ctF_lt hz; omega) (tgt := 40) d_Model_timeOf_22 (by decide) (fun c22 => ?_) (fun c22 => ?_)
        · refine lv_lconst (v := lN 0) hx hb d_Model_timeOf_40 (by decide +kernel) ?_
          refine N_ladd hx hb d_Model_timeOf_41 ?_
          refine lv_lstore_n (lv' := [(2, .long (lN (v + 0))), (0, .ref (hm 0)), (1, .int (nI x)), (4, .int (nI k))]) hx hb d_Model_timeOf_42 rfl hl (by decide) rfl (fun ls hl => ?_)
          refine lv_iinc (v := (nI (k + 1))) (lv' := [(4, .int (nI (k + 1))), (2, .long (lN (v + 0))), (0, .ref (hm 0)), (1, .int (nI x))]) hx hb d_Model_timeOf_43 hl (k := 3) rfl (N_inc k) (by decide) rfl (fun ls hl => ?_)
          refine lv_goto (tgt := 5) hx hb d_Model_timeOf_46 (by decide) ?_
          exact ih5 (v + 0) (k + 1) (by omega) (by rw [sumF, ← hv, tiM, c22]) _ _ hW ls (lv_sub hl [2, 3, 1, 0] rfl)
        · obtain ⟨d, hd⟩ : ∃ q, ctF nw sp sq sec rt stt ns x k = some q := by cases hq : ctF nw sp sq sec rt stt ns x k with | none => exact absurd hq c22 | some q => exact ⟨q, rfl⟩
          have y1 := ctF_lt hd
          obtain ⟨s0, hs0, hle⟩ := z11 d y1
          have hsf : sfs sec sp stt d = sec d - s0 := by simp [sfs, hs0]
          have y2 := z8 d (by omega)
          refine lv_aload_n hx hb d_Model_timeOf_25 rfl (lv_at hl 0 rfl) ?_
          refine lv_aload_n hx hb d_Model_timeOf_26 rfl (lv_at hl 0 rfl) ?_
          refine lv_iload_n hx hb d_Model_timeOf_27 rfl (lv_at hl 1 rfl) ?_
          refine lv_iload hx hb d_Model_timeOf_28 (lv_at hl 3 rfl) ?_
          refine R_callV (q0 := 0) (m_counting l G cI cZ cJ hm mth np ne ns tl mbd gr stt sp sq sec ans rt nw mtd un mss msc mip mcb msco mtim x k hx0 (by omega) hI) X rfl hW cw_Model_117 ki_Model_counting ks_Model_counting rfl rfl ⟨rfl, rfl⟩ ⟨by decide, by decide⟩ ⟨Nat.zero_le _, Nat.zero_le _⟩ [true, true, true, true, true, true, true, true, true, true, true, true, true, true, true, true, true] rfl (Nat.le_of_ble_eq_true rfl) rfl rfl hl.1 rfl rfl (Nat.le_of_ble_eq_true rfl) d_Model_timeOf_30 rfl (fun H locs hW => ?_)
          have hW : Wr G A s.heap (w_M hm cI cZ cJ mth np ne ns tl mbd gr stt sp sq sec ans rt nw mtd un mss msc mip mcb msco mtim) H locs := hW
          refine W.eq (g2 := F0 m 33 ls (.int (nI d) :: .ref (hm 0) :: .long (lN v) :: [])) (by rw [hd]; first | done | rfl) ?_
          refine R_callV (q0 := 0) (m_secondsOf l G cI cZ cJ hm mth np ne ns tl mbd gr stt sp sq sec ans rt nw mtd un mss msc mip mcb msco mtim d s0 (by omega) (z13 d (by omega)).1 hs0 hle) X rfl hW cw_Model_103 ki_Model_secondsOf ks_Model_secondsOf rfl rfl ⟨rfl, rfl⟩ ⟨by decide, by decide⟩ ⟨Nat.zero_le _, Nat.zero_le _⟩ [true, true, true, true, true, true, true, true, true, true, true, true, true, true, true, true, true] rfl (Nat.le_of_ble_eq_true rfl) rfl rfl hl.1 rfl rfl (Nat.le_of_ble_eq_true rfl) d_Model_timeOf_33 rfl (fun H locs hW => ?_)
          have hW : Wr G A s.heap (w_M hm cI cZ cJ mth np ne ns tl mbd gr stt sp sq sec ans rt nw mtd un mss msc mip mcb msco mtim) H locs := hW
          refine N_i2l hx hb (by omega) d_Model_timeOf_36 ?_
          refine lv_goto (tgt := 41) hx hb d_Model_timeOf_37 (by decide) ?_
          refine N_ladd hx hb d_Model_timeOf_41 ?_
          refine lv_lstore_n (lv' := [(2, .long (lN (v + (sec d - s0)))), (0, .ref (hm 0)), (1, .int (nI x)), (4, .int (nI k))]) hx hb d_Model_timeOf_42 rfl hl (by decide) rfl (fun ls hl => ?_)
          refine lv_iinc (v := (nI (k + 1))) (lv' := [(4, .int (nI (k + 1))), (2, .long (lN (v + (sec d - s0)))), (0, .ref (hm 0)), (1, .int (nI x))]) hx hb d_Model_timeOf_43 hl (k := 3) rfl (N_inc k) (by decide) rfl (fun ls hl => ?_)
          refine lv_goto (tgt := 5) hx hb d_Model_timeOf_46 (by decide) ?_
          exact ih5 (v + (sec d - s0)) (k + 1) (by omega) (by rw [sumF, ← hv, tiM, hd]; dsimp only; rw [hsf]) _ _ hW ls (lv_sub hl [2, 3, 1, 0] rfl)
  exact L5 np 0 0 (by omega) rfl _ _ hW ls (lv_sub hl [2, 3, 1, 0] rfl)

theorem kb_Model_pointsOf : Cond.code y_Model_pointsOf b_Model_pointsOf 7 (some .long) ∈ TBL := TBL_t (List.mem_append_right _ (List.mem_append_right _ (List.mem_of_getElem? (i := 176) rfl))) rfl
theorem km_Model_123 : Cond.methodLink "ContestRowsModel" 123 y_Model_pointsOf ∈ TBL := TBL_t (List.mem_append_right _ (List.mem_append_right _ (List.mem_of_getElem? (i := 173) rfl))) rfl
theorem cw_Model_123 : Cw "ContestRowsModel" 123 y_Model_pointsOf b_Model_pointsOf 7 (some .long) 2 := ⟨kb_Model_pointsOf, kn_Model, km_Model_123, by decide +kernel⟩
theorem ki_Model_pointsOf : Cond.instanceMethod y_Model_pointsOf ∈ TBL := TBL_t (List.mem_append_right _ (List.mem_append_right _ (List.mem_of_getElem? (i := 175) rfl))) rfl
theorem ks_Model_pointsOf : Cond.selects "ContestRowsModel" y_Model_pointsOf y_Model_pointsOf ∈ TBL := TBL_in (List.mem_append_left _ (List.mem_map.mpr ⟨(y_Model_pointsOf, 22), by decide +kernel, rfl⟩)) rfl
set_option maxHeartbeats 4000000 in
set_option maxRecDepth 100000 in
theorem m_scoreOf (l : Launch) (G : va_G) (cI cZ cJ : ClassId) (hm : Nat → Nat) (mth : Nat) (np : Nat) (ne : Nat) (ns : Nat) (tl : Nat) (mbd : Option Nat) (gr : Nat → Nat) (stt : Nat → Option Nat) (sp : Nat → Nat) (sq : Nat → Nat) (sec : Nat → Nat) (ans : Nat → Nat) (rt : Nat → Bool) (nw : Nat → Nat) (mtd : Nat → Nat) (un : Nat → Nat) (mss : Nat → Nat) (msc : Nat → Nat) (mip : Nat → Bool) (mcb : Nat → Bool) (msco : Nat → Nat) (mtim : Nat → Nat) (x : Nat) (hx0 : x < 20) (hI : IS np ne ns gr nw sp sq sec (fun i => i) ans stt) : Ct l G (tyL cI cZ cJ) y_Model_scoreOf b_Model_scoreOf 5 (some .long) (rmL 4) [.ref (hm 0), .int (nI x)] (w_M hm cI cZ cJ mth np ne ns tl mbd gr stt sp sq sec ans rt nw mtd un mss msc mip mcb msco mtim) (some (.long (lN (sumF (scM gr nw sp sq sec rt stt ns x) np)))) (w_M hm cI cZ cJ mth np ne ns tl mbd gr stt sp sq sec ans rt nw mtd un mss msc mip mcb msco mtim) := by
  refine M_start (by decide) (Nat.le_of_ble_eq_true rfl) ?_
  intro p e s m args below meth c A Q ls X Y hW hl
  have hx := X.1.1
  have hb := X.1.2.1
  have hl : lv_has ls 5 [(0, .ref (hm 0)), (1, .int (nI x))] := hl
  obtain ⟨z1, z2, z3, z4, z5, z6, z7, z8, z9, z10, z11, z12, z13⟩ := id hI
  refine lv_lconst (v := lN 0) hx hb d_Model_scoreOf_0 (by decide +kernel) ?_
  refine lv_lstore_n (lv' := [(2, .long (lN 0)), (0, .ref (hm 0)), (1, .int (nI x))]) hx hb d_Model_scoreOf_1 rfl hl (by decide) rfl (fun ls hl => ?_)
  refine lv_iconst (v := (nI 0)) hx hb d_Model_scoreOf_2 (by decide +kernel) ?_
  refine lv_istore (lv' := [(4, .int (nI 0)), (2, .long (lN 0)), (0, .ref (hm 0)), (1, .int (nI x))]) hx hb d_Model_scoreOf_3 hl (by decide) rfl (fun ls hl => ?_)
  have L5 : ∀ (n : Nat) (v : Nat) (k : Nat) (hk : k + n = np) (hv : v = sumF (scM gr nw sp sq sec rt stt ns x) k) (H : Heap) (locs : List Loc) (hW : Wr G A s.heap (w_M hm cI cZ cJ mth np ne ns tl mbd gr stt sp sq sec ans rt nw mtd un mss msc mip mcb msco mtim) H locs) (ls : Array Slot) (hl : lv_has ls 5 [(0, .ref (hm 0)), (1, .int (nI x)), (2, .long (lN v)), (4, .int (nI k))]), W p l e (rmL 4) s m args below meth c H locs 0 0 Q (F0 m 5 ls []) := by
    intro n
    induction n with
    | zero =>
      intro v k hk hv H locs hW ls hl
      refine lv_iload hx hb d_Model_scoreOf_5 (lv_at hl 3 rfl) ?_
      refine lv_aload_n hx hb d_Model_scoreOf_7 rfl (lv_at hl 0 rfl) ?_
      refine R_get X hW i_Model rfl 1 (by decide) kf_Model_64 0 rfl rfl d_Model_scoreOf_8 ?_
      refine N_icmp_ge_NN hx hb (by omega) (by omega) (tgt := 44) d_Model_scoreOf_11 (by decide) (fun c11 => ?_) (fun c11 => ?_)
      · have e9 : np = k := by omega
        subst e9
        refine lv_lload_n hx hb d_Model_scoreOf_44 rfl (lv_at hl 2 rfl) ?_
        exact R_lret X Y hW rfl (by rw [hv]) d_Model_scoreOf_45
      · exfalso; omega
    | succ n ih5 =>
      intro v k hk hv H locs hW ls hl
      refine lv_iload hx hb d_Model_scoreOf_5 (lv_at hl 3 rfl) ?_
      refine lv_aload_n hx hb d_Model_scoreOf_7 rfl (lv_at hl 0 rfl) ?_
      refine R_get X hW i_Model rfl 1 (by decide) kf_Model_64 0 rfl rfl d_Model_scoreOf_8 ?_
      refine N_icmp_ge_NN hx hb (by omega) (by omega) (tgt := 44) d_Model_scoreOf_11 (by decide) (fun c11 => ?_) (fun c11 => ?_)
      · exfalso; omega
      · refine lv_lload_n hx hb d_Model_scoreOf_14 rfl (lv_at hl 2 rfl) ?_
        refine lv_aload_n hx hb d_Model_scoreOf_15 rfl (lv_at hl 0 rfl) ?_
        refine lv_iload_n hx hb d_Model_scoreOf_16 rfl (lv_at hl 1 rfl) ?_
        refine lv_iload hx hb d_Model_scoreOf_17 (lv_at hl 3 rfl) ?_
        refine R_callV (q0 := 0) (m_counting l G cI cZ cJ hm mth np ne ns tl mbd gr stt sp sq sec ans rt nw mtd un mss msc mip mcb msco mtim x k hx0 (by omega) hI) X rfl hW cw_Model_117 ki_Model_counting ks_Model_counting rfl rfl ⟨rfl, rfl⟩ ⟨by decide, by decide⟩ ⟨Nat.zero_le _, Nat.zero_le _⟩ [true, true, true, true, true, true, true, true, true, true, true, true, true, true, true, true, true] rfl (Nat.le_of_ble_eq_true rfl) rfl rfl hl.1 rfl rfl (Nat.le_of_ble_eq_true rfl) d_Model_scoreOf_19 rfl (fun H locs hW => ?_)
        have hW : Wr G A s.heap (w_M hm cI cZ cJ mth np ne ns tl mbd gr stt sp sq sec ans rt nw mtd un mss msc mip mcb msco mtim) H locs := hW
        refine N_if_lt_O hx hb (fun z hz => by have := ctF_lt hz; omega) (tgt := 35) d_Model_scoreOf_22 (by decide) (fun c22 => ?_) (fun c22 => ?_)
        · refine lv_lconst (v := lN 0) hx hb d_Model_scoreOf_35 (by decide +kernel) ?_
          refine N_ladd hx hb d_Model_scoreOf_36 ?_
          refine lv_lstore_n (lv' := [(2, .long (lN (v + 0))), (0, .ref (hm 0)), (1, .int (nI x)), (4, .int (nI k))]) hx hb d_Model_scoreOf_37 rfl hl (by decide) rfl (fun ls hl => ?_)
          refine lv_iinc (v := (nI (k + 1))) (lv' := [(4, .int (nI (k + 1))), (2, .long (lN (v + 0))), (0, .ref (hm 0)), (1, .int (nI x))]) hx hb d_Model_scoreOf_38 hl (k := 3) rfl (N_inc k) (by decide) rfl (fun ls hl => ?_)
          refine lv_goto (tgt := 5) hx hb d_Model_scoreOf_41 (by decide) ?_
          exact ih5 (v + 0) (k + 1) (by omega) (by rw [sumF, ← hv, scM, c22]) _ _ hW ls (lv_sub hl [2, 3, 1, 0] rfl)
        · obtain ⟨d, hd⟩ : ∃ q, ctF nw sp sq sec rt stt ns x k = some q := by cases hq : ctF nw sp sq sec rt stt ns x k with | none => exact absurd hq c22 | some q => exact ⟨q, rfl⟩
          refine lv_aload_n hx hb d_Model_scoreOf_25 rfl (lv_at hl 0 rfl) ?_
          refine lv_iload_n hx hb d_Model_scoreOf_26 rfl (lv_at hl 1 rfl) ?_
          refine lv_iload hx hb d_Model_scoreOf_27 (lv_at hl 3 rfl) ?_
          refine R_callV (q0 := 0) (m_pointsOf_some l G cI cZ cJ hm mth np ne ns tl mbd gr stt sp sq sec ans rt nw mtd un mss msc mip mcb msco mtim x k d hx0 (by omega) hd hI) X rfl hW cw_Model_123 ki_Model_pointsOf ks_Model_pointsOf rfl rfl ⟨rfl, rfl⟩ ⟨by decide, by decide⟩ ⟨Nat.zero_le _, Nat.zero_le _⟩ [true, true, true, true, true, true, true, true, true, true, true, true, true, true, true, true, true] rfl (Nat.le_of_ble_eq_true rfl) rfl rfl hl.1 rfl rfl (Nat.le_of_ble_eq_true rfl) d_Model_scoreOf_29 rfl (fun H locs hW => ?_)
          have hW : Wr G A s.heap (w_M hm cI cZ cJ mth np ne ns tl mbd gr stt sp sq sec ans rt nw mtd un mss msc mip mcb msco mtim) H locs := hW
          refine lv_goto (tgt := 36) hx hb d_Model_scoreOf_32 (by decide) ?_
          refine N_ladd hx hb d_Model_scoreOf_36 ?_
          refine lv_lstore_n (lv' := [(2, .long (lN (v + (ptV gr nw sp sq sec rt stt ns x k d)))), (0, .ref (hm 0)), (1, .int (nI x)), (4, .int (nI k))]) hx hb d_Model_scoreOf_37 rfl hl (by decide) rfl (fun ls hl => ?_)
          refine lv_iinc (v := (nI (k + 1))) (lv' := [(4, .int (nI (k + 1))), (2, .long (lN (v + (ptV gr nw sp sq sec rt stt ns x k d)))), (0, .ref (hm 0)), (1, .int (nI x))]) hx hb d_Model_scoreOf_38 hl (k := 3) rfl (N_inc k) (by decide) rfl (fun ls hl => ?_)
          refine lv_goto (tgt := 5) hx hb d_Model_scoreOf_41 (by decide) ?_
          exact ih5 (v + (ptV gr nw sp sq sec rt stt ns x k d)) (k + 1) (by omega) (by rw [sumF, ← hv, scM, hd]) _ _ hW ls (lv_sub hl [2, 3, 1, 0] rfl)
  exact L5 np 0 0 (by omega) rfl _ _ hW ls (lv_sub hl [2, 3, 1, 0] rfl)

set_option maxHeartbeats 4000000 in
set_option maxRecDepth 100000 in
theorem m_points_none (l : Launch) (G : va_G) (cI cZ cJ : ClassId) (hm : Nat → Nat) (mth : Nat) (np : Nat) (ne : Nat) (ns : Nat) (tl : Nat) (mbd : Option Nat) (gr : Nat → Nat) (stt : Nat → Option Nat) (sp : Nat → Nat) (sq : Nat → Nat) (sec : Nat → Nat) (ans : Nat → Nat) (rt : Nat → Bool) (nw : Nat → Nat) (mtd : Nat → Nat) (un : Nat → Nat) (mss : Nat → Nat) (msc : Nat → Nat) (mip : Nat → Bool) (mcb : Nat → Bool) (msco : Nat → Nat) (mtim : Nat → Nat) (x : Nat) (y : Nat) (hx0 : x < ne) (hy0 : y < np) (hc : ctF nw sp sq sec rt stt ns x y = none) (hI : IS np ne ns gr nw sp sq sec (fun i => i) ans stt) : Ct l G (tyL cI cZ cJ) y_Model_points b_Model_points 3 (some .long) (rmL 4) [.ref (hm 0), .int (nI x), .int (nI y)] (w_M hm cI cZ cJ mth np ne ns tl mbd gr stt sp sq sec ans rt nw mtd un mss msc mip mcb msco mtim) (some (.long (oL none))) (w_M hm cI cZ cJ 0 np ne ns tl mbd gr stt sp sq sec ans rt nw mtd un mss msc mip mcb msco mtim) := by
  refine M_start (by decide) (Nat.le_of_ble_eq_true rfl) ?_
  intro p e s m args below meth c A Q ls X Y hW hl
  have hx := X.1.1
  have hb := X.1.2.1
  have hl : lv_has ls 3 [(0, .ref (hm 0)), (1, .int (nI x)), (2, .int (nI y))] := hl
  obtain ⟨z1, z2, z3, z4, z5, z6, z7, z8, z9, z10, z11, z12, z13⟩ := id hI
  refine lv_aload_n hx hb d_Model_points_0 rfl (lv_at hl 0 rfl) ?_
  refine lv_iconst (v := (nI 0)) hx hb d_Model_points_1 (by decide +kernel) ?_
  refine R_put X hW i_Model rfl t_Model t_Model_ok n_Model 0 (by decide) kf_Model_60 rfl (ty := .int) (by decide +kernel) 0 rfl (v := .int (nI 0)) rfl rfl (Nat.le_of_ble_eq_true rfl) d_Model_points_2 (fun H locs hW => ?_)
  have hW : Wr G A s.heap (w_M hm cI cZ cJ 0 np ne ns tl mbd gr stt sp sq sec ans rt nw mtd un mss msc mip mcb msco mtim) H locs := hW
  refine lv_aload_n hx hb d_Model_points_5 rfl (lv_at hl 0 rfl) ?_
  refine lv_iload_n hx hb d_Model_points_6 rfl (lv_at hl 1 rfl) ?_
  refine R_callV (q0 := 0) (m_isPerson l G cI cZ cJ hm 0 np ne ns tl mbd gr stt sp sq sec ans rt nw mtd un mss msc mip mcb msco mtim (nI x) (by omega)) X rfl hW cw_Model_93 ki_Model_isPerson ks_Model_isPerson rfl rfl ⟨rfl, rfl⟩ ⟨by decide, by decide⟩ ⟨Nat.zero_le _, Nat.zero_le _⟩ [true, true, true, true, true, true, true, true, true, true, true, true, true, true, true, true, true] rfl (Nat.le_of_ble_eq_true rfl) rfl rfl hl.1 rfl rfl (Nat.le_of_ble_eq_true rfl) d_Model_points_7 rfl (fun H locs hW => ?_)
  have hW : Wr G A s.heap (w_M hm cI cZ cJ 0 np ne ns tl mbd gr stt sp sq sec ans rt nw mtd un mss msc mip mcb msco mtim) H locs := hW
  refine N_if_eq_B hx hb  (tgt := 30) d_Model_points_10 (by decide) (fun c10 => ?_) (fun c10 => ?_)
  · exfalso; rw [inB_nI (by omega) (by omega)] at c10; cases c10
  · refine lv_aload_n hx hb d_Model_points_13 rfl (lv_at hl 0 rfl) ?_
    refine lv_iload_n hx hb d_Model_points_14 rfl (lv_at hl 2 rfl) ?_
    refine R_callV (q0 := 0) (m_isPuzzle l G cI cZ cJ hm 0 np ne ns tl mbd gr stt sp sq sec ans rt nw mtd un mss msc mip mcb msco mtim (nI y) (by omega)) X rfl hW cw_Model_97 ki_Model_isPuzzle ks_Model_isPuzzle rfl rfl ⟨rfl, rfl⟩ ⟨by decide, by decide⟩ ⟨Nat.zero_le _, Nat.zero_le _⟩ [true, true, true, true, true, true, true, true, true, true, true, true, true, true, true, true, true] rfl (Nat.le_of_ble_eq_true rfl) rfl rfl hl.1 rfl rfl (Nat.le_of_ble_eq_true rfl) d_Model_points_15 rfl (fun H locs hW => ?_)
    have hW : Wr G A s.heap (w_M hm cI cZ cJ 0 np ne ns tl mbd gr stt sp sq sec ans rt nw mtd un mss msc mip mcb msco mtim) H locs := hW
    refine N_if_eq_B hx hb  (tgt := 30) d_Model_points_18 (by decide) (fun c18 => ?_) (fun c18 => ?_)
    · exfalso; rw [inB_nI (by omega) (by omega)] at c18; cases c18
    · refine lv_aload_n hx hb d_Model_points_21 rfl (lv_at hl 0 rfl) ?_
      refine lv_iload_n hx hb d_Model_points_22 rfl (lv_at hl 1 rfl) ?_
      refine lv_iload_n hx hb d_Model_points_23 rfl (lv_at hl 2 rfl) ?_
      refine R_callV (q0 := 0) (m_pointsOf_none l G cI cZ cJ hm 0 np ne ns tl mbd gr stt sp sq sec ans rt nw mtd un mss msc mip mcb msco mtim x y (by omega) (by omega) hc hI) X rfl hW cw_Model_123 ki_Model_pointsOf ks_Model_pointsOf rfl rfl ⟨rfl, rfl⟩ ⟨by decide, by decide⟩ ⟨Nat.zero_le _, Nat.zero_le _⟩ [true, true, true, true, true, true, true, true, true, true, true, true, true, true, true, true, true] rfl (Nat.le_of_ble_eq_true rfl) rfl rfl hl.1 rfl rfl (Nat.le_of_ble_eq_true rfl) d_Model_points_24 rfl (fun H locs hW => ?_)
      have hW : Wr G A s.heap (w_M hm cI cZ cJ 0 np ne ns tl mbd gr stt sp sq sec ans rt nw mtd un mss msc mip mcb msco mtim) H locs := hW
      refine lv_goto (tgt := 33) hx hb d_Model_points_27 (by decide) ?_
      exact R_lret X Y hW rfl rfl d_Model_points_33

set_option maxHeartbeats 4000000 in
set_option maxRecDepth 100000 in
theorem m_points_some (l : Launch) (G : va_G) (cI cZ cJ : ClassId) (hm : Nat → Nat) (mth : Nat) (np : Nat) (ne : Nat) (ns : Nat) (tl : Nat) (mbd : Option Nat) (gr : Nat → Nat) (stt : Nat → Option Nat) (sp : Nat → Nat) (sq : Nat → Nat) (sec : Nat → Nat) (ans : Nat → Nat) (rt : Nat → Bool) (nw : Nat → Nat) (mtd : Nat → Nat) (un : Nat → Nat) (mss : Nat → Nat) (msc : Nat → Nat) (mip : Nat → Bool) (mcb : Nat → Bool) (msco : Nat → Nat) (mtim : Nat → Nat) (x : Nat) (y : Nat) (d : Nat) (hx0 : x < ne) (hy0 : y < np) (hd : ctF nw sp sq sec rt stt ns x y = some d) (hI : IS np ne ns gr nw sp sq sec (fun i => i) ans stt) : Ct l G (tyL cI cZ cJ) y_Model_points b_Model_points 3 (some .long) (rmL 4) [.ref (hm 0), .int (nI x), .int (nI y)] (w_M hm cI cZ cJ mth np ne ns tl mbd gr stt sp sq sec ans rt nw mtd un mss msc mip mcb msco mtim) (some (.long (lN (ptV gr nw sp sq sec rt stt ns x y d)))) (w_M hm cI cZ cJ 0 np ne ns tl mbd gr stt sp sq sec ans rt nw mtd un mss msc mip mcb msco mtim) := by
  refine M_start (by decide) (Nat.le_of_ble_eq_true rfl) ?_
  intro p e s m args below meth c A Q ls X Y hW hl
  have hx := X.1.1
  have hb := X.1.2.1
  have hl : lv_has ls 3 [(0, .ref (hm 0)), (1, .int (nI x)), (2, .int (nI y))] := hl
  obtain ⟨z1, z2, z3, z4, z5, z6, z7, z8, z9, z10, z11, z12, z13⟩ := id hI
  refine lv_aload_n hx hb d_Model_points_0 rfl (lv_at hl 0 rfl) ?_
  refine lv_iconst (v := (nI 0)) hx hb d_Model_points_1 (by decide +kernel) ?_
  refine R_put X hW i_Model rfl t_Model t_Model_ok n_Model 0 (by decide) kf_Model_60 rfl (ty := .int) (by decide +kernel) 0 rfl (v := .int (nI 0)) rfl rfl (Nat.le_of_ble_eq_true rfl) d_Model_points_2 (fun H locs hW => ?_)
  have hW : Wr G A s.heap (w_M hm cI cZ cJ 0 np ne ns tl mbd gr stt sp sq sec ans rt nw mtd un mss msc mip mcb msco mtim) H locs := hW
  refine lv_aload_n hx hb d_Model_points_5 rfl (lv_at hl 0 rfl) ?_
  refine lv_iload_n hx hb d_Model_points_6 rfl (lv_at hl 1 rfl) ?_
  refine R_callV (q0 := 0) (m_isPerson l G cI cZ cJ hm 0 np ne ns tl mbd gr stt sp sq sec ans rt nw mtd un mss msc mip mcb msco mtim (nI x) (by omega)) X rfl hW cw_Model_93 ki_Model_isPerson ks_Model_isPerson rfl rfl ⟨rfl, rfl⟩ ⟨by decide, by decide⟩ ⟨Nat.zero_le _, Nat.zero_le _⟩ [true, true, true, true, true, true, true, true, true, true, true, true, true, true, true, true, true] rfl (Nat.le_of_ble_eq_true rfl) rfl rfl hl.1 rfl rfl (Nat.le_of_ble_eq_true rfl) d_Model_points_7 rfl (fun H locs hW => ?_)
  have hW : Wr G A s.heap (w_M hm cI cZ cJ 0 np ne ns tl mbd gr stt sp sq sec ans rt nw mtd un mss msc mip mcb msco mtim) H locs := hW
  refine N_if_eq_B hx hb  (tgt := 30) d_Model_points_10 (by decide) (fun c10 => ?_) (fun c10 => ?_)
  · exfalso; rw [inB_nI (by omega) (by omega)] at c10; cases c10
  · refine lv_aload_n hx hb d_Model_points_13 rfl (lv_at hl 0 rfl) ?_
    refine lv_iload_n hx hb d_Model_points_14 rfl (lv_at hl 2 rfl) ?_
    refine R_callV (q0 := 0) (m_isPuzzle l G cI cZ cJ hm 0 np ne ns tl mbd gr stt sp sq sec ans rt nw mtd un mss msc mip mcb msco mtim (nI y) (by omega)) X rfl hW cw_Model_97 ki_Model_isPuzzle ks_Model_isPuzzle rfl rfl ⟨rfl, rfl⟩ ⟨by decide, by decide⟩ ⟨Nat.zero_le _, Nat.zero_le _⟩ [true, true, true, true, true, true, true, true, true, true, true, true, true, true, true, true, true] rfl (Nat.le_of_ble_eq_true rfl) rfl rfl hl.1 rfl rfl (Nat.le_of_ble_eq_true rfl) d_Model_points_15 rfl (fun H locs hW => ?_)
    have hW : Wr G A s.heap (w_M hm cI cZ cJ 0 np ne ns tl mbd gr stt sp sq sec ans rt nw mtd un mss msc mip mcb msco mtim) H locs := hW
    refine N_if_eq_B hx hb  (tgt := 30) d_Model_points_18 (by decide) (fun c18 => ?_) (fun c18 => ?_)
    · exfalso; rw [inB_nI (by omega) (by omega)] at c18; cases c18
    · refine lv_aload_n hx hb d_Model_points_21 rfl (lv_at hl 0 rfl) ?_
      refine lv_iload_n hx hb d_Model_points_22 rfl (lv_at hl 1 rfl) ?_
      refine lv_iload_n hx hb d_Model_points_23 rfl (lv_at hl 2 rfl) ?_
      refine R_callV (q0 := 0) (m_pointsOf_some l G cI cZ cJ hm 0 np ne ns tl mbd gr stt sp sq sec ans rt nw mtd un mss msc mip mcb msco mtim x y d (by omega) (by omega) hd hI) X rfl hW cw_Model_123 ki_Model_pointsOf ks_Model_pointsOf rfl rfl ⟨rfl, rfl⟩ ⟨by decide, by decide⟩ ⟨Nat.zero_le _, Nat.zero_le _⟩ [true, true, true, true, true, true, true, true, true, true, true, true, true, true, true, true, true] rfl (Nat.le_of_ble_eq_true rfl) rfl rfl hl.1 rfl rfl (Nat.le_of_ble_eq_true rfl) d_Model_points_24 rfl (fun H locs hW => ?_)
      have hW : Wr G A s.heap (w_M hm cI cZ cJ 0 np ne ns tl mbd gr stt sp sq sec ans rt nw mtd un mss msc mip mcb msco mtim) H locs := hW
      refine lv_goto (tgt := 33) hx hb d_Model_points_27 (by decide) ?_
      exact R_lret X Y hW rfl rfl d_Model_points_33

theorem kb_Model_scoreOf : Cond.code y_Model_scoreOf b_Model_scoreOf 5 (some .long) ∈ TBL := TBL_t (List.mem_append_right _ (List.mem_append_right _ (List.mem_of_getElem? (i := 160) rfl))) rfl
theorem km_Model_127 : Cond.methodLink "ContestRowsModel" 127 y_Model_scoreOf ∈ TBL := TBL_t (List.mem_append_right _ (List.mem_append_right _ (List.mem_of_getElem? (i := 157) rfl))) rfl
theorem cw_Model_127 : Cw "ContestRowsModel" 127 y_Model_scoreOf b_Model_scoreOf 5 (some .long) 1 := ⟨kb_Model_scoreOf, kn_Model, km_Model_127, by decide +kernel⟩
theorem ki_Model_scoreOf : Cond.instanceMethod y_Model_scoreOf ∈ TBL := TBL_t (List.mem_append_right _ (List.mem_append_right _ (List.mem_of_getElem? (i := 159) rfl))) rfl
theorem ks_Model_scoreOf : Cond.selects "ContestRowsModel" y_Model_scoreOf y_Model_scoreOf ∈ TBL := TBL_in (List.mem_append_left _ (List.mem_map.mpr ⟨(y_Model_scoreOf, 22), by decide +kernel, rfl⟩)) rfl
theorem kb_Model_timeOf : Cond.code y_Model_timeOf b_Model_timeOf 5 (some .long) ∈ TBL := TBL_t (List.mem_append_right _ (List.mem_append_right _ (List.mem_of_getElem? (i := 180) rfl))) rfl
theorem km_Model_131 : Cond.methodLink "ContestRowsModel" 131 y_Model_timeOf ∈ TBL := TBL_t (List.mem_append_right _ (List.mem_append_right _ (List.mem_of_getElem? (i := 177) rfl))) rfl
theorem cw_Model_131 : Cw "ContestRowsModel" 131 y_Model_timeOf b_Model_timeOf 5 (some .long) 1 := ⟨kb_Model_timeOf, kn_Model, km_Model_131, by decide +kernel⟩
theorem ki_Model_timeOf : Cond.instanceMethod y_Model_timeOf ∈ TBL := TBL_t (List.mem_append_right _ (List.mem_append_right _ (List.mem_of_getElem? (i := 179) rfl))) rfl
theorem ks_Model_timeOf : Cond.selects "ContestRowsModel" y_Model_timeOf y_Model_timeOf ∈ TBL := TBL_in (List.mem_append_left _ (List.mem_map.mpr ⟨(y_Model_timeOf, 22), by decide +kernel, rfl⟩)) rfl
set_option maxHeartbeats 4000000 in
set_option maxRecDepth 100000 in
theorem m_reckon (l : Launch) (G : va_G) (cI cZ cJ : ClassId) (hm : Nat → Nat) (mth : Nat) (np : Nat) (ne : Nat) (ns : Nat) (tl : Nat) (mbd : Option Nat) (gr : Nat → Nat) (stt : Nat → Option Nat) (sp : Nat → Nat) (sq : Nat → Nat) (sec : Nat → Nat) (ans : Nat → Nat) (rt : Nat → Bool) (nw : Nat → Nat) (mtd : Nat → Nat) (un : Nat → Nat) (mss : Nat → Nat) (msc : Nat → Nat) (mip : Nat → Bool) (mcb : Nat → Bool) (msco : Nat → Nat) (mtim : Nat → Nat)  (hI : IS np ne ns gr nw sp sq sec (fun i => i) ans stt) : Ct l G (tyL cI cZ cJ) y_Model_reckon b_Model_reckon 2 none (rmL 5) [.ref (hm 0)] (w_M hm cI cZ cJ mth np ne ns tl mbd gr stt sp sq sec ans rt nw mtd un mss msc mip mcb msco mtim) none (w_M hm cI cZ cJ mth np ne ns tl mbd gr stt sp sq sec ans rt nw mtd un mss msc mip mcb (upG (scA gr nw sp sq sec rt stt ns np) ne msco) (upG (tiA nw sp sq sec rt stt ns np) ne mtim)) := by
  refine M_start (by decide) (Nat.le_of_ble_eq_true rfl) ?_
  intro p e s m args below meth c A Q ls X Y hW hl
  have hx := X.1.1
  have hb := X.1.2.1
  have hl : lv_has ls 2 [(0, .ref (hm 0))] := hl
  obtain ⟨z1, z2, z3, z4, z5, z6, z7, z8, z9, z10, z11, z12, z13⟩ := id hI
  refine lv_iconst (v := (nI 0)) hx hb d_Model_reckon_0 (by decide +kernel) ?_
  refine lv_istore_n (lv' := [(1, .int (nI 0)), (0, .ref (hm 0))]) hx hb d_Model_reckon_1 rfl hl (by decide) rfl (fun ls hl => ?_)
  have L2 : ∀ (n : Nat) (i : Nat) (hi : i + n = ne) (H : Heap) (locs : List Loc) (hW : Wr G A s.heap (w_M hm cI cZ cJ mth np ne ns tl mbd gr stt sp sq sec ans rt nw mtd un mss msc mip mcb (upG (scA gr nw sp sq sec rt stt ns np) i msco) (upG (tiA nw sp sq sec rt stt ns np) i mtim)) H locs) (ls : Array Slot) (hl : lv_has ls 2 [(0, .ref (hm 0)), (1, .int (nI i))]), W p l e (rmL 5) s m args below meth c H locs 0 0 Q (F0 m 2 ls []) := by
    intro n
    induction n with
    | zero =>
      intro i hi H locs hW ls hl
      refine lv_iload_n hx hb d_Model_reckon_2 rfl (lv_at hl 1 rfl) ?_
      refine lv_aload_n hx hb d_Model_reckon_3 rfl (lv_at hl 0 rfl) ?_
      refine R_get X hW i_Model rfl 2 (by decide) kf_Model_67 0 rfl rfl d_Model_reckon_4 ?_
      refine N_icmp_ge_NN hx hb (by omega) (by omega) (tgt := 38) d_Model_reckon_7 (by decide) (fun c7 => ?_) (fun c7 => ?_)
      · have e9 : ne = i := by omega
        subst e9
        exact R_vret X Y hW rfl rfl d_Model_reckon_38
      · exfalso; omega
    | succ n ih2 =>
      intro i hi H locs hW ls hl
      refine lv_iload_n hx hb d_Model_reckon_2 rfl (lv_at hl 1 rfl) ?_
      refine lv_aload_n hx hb d_Model_reckon_3 rfl (lv_at hl 0 rfl) ?_
      refine R_get X hW i_Model rfl 2 (by decide) kf_Model_67 0 rfl rfl d_Model_reckon_4 ?_
      refine N_icmp_ge_NN hx hb (by omega) (by omega) (tgt := 38) d_Model_reckon_7 (by decide) (fun c7 => ?_) (fun c7 => ?_)
      · exfalso; omega
      · refine lv_aload_n hx hb d_Model_reckon_10 rfl (lv_at hl 0 rfl) ?_
        refine R_get X hW i_Model rfl 20 (by decide) kf_Model_53 0 rfl rfl d_Model_reckon_11 ?_
        refine lv_iload_n hx hb d_Model_reckon_14 rfl (lv_at hl 1 rfl) ?_
        refine lv_aload_n hx hb d_Model_reckon_15 rfl (lv_at hl 0 rfl) ?_
        refine lv_iload_n hx hb d_Model_reckon_16 rfl (lv_at hl 1 rfl) ?_
        refine R_callV (q0 := 0) (m_scoreOf l G cI cZ cJ hm mth np ne ns tl mbd gr stt sp sq sec ans rt nw mtd un mss msc mip mcb (upG (scA gr nw sp sq sec rt stt ns np) i msco) (upG (tiA nw sp sq sec rt stt ns np) i mtim) i (by omega) hI) X rfl hW cw_Model_127 ki_Model_scoreOf ks_Model_scoreOf rfl rfl ⟨rfl, rfl⟩ ⟨by decide, by decide⟩ ⟨Nat.zero_le _, Nat.zero_le _⟩ [true, true, true, true, true, true, true, true, true, true, true, true, true, true, true, true, true] rfl (Nat.le_of_ble_eq_true rfl) rfl rfl hl.1 rfl rfl (Nat.le_of_ble_eq_true rfl) d_Model_reckon_17 rfl (fun H locs hW => ?_)
        have hW : Wr G A s.heap (w_M hm cI cZ cJ mth np ne ns tl mbd gr stt sp sq sec ans rt nw mtd un mss msc mip mcb (upG (scA gr nw sp sq sec rt stt ns np) i msco) (upG (tiA nw sp sq sec rt stt ns np) i mtim)) H locs := hW
        refine R_last X hW (t0 := 2) rfl 15 rfl (k := i) (by omega) (by decide) (sumF (scM gr nw sp sq sec rt stt ns i) np) rfl d_Model_reckon_20 (fun H locs hW => ?_)
        have hW : Wr G A s.heap (w_M hm cI cZ cJ mth np ne ns tl mbd gr stt sp sq sec ans rt nw mtd un mss msc mip mcb (va_up (upG (scA gr nw sp sq sec rt stt ns np) i msco) i (sumF (scM gr nw sp sq sec rt stt ns i) np)) (upG (tiA nw sp sq sec rt stt ns np) i mtim)) H locs := hW
        refine lv_aload_n hx hb d_Model_reckon_21 rfl (lv_at hl 0 rfl) ?_
        refine R_get X hW i_Model rfl 21 (by decide) kf_Model_57 0 rfl rfl d_Model_reckon_22 ?_
        refine lv_iload_n hx hb d_Model_reckon_25 rfl (lv_at hl 1 rfl) ?_
        refine lv_aload_n hx hb d_Model_reckon_26 rfl (lv_at hl 0 rfl) ?_
        refine lv_iload_n hx hb d_Model_reckon_27 rfl (lv_at hl 1 rfl) ?_
        refine R_callV (q0 := 0) (m_timeOf l G cI cZ cJ hm mth np ne ns tl mbd gr stt sp sq sec ans rt nw mtd un mss msc mip mcb (va_up (upG (scA gr nw sp sq sec rt stt ns np) i msco) i (sumF (scM gr nw sp sq sec rt stt ns i) np)) (upG (tiA nw sp sq sec rt stt ns np) i mtim) i (by omega) hI) X rfl hW cw_Model_131 ki_Model_timeOf ks_Model_timeOf rfl rfl ⟨rfl, rfl⟩ ⟨by decide, by decide⟩ ⟨Nat.zero_le _, Nat.zero_le _⟩ [true, true, true, true, true, true, true, true, true, true, true, true, true, true, true, true, true] rfl (Nat.le_of_ble_eq_true rfl) rfl rfl hl.1 rfl rfl (Nat.le_of_ble_eq_true rfl) d_Model_reckon_28 rfl (fun H locs hW => ?_)
        have hW : Wr G A s.heap (w_M hm cI cZ cJ mth np ne ns tl mbd gr stt sp sq sec ans rt nw mtd un mss msc mip mcb (va_up (upG (scA gr nw sp sq sec rt stt ns np) i msco) i (sumF (scM gr nw sp sq sec rt stt ns i) np)) (upG (tiA nw sp sq sec rt stt ns np) i mtim)) H locs := hW
        refine R_last X hW (t0 := 2) rfl 16 rfl (k := i) (by omega) (by decide) (sumF (tiM nw sp sq sec rt stt ns i) np) rfl d_Model_reckon_31 (fun H locs hW => ?_)
        have hW : Wr G A s.heap (w_M hm cI cZ cJ mth np ne ns tl mbd gr stt sp sq sec ans rt nw mtd un mss msc mip mcb (va_up (upG (scA gr nw sp sq sec rt stt ns np) i msco) i (sumF (scM gr nw sp sq sec rt stt ns i) np)) (va_up (upG (tiA nw sp sq sec rt stt ns np) i mtim) i (sumF (tiM nw sp sq sec rt stt ns i) np))) H locs := hW
        refine lv_iinc (v := (nI (i + 1))) (lv' := [(1, .int (nI (i + 1))), (0, .ref (hm 0))]) hx hb d_Model_reckon_32 hl (k := 1) rfl (N_inc i) (by decide) rfl (fun ls hl => ?_)
        refine lv_goto (tgt := 2) hx hb d_Model_reckon_35 (by decide) ?_
        exact ih2 (i + 1) (by omega) _ _ hW ls (lv_sub hl [1, 0] rfl)
  exact L2 ne 0 (by omega) _ _ hW ls (lv_sub hl [1, 0] rfl)

set_option maxHeartbeats 4000000 in
set_option maxRecDepth 100000 in
theorem m_score_0 (l : Launch) (G : va_G) (cI cZ cJ : ClassId) (hm : Nat → Nat) (mth : Nat) (np : Nat) (ne : Nat) (ns : Nat) (tl : Nat) (mbd : Option Nat) (gr : Nat → Nat) (stt : Nat → Option Nat) (sp : Nat → Nat) (sq : Nat → Nat) (sec : Nat → Nat) (ans : Nat → Nat) (rt : Nat → Bool) (nw : Nat → Nat) (mtd : Nat → Nat) (un : Nat → Nat) (mss : Nat → Nat) (msc : Nat → Nat) (mip : Nat → Bool) (mcb : Nat → Bool) (msco : Nat → Nat) (mtim : Nat → Nat) (x : Nat) (w : Nat) (hx0 : x < ne) (hw0 : w = 0) (hI : IS np ne ns gr nw sp sq sec (fun i => i) ans stt) : Ct l G (tyL cI cZ cJ) y_Model_score b_Model_score 5 (some .long) (rmL 5) [.ref (hm 0), .int (nI x), .int (nI w)] (w_M hm cI cZ cJ mth np ne ns tl mbd gr stt sp sq sec ans rt nw mtd un mss msc mip mcb msco mtim) (some (.long (lN (sumF (scM gr nw sp sq sec rt stt ns x) np)))) (w_M hm cI cZ cJ 0 np ne ns tl mbd gr stt sp sq sec ans rt nw mtd un mss msc mip mcb msco mtim) := by
  refine M_start (by decide) (Nat.le_of_ble_eq_true rfl) ?_
  intro p e s m args below meth c A Q ls X Y hW hl
  have hx := X.1.1
  have hb := X.1.2.1
  have hl : lv_has ls 5 [(0, .ref (hm 0)), (1, .int (nI x)), (2, .int (nI w))] := hl
  obtain ⟨z1, z2, z3, z4, z5, z6, z7, z8, z9, z10, z11, z12, z13⟩ := id hI
  rcases (show w = 0 by omega) with h9
  · subst h9
    obtain ⟨z1, z2, z3, z4, z5, z6, z7, z8, z9, z10, z11, z12, z13⟩ := id hI
    refine lv_aload_n hx hb d_Model_score_0 rfl (lv_at hl 0 rfl) ?_
    refine lv_iconst (v := (nI 0)) hx hb d_Model_score_1 (by decide +kernel) ?_
    refine R_put X hW i_Model rfl t_Model t_Model_ok n_Model 0 (by decide) kf_Model_60 rfl (ty := .int) (by decide +kernel) 0 rfl (v := .int (nI 0)) rfl rfl (Nat.le_of_ble_eq_true rfl) d_Model_score_2 (fun H locs hW => ?_)
    have hW : Wr G A s.heap (w_M hm cI cZ cJ 0 np ne ns tl mbd gr stt sp sq sec ans rt nw mtd un mss msc mip mcb msco mtim) H locs := hW
    refine lv_aload_n hx hb d_Model_score_5 rfl (lv_at hl 0 rfl) ?_
    refine lv_iload_n hx hb d_Model_score_6 rfl (lv_at hl 1 rfl) ?_
    refine R_callV (q0 := 0) (m_isPerson l G cI cZ cJ hm 0 np ne ns tl mbd gr stt sp sq sec ans rt nw mtd un mss msc mip mcb msco mtim (nI x) (by omega)) X rfl hW cw_Model_93 ki_Model_isPerson ks_Model_isPerson rfl rfl ⟨rfl, rfl⟩ ⟨by decide, by decide⟩ ⟨Nat.zero_le _, Nat.zero_le _⟩ [true, true, true, true, true, true, true, true, true, true, true, true, true, true, true, true, true] rfl (Nat.le_of_ble_eq_true rfl) rfl rfl hl.1 rfl rfl (Nat.le_of_ble_eq_true rfl) d_Model_score_7 rfl (fun H locs hW => ?_)
    have hW : Wr G A s.heap (w_M hm cI cZ cJ 0 np ne ns tl mbd gr stt sp sq sec ans rt nw mtd un mss msc mip mcb msco mtim) H locs := hW
    refine N_if_ne_B hx hb  (tgt := 17) d_Model_score_10 (by decide) (fun c10 => ?_) (fun c10 => ?_)
    · refine lv_iconst (v := (nI 0)) hx hb d_Model_score_17 (by decide +kernel) ?_
      refine lv_istore_n (lv' := [(3, .int (nI 0)), (0, .ref (hm 0)), (1, .int (nI x)), (2, .int (nI 0))]) hx hb d_Model_score_18 rfl hl (by decide) rfl (fun ls hl => ?_)
      refine lv_iload_n hx hb d_Model_score_19 rfl (lv_at hl 3 rfl) ?_
      refine lv_tableIn (tgt := 52) hx hb d_Model_score_20 (by decide +kernel) (by decide +kernel) (off := 32) (by decide +kernel) (by decide) ?_
      refine lv_aload_n hx hb d_Model_score_52 rfl (lv_at hl 1 rfl) ?_
      refine lv_iload_n hx hb d_Model_score_53 rfl (lv_at hl 2 rfl) ?_
      refine R_callV (q0 := 0) (m_scoreOf l G cI cZ cJ hm 0 np ne ns tl mbd gr stt sp sq sec ans rt nw mtd un mss msc mip mcb msco mtim x (by omega) hI) X rfl hW cw_Model_127 ki_Model_scoreOf ks_Model_scoreOf rfl rfl ⟨rfl, rfl⟩ ⟨by decide, by decide⟩ ⟨Nat.zero_le _, Nat.zero_le _⟩ [true, true, true, true, true, true, true, true, true, true, true, true, true, true, true, true, true] rfl (Nat.le_of_ble_eq_true rfl) rfl rfl hl.1 rfl rfl (Nat.le_of_ble_eq_true rfl) d_Model_score_54 rfl (fun H locs hW => ?_)
      have hW : Wr G A s.heap (w_M hm cI cZ cJ 0 np ne ns tl mbd gr stt sp sq sec ans rt nw mtd un mss msc mip mcb msco mtim) H locs := hW
      exact R_lret X Y hW rfl rfl d_Model_score_57
    · exfalso; rw [inB_nI (by omega) (by omega)] at c10; cases c10

set_option maxHeartbeats 4000000 in
set_option maxRecDepth 100000 in
theorem m_score_1 (l : Launch) (G : va_G) (cI cZ cJ : ClassId) (hm : Nat → Nat) (mth : Nat) (np : Nat) (ne : Nat) (ns : Nat) (tl : Nat) (mbd : Option Nat) (gr : Nat → Nat) (stt : Nat → Option Nat) (sp : Nat → Nat) (sq : Nat → Nat) (sec : Nat → Nat) (ans : Nat → Nat) (rt : Nat → Bool) (nw : Nat → Nat) (mtd : Nat → Nat) (un : Nat → Nat) (mss : Nat → Nat) (msc : Nat → Nat) (mip : Nat → Bool) (mcb : Nat → Bool) (msco : Nat → Nat) (mtim : Nat → Nat) (x : Nat) (w : Nat) (hx0 : x < ne) (hw0 : w = 1) (hI : IS np ne ns gr nw sp sq sec (fun i => i) ans stt) : Ct l G (tyL cI cZ cJ) y_Model_score b_Model_score 5 (some .long) (rmL 5) [.ref (hm 0), .int (nI x), .int (nI w)] (w_M hm cI cZ cJ mth np ne ns tl mbd gr stt sp sq sec ans rt nw mtd un mss msc mip mcb msco mtim) (some (.long (lN (sumF (tiM nw sp sq sec rt stt ns x) np)))) (w_M hm cI cZ cJ 0 np ne ns tl mbd gr stt sp sq sec ans rt nw mtd un mss msc mip mcb msco mtim) := by
  refine M_start (by decide) (Nat.le_of_ble_eq_true rfl) ?_
  intro p e s m args below meth c A Q ls X Y hW hl
  have hx := X.1.1
  have hb := X.1.2.1
  have hl : lv_has ls 5 [(0, .ref (hm 0)), (1, .int (nI x)), (2, .int (nI w))] := hl
  obtain ⟨z1, z2, z3, z4, z5, z6, z7, z8, z9, z10, z11, z12, z13⟩ := id hI
  rcases (show w = 1 by omega) with h9
  · subst h9
    obtain ⟨z1, z2, z3, z4, z5, z6, z7, z8, z9, z10, z11, z12, z13⟩ := id hI
    refine lv_aload_n hx hb d_Model_score_0 rfl (lv_at hl 0 rfl) ?_
    refine lv_iconst (v := (nI 0)) hx hb d_Model_score_1 (by decide +kernel) ?_
    refine R_put X hW i_Model rfl t_Model t_Model_ok n_Model 0 (by decide) kf_Model_60 rfl (ty := .int) (by decide +kernel) 0 rfl (v := .int (nI 0)) rfl rfl (Nat.le_of_ble_eq_true rfl) d_Model_score_2 (fun H locs hW => ?_)
    have hW : Wr G A s.heap (w_M hm cI cZ cJ 0 np ne ns tl mbd gr stt sp sq sec ans rt nw mtd un mss msc mip mcb msco mtim) H locs := hW
    refine lv_aload_n hx hb d_Model_score_5 rfl (lv_at hl 0 rfl) ?_
    refine lv_iload_n hx hb d_Model_score_6 rfl (lv_at hl 1 rfl) ?_
    refine R_callV (q0 := 0) (m_isPerson l G cI cZ cJ hm 0 np ne ns tl mbd gr stt sp sq sec ans rt nw mtd un mss msc mip mcb msco mtim (nI x) (by omega)) X rfl hW cw_Model_93 ki_Model_isPerson ks_Model_isPerson rfl rfl ⟨rfl, rfl⟩ ⟨by decide, by decide⟩ ⟨Nat.zero_le _, Nat.zero_le _⟩ [true, true, true, true, true, true, true, true, true, true, true, true, true, true, true, true, true] rfl (Nat.le_of_ble_eq_true rfl) rfl rfl hl.1 rfl rfl (Nat.le_of_ble_eq_true rfl) d_Model_score_7 rfl (fun H locs hW => ?_)
    have hW : Wr G A s.heap (w_M hm cI cZ cJ 0 np ne ns tl mbd gr stt sp sq sec ans rt nw mtd un mss msc mip mcb msco mtim) H locs := hW
    refine N_if_ne_B hx hb  (tgt := 17) d_Model_score_10 (by decide) (fun c10 => ?_) (fun c10 => ?_)
    · refine lv_iconst (v := (nI 0)) hx hb d_Model_score_17 (by decide +kernel) ?_
      refine lv_istore_n (lv' := [(3, .int (nI 0)), (0, .ref (hm 0)), (1, .int (nI x)), (2, .int (nI 1))]) hx hb d_Model_score_18 rfl hl (by decide) rfl (fun ls hl => ?_)
      refine lv_iload_n hx hb d_Model_score_19 rfl (lv_at hl 3 rfl) ?_
      refine lv_tableIn (tgt := 58) hx hb d_Model_score_20 (by decide +kernel) (by decide +kernel) (off := 38) (by decide +kernel) (by decide) ?_
      refine lv_aload_n hx hb d_Model_score_58 rfl (lv_at hl 1 rfl) ?_
      refine lv_iload_n hx hb d_Model_score_59 rfl (lv_at hl 2 rfl) ?_
      refine R_callV (q0 := 0) (m_timeOf l G cI cZ cJ hm 0 np ne ns tl mbd gr stt sp sq sec ans rt nw mtd un mss msc mip mcb msco mtim x (by omega) hI) X rfl hW cw_Model_131 ki_Model_timeOf ks_Model_timeOf rfl rfl ⟨rfl, rfl⟩ ⟨by decide, by decide⟩ ⟨Nat.zero_le _, Nat.zero_le _⟩ [true, true, true, true, true, true, true, true, true, true, true, true, true, true, true, true, true] rfl (Nat.le_of_ble_eq_true rfl) rfl rfl hl.1 rfl rfl (Nat.le_of_ble_eq_true rfl) d_Model_score_60 rfl (fun H locs hW => ?_)
      have hW : Wr G A s.heap (w_M hm cI cZ cJ 0 np ne ns tl mbd gr stt sp sq sec ans rt nw mtd un mss msc mip mcb msco mtim) H locs := hW
      exact R_lret X Y hW rfl rfl d_Model_score_63
    · exfalso; rw [inB_nI (by omega) (by omega)] at c10; cases c10

set_option maxHeartbeats 4000000 in
set_option maxRecDepth 100000 in
theorem m_score_2 (l : Launch) (G : va_G) (cI cZ cJ : ClassId) (hm : Nat → Nat) (mth : Nat) (np : Nat) (ne : Nat) (ns : Nat) (tl : Nat) (mbd : Option Nat) (gr : Nat → Nat) (stt : Nat → Option Nat) (sp : Nat → Nat) (sq : Nat → Nat) (sec : Nat → Nat) (ans : Nat → Nat) (rt : Nat → Bool) (nw : Nat → Nat) (mtd : Nat → Nat) (un : Nat → Nat) (mss : Nat → Nat) (msc : Nat → Nat) (mip : Nat → Bool) (mcb : Nat → Bool) (msco : Nat → Nat) (mtim : Nat → Nat) (x : Nat) (w : Nat) (hx0 : x < ne) (hw0 : w = 2) (hI : IS np ne ns gr nw sp sq sec (fun i => i) ans stt) : Ct l G (tyL cI cZ cJ) y_Model_score b_Model_score 5 (some .long) (rmL 5) [.ref (hm 0), .int (nI x), .int (nI w)] (w_M hm cI cZ cJ mth np ne ns tl mbd gr stt sp sq sec ans rt nw mtd un mss msc mip mcb msco mtim) (some (.long (lN (cntF (hsM nw sp sq sec rt stt ns x) np)))) (w_M hm cI cZ cJ 0 np ne ns tl mbd gr stt sp sq sec ans rt nw mtd un mss msc mip mcb msco mtim) := by
  refine M_start (by decide) (Nat.le_of_ble_eq_true rfl) ?_
  intro p e s m args below meth c A Q ls X Y hW hl
  have hx := X.1.1
  have hb := X.1.2.1
  have hl : lv_has ls 5 [(0, .ref (hm 0)), (1, .int (nI x)), (2, .int (nI w))] := hl
  obtain ⟨z1, z2, z3, z4, z5, z6, z7, z8, z9, z10, z11, z12, z13⟩ := id hI
  rcases (show w = 2 by omega) with h9
  · subst h9
    obtain ⟨z1, z2, z3, z4, z5, z6, z7, z8, z9, z10, z11, z12, z13⟩ := id hI
    refine lv_aload_n hx hb d_Model_score_0 rfl (lv_at hl 0 rfl) ?_
    refine lv_iconst (v := (nI 0)) hx hb d_Model_score_1 (by decide +kernel) ?_
    refine R_put X hW i_Model rfl t_Model t_Model_ok n_Model 0 (by decide) kf_Model_60 rfl (ty := .int) (by decide +kernel) 0 rfl (v := .int (nI 0)) rfl rfl (Nat.le_of_ble_eq_true rfl) d_Model_score_2 (fun H locs hW => ?_)
    have hW : Wr G A s.heap (w_M hm cI cZ cJ 0 np ne ns tl mbd gr stt sp sq sec ans rt nw mtd un mss msc mip mcb msco mtim) H locs := hW
    refine lv_aload_n hx hb d_Model_score_5 rfl (lv_at hl 0 rfl) ?_
    refine lv_iload_n hx hb d_Model_score_6 rfl (lv_at hl 1 rfl) ?_
    refine R_callV (q0 := 0) (m_isPerson l G cI cZ cJ hm 0 np ne ns tl mbd gr stt sp sq sec ans rt nw mtd un mss msc mip mcb msco mtim (nI x) (by omega)) X rfl hW cw_Model_93 ki_Model_isPerson ks_Model_isPerson rfl rfl ⟨rfl, rfl⟩ ⟨by decide, by decide⟩ ⟨Nat.zero_le _, Nat.zero_le _⟩ [true, true, true, true, true, true, true, true, true, true, true, true, true, true, true, true, true] rfl (Nat.le_of_ble_eq_true rfl) rfl rfl hl.1 rfl rfl (Nat.le_of_ble_eq_true rfl) d_Model_score_7 rfl (fun H locs hW => ?_)
    have hW : Wr G A s.heap (w_M hm cI cZ cJ 0 np ne ns tl mbd gr stt sp sq sec ans rt nw mtd un mss msc mip mcb msco mtim) H locs := hW
    refine N_if_ne_B hx hb  (tgt := 17) d_Model_score_10 (by decide) (fun c10 => ?_) (fun c10 => ?_)
    · refine lv_iconst (v := (nI 0)) hx hb d_Model_score_17 (by decide +kernel) ?_
      refine lv_istore_n (lv' := [(3, .int (nI 0)), (0, .ref (hm 0)), (1, .int (nI x)), (2, .int (nI 2))]) hx hb d_Model_score_18 rfl hl (by decide) rfl (fun ls hl => ?_)
      refine lv_iload_n hx hb d_Model_score_19 rfl (lv_at hl 3 rfl) ?_
      refine lv_tableIn (tgt := 64) hx hb d_Model_score_20 (by decide +kernel) (by decide +kernel) (off := 44) (by decide +kernel) (by decide) ?_
      refine lv_iconst (v := (nI 0)) hx hb d_Model_score_64 (by decide +kernel) ?_
      refine lv_istore (lv' := [(4, .int (nI 0)), (3, .int (nI 0)), (0, .ref (hm 0)), (1, .int (nI x)), (2, .int (nI 2))]) hx hb d_Model_score_65 hl (by decide) rfl (fun ls hl => ?_)
      have L67 : ∀ (n : Nat) (r : Nat) (k : Nat) (hk : k + n = np) (hr : r = cntF (hsM nw sp sq sec rt stt ns x) k) (H : Heap) (locs : List Loc) (hW : Wr G A s.heap (w_M hm cI cZ cJ 0 np ne ns tl mbd gr stt sp sq sec ans rt nw mtd un mss msc mip mcb msco mtim) H locs) (ls : Array Slot) (hl : lv_has ls 5 [(0, .ref (hm 0)), (1, .int (nI x)), (2, .int (nI 2)), (3, .int (nI r)), (4, .int (nI k))]), W p l e (rmL 5) s m args below meth c H locs 0 0 Q (F0 m 67 ls []) := by
        intro n
        induction n with
        | zero =>
          intro r k hk hr H locs hW ls hl
          refine lv_iload hx hb d_Model_score_67 (lv_at hl 4 rfl) ?_
          refine lv_aload_n hx hb d_Model_score_69 rfl (lv_at hl 0 rfl) ?_
          refine R_get X hW i_Model rfl 1 (by decide) kf_Model_64 0 rfl rfl d_Model_score_70 ?_
          refine N_icmp_ge_NN hx hb (by omega) (by omega) (tgt := 100) d_Model_score_73 (by decide) (fun c73 => ?_) (fun c73 => ?_)
          · have y9 := cntF_le (hsM nw sp sq sec rt stt ns x) np
            have e9 : np = k := by omega
            subst e9
            refine lv_iload_n hx hb d_Model_score_100 rfl (lv_at hl 3 rfl) ?_
            refine N_i2l hx hb (by omega) d_Model_score_101 ?_
            exact R_lret X Y hW rfl (by rw [hr]) d_Model_score_102
          · exfalso; omega
        | succ n ih67 =>
          intro r k hk hr H locs hW ls hl
          refine lv_iload hx hb d_Model_score_67 (lv_at hl 4 rfl) ?_
          refine lv_aload_n hx hb d_Model_score_69 rfl (lv_at hl 0 rfl) ?_
          refine R_get X hW i_Model rfl 1 (by decide) kf_Model_64 0 rfl rfl d_Model_score_70 ?_
          refine N_icmp_ge_NN hx hb (by omega) (by omega) (tgt := 100) d_Model_score_73 (by decide) (fun c73 => ?_) (fun c73 => ?_)
          · exfalso; omega
          · refine lv_iload_n hx hb d_Model_score_76 rfl (lv_at hl 3 rfl) ?_
            refine lv_aload_n hx hb d_Model_score_77 rfl (lv_at hl 0 rfl) ?_
            refine lv_iload_n hx hb d_Model_score_78 rfl (lv_at hl 1 rfl) ?_
            refine lv_iload hx hb d_Model_score_79 (lv_at hl 4 rfl) ?_
            refine R_callV (q0 := 0) (m_counting l G cI cZ cJ hm 0 np ne ns tl mbd gr stt sp sq sec ans rt nw mtd un mss msc mip mcb msco mtim x k (by omega) (by omega) hI) X rfl hW cw_Model_117 ki_Model_counting ks_Model_counting rfl rfl ⟨rfl, rfl⟩ ⟨by decide, by decide⟩ ⟨Nat.zero_le _, Nat.zero_le _⟩ [true, true, true, true, true, true, true, true, true, true, true, true, true, true, true, true, true] rfl (Nat.le_of_ble_eq_true rfl) rfl rfl hl.1 rfl rfl (Nat.le_of_ble_eq_true rfl) d_Model_score_81 rfl (fun H locs hW => ?_)
            have hW : Wr G A s.heap (w_M hm cI cZ cJ 0 np ne ns tl mbd gr stt sp sq sec ans rt nw mtd un mss msc mip mcb msco mtim) H locs := hW
            refine N_if_lt_O hx hb (fun z hz => by have := ctF_lt hz; omega) (tgt := 91) d_Model_score_84 (by decide) (fun c84 => ?_) (fun c84 => ?_)
            · refine lv_iconst (v := (nI 0)) hx hb d_Model_score_91 (by decide +kernel) ?_
              refine N_iadd hx hb d_Model_score_92 ?_
              refine lv_istore_n (lv' := [(3, .int (nI (r + 0))), (0, .ref (hm 0)), (1, .int (nI x)), (2, .int (nI 2)), (4, .int (nI k))]) hx hb d_Model_score_93 rfl hl (by decide) rfl (fun ls hl => ?_)
              refine lv_iinc (v := (nI (k + 1))) (lv' := [(4, .int (nI (k + 1))), (3, .int (nI (r + 0))), (0, .ref (hm 0)), (1, .int (nI x)), (2, .int (nI 2))]) hx hb d_Model_score_94 hl (k := 4) rfl (N_inc k) (by decide) rfl (fun ls hl => ?_)
              refine lv_goto (tgt := 67) hx hb d_Model_score_97 (by decide) ?_
              exact ih67 (r + 0) (k + 1) (by omega) (by rw [cntF, ← hr, if_neg (by simp [hsM, c84])]) _ _ hW ls (lv_sub hl [2, 3, 4, 1, 0] rfl)
            · refine lv_iconst (v := (nI 1)) hx hb d_Model_score_87 (by decide +kernel) ?_
              refine lv_goto (tgt := 92) hx hb d_Model_score_88 (by decide) ?_
              refine N_iadd hx hb d_Model_score_92 ?_
              refine lv_istore_n (lv' := [(3, .int (nI (r + 1))), (0, .ref (hm 0)), (1, .int (nI x)), (2, .int (nI 2)), (4, .int (nI k))]) hx hb d_Model_score_93 rfl hl (by decide) rfl (fun ls hl => ?_)
              refine lv_iinc (v := (nI (k + 1))) (lv' := [(4, .int (nI (k + 1))), (3, .int (nI (r + 1))), (0, .ref (hm 0)), (1, .int (nI x)), (2, .int (nI 2))]) hx hb d_Model_score_94 hl (k := 4) rfl (N_inc k) (by decide) rfl (fun ls hl => ?_)
              refine lv_goto (tgt := 67) hx hb d_Model_score_97 (by decide) ?_
              exact ih67 (r + 1) (k + 1) (by omega) (by rw [cntF, ← hr, if_pos (by simp [hsM, Option.isSome_iff_ne_none, c84])]) _ _ hW ls (lv_sub hl [2, 3, 4, 1, 0] rfl)
      exact L67 np 0 0 (by omega) rfl _ _ hW ls (lv_sub hl [2, 3, 4, 1, 0] rfl)
    · exfalso; rw [inB_nI (by omega) (by omega)] at c10; cases c10

theorem kb_Model_reckon : Cond.code y_Model_reckon b_Model_reckon 2 none ∈ TBL := TBL_t (List.mem_append_right _ (List.mem_append_right _ (List.mem_of_getElem? (i := 184) rfl))) rfl
theorem km_Model_137 : Cond.methodLink "ContestRowsModel" 137 y_Model_reckon ∈ TBL := TBL_t (List.mem_append_right _ (List.mem_append_right _ (List.mem_of_getElem? (i := 181) rfl))) rfl
theorem cw_Model_137 : Cw "ContestRowsModel" 137 y_Model_reckon b_Model_reckon 2 none 0 := ⟨kb_Model_reckon, kn_Model, km_Model_137, by decide +kernel⟩
theorem ki_Model_reckon : Cond.instanceMethod y_Model_reckon ∈ TBL := TBL_t (List.mem_append_right _ (List.mem_append_right _ (List.mem_of_getElem? (i := 183) rfl))) rfl
theorem ks_Model_reckon : Cond.selects "ContestRowsModel" y_Model_reckon y_Model_reckon ∈ TBL := TBL_in (List.mem_append_left _ (List.mem_map.mpr ⟨(y_Model_reckon, 22), by decide +kernel, rfl⟩)) rfl
set_option maxHeartbeats 4000000 in
set_option maxRecDepth 100000 in
theorem m_score_3 (l : Launch) (G : va_G) (cI cZ cJ : ClassId) (hm : Nat → Nat) (mth : Nat) (np : Nat) (ne : Nat) (ns : Nat) (tl : Nat) (mbd : Option Nat) (gr : Nat → Nat) (stt : Nat → Option Nat) (sp : Nat → Nat) (sq : Nat → Nat) (sec : Nat → Nat) (ans : Nat → Nat) (rt : Nat → Bool) (nw : Nat → Nat) (mtd : Nat → Nat) (un : Nat → Nat) (mss : Nat → Nat) (msc : Nat → Nat) (mip : Nat → Bool) (mcb : Nat → Bool) (msco : Nat → Nat) (mtim : Nat → Nat) (x : Nat) (w : Nat) (hx0 : x < ne) (hw0 : w = 3) (hI : IS np ne ns gr nw sp sq sec (fun i => i) ans stt) (hsc : ∀ i, i < 20 → upG (scA gr nw sp sq sec rt stt ns np) ne msco i < 2 ^ 63) (htm : ∀ i, i < 20 → upG (tiA nw sp sq sec rt stt ns np) ne mtim i < 2 ^ 63) : Ct l G (tyL cI cZ cJ) y_Model_score b_Model_score 5 (some .long) (rmL 6) [.ref (hm 0), .int (nI x), .int (nI w)] (w_M hm cI cZ cJ mth np ne ns tl mbd gr stt sp sq sec ans rt nw mtd un mss msc mip mcb msco mtim) (some (.long (lN (1 + cntF (fun k => ahd (upG (scA gr nw sp sq sec rt stt ns np) ne msco) (upG (tiA nw sp sq sec rt stt ns np) ne mtim) (decide (nw 4 = 1)) k x) ne)))) (w_M hm cI cZ cJ 0 np ne ns tl mbd gr stt sp sq sec ans rt nw mtd un mss msc mip mcb (upG (scA gr nw sp sq sec rt stt ns np) ne msco) (upG (tiA nw sp sq sec rt stt ns np) ne mtim)) := by
  refine M_start (by decide) (Nat.le_of_ble_eq_true rfl) ?_
  intro p e s m args below meth c A Q ls X Y hW hl
  have hx := X.1.1
  have hb := X.1.2.1
  have hl : lv_has ls 5 [(0, .ref (hm 0)), (1, .int (nI x)), (2, .int (nI w))] := hl
  obtain ⟨z1, z2, z3, z4, z5, z6, z7, z8, z9, z10, z11, z12, z13⟩ := id hI
  rcases (show w = 3 by omega) with h9
  · subst h9
    obtain ⟨z1, z2, z3, z4, z5, z6, z7, z8, z9, z10, z11, z12, z13⟩ := id hI
    refine lv_aload_n hx hb d_Model_score_0 rfl (lv_at hl 0 rfl) ?_
    refine lv_iconst (v := (nI 0)) hx hb d_Model_score_1 (by decide +kernel) ?_
    refine R_put X hW i_Model rfl t_Model t_Model_ok n_Model 0 (by decide) kf_Model_60 rfl (ty := .int) (by decide +kernel) 0 rfl (v := .int (nI 0)) rfl rfl (Nat.le_of_ble_eq_true rfl) d_Model_score_2 (fun H locs hW => ?_)
    have hW : Wr G A s.heap (w_M hm cI cZ cJ 0 np ne ns tl mbd gr stt sp sq sec ans rt nw mtd un mss msc mip mcb msco mtim) H locs := hW
    refine lv_aload_n hx hb d_Model_score_5 rfl (lv_at hl 0 rfl) ?_
    refine lv_iload_n hx hb d_Model_score_6 rfl (lv_at hl 1 rfl) ?_
    refine R_callV (q0 := 0) (m_isPerson l G cI cZ cJ hm 0 np ne ns tl mbd gr stt sp sq sec ans rt nw mtd un mss msc mip mcb msco mtim (nI x) (by omega)) X rfl hW cw_Model_93 ki_Model_isPerson ks_Model_isPerson rfl rfl ⟨rfl, rfl⟩ ⟨by decide, by decide⟩ ⟨Nat.zero_le _, Nat.zero_le _⟩ [true, true, true, true, true, true, true, true, true, true, true, true, true, true, true, true, true] rfl (Nat.le_of_ble_eq_true rfl) rfl rfl hl.1 rfl rfl (Nat.le_of_ble_eq_true rfl) d_Model_score_7 rfl (fun H locs hW => ?_)
    have hW : Wr G A s.heap (w_M hm cI cZ cJ 0 np ne ns tl mbd gr stt sp sq sec ans rt nw mtd un mss msc mip mcb msco mtim) H locs := hW
    refine N_if_ne_B hx hb  (tgt := 17) d_Model_score_10 (by decide) (fun c10 => ?_) (fun c10 => ?_)
    · refine lv_iconst (v := (nI 0)) hx hb d_Model_score_17 (by decide +kernel) ?_
      refine lv_istore_n (lv' := [(3, .int (nI 0)), (0, .ref (hm 0)), (1, .int (nI x)), (2, .int (nI 3))]) hx hb d_Model_score_18 rfl hl (by decide) rfl (fun ls hl => ?_)
      refine lv_iload_n hx hb d_Model_score_19 rfl (lv_at hl 3 rfl) ?_
      refine lv_tableIn (tgt := 103) hx hb d_Model_score_20 (by decide +kernel) (by decide +kernel) (off := 83) (by decide +kernel) (by decide) ?_
      refine lv_aload_n hx hb d_Model_score_103 rfl (lv_at hl 1 rfl) ?_
      refine R_callV (q0 := 0) (m_reckon l G cI cZ cJ hm 0 np ne ns tl mbd gr stt sp sq sec ans rt nw mtd un mss msc mip mcb msco mtim hI) X rfl hW cw_Model_137 ki_Model_reckon ks_Model_reckon rfl rfl ⟨rfl, rfl⟩ ⟨by decide, by decide⟩ ⟨Nat.zero_le _, Nat.zero_le _⟩ [true, true, true, true, true, true, true, true, true, true, true, true, true, true, true, true, true] rfl (Nat.le_of_ble_eq_true rfl) rfl rfl hl.1 rfl rfl (Nat.le_of_ble_eq_true rfl) d_Model_score_104 rfl (fun H locs hW => ?_)
      have hW : Wr G A s.heap (w_M hm cI cZ cJ 0 np ne ns tl mbd gr stt sp sq sec ans rt nw mtd un mss msc mip mcb (upG (scA gr nw sp sq sec rt stt ns np) ne msco) (upG (tiA nw sp sq sec rt stt ns np) ne mtim)) H locs := hW
      refine lv_iconst (v := (nI 0)) hx hb d_Model_score_107 (by decide +kernel) ?_
      refine lv_istore (lv' := [(4, .int (nI 0)), (3, .int (nI 0)), (0, .ref (hm 0)), (1, .int (nI x)), (2, .int (nI 3))]) hx hb d_Model_score_108 hl (by decide) rfl (fun ls hl => ?_)
      have L110 : ∀ (n : Nat) (r : Nat) (k : Nat) (hk : k + n = ne) (hr : r = cntF (fun k => ahd (upG (scA gr nw sp sq sec rt stt ns np) ne msco) (upG (tiA nw sp sq sec rt stt ns np) ne mtim) (decide (nw 4 = 1)) k x) k) (H : Heap) (locs : List Loc) (hW : Wr G A s.heap (w_M hm cI cZ cJ 0 np ne ns tl mbd gr stt sp sq sec ans rt nw mtd un mss msc mip mcb (upG (scA gr nw sp sq sec rt stt ns np) ne msco) (upG (tiA nw sp sq sec rt stt ns np) ne mtim)) H locs) (ls : Array Slot) (hl : lv_has ls 5 [(0, .ref (hm 0)), (1, .int (nI x)), (2, .int (nI 3)), (3, .int (nI r)), (4, .int (nI k))]), W p l e (rmL 6) s m args below meth c H locs 0 0 Q (F0 m 110 ls []) := by
        intro n
        induction n with
        | zero =>
          intro r k hk hr H locs hW ls hl
          refine lv_iload hx hb d_Model_score_110 (lv_at hl 4 rfl) ?_
          refine lv_aload_n hx hb d_Model_score_112 rfl (lv_at hl 0 rfl) ?_
          refine R_get X hW i_Model rfl 2 (by decide) kf_Model_67 0 rfl rfl d_Model_score_113 ?_
          refine N_icmp_ge_NN hx hb (by omega) (by omega) (tgt := 143) d_Model_score_116 (by decide) (fun c116 => ?_) (fun c116 => ?_)
          · have y9 := cntF_le (fun k => ahd (upG (scA gr nw sp sq sec rt stt ns np) ne msco) (upG (tiA nw sp sq sec rt stt ns np) ne mtim) (decide (nw 4 = 1)) k x) ne
            have e9 : ne = k := by omega
            subst e9
            refine lv_lconst (v := lN 1) hx hb d_Model_score_143 (by decide +kernel) ?_
            refine lv_iload_n hx hb d_Model_score_144 rfl (lv_at hl 3 rfl) ?_
            refine N_i2l hx hb (by omega) d_Model_score_145 ?_
            refine N_ladd hx hb d_Model_score_146 ?_
            exact R_lret X Y hW rfl (by rw [hr]) d_Model_score_147
          · exfalso; omega
        | succ n ih110 =>
          intro r k hk hr H locs hW ls hl
          refine lv_iload hx hb d_Model_score_110 (lv_at hl 4 rfl) ?_
          refine lv_aload_n hx hb d_Model_score_112 rfl (lv_at hl 0 rfl) ?_
          refine R_get X hW i_Model rfl 2 (by decide) kf_Model_67 0 rfl rfl d_Model_score_113 ?_
          refine N_icmp_ge_NN hx hb (by omega) (by omega) (tgt := 143) d_Model_score_116 (by decide) (fun c116 => ?_) (fun c116 => ?_)
          · exfalso; omega
          · refine lv_iload_n hx hb d_Model_score_119 rfl (lv_at hl 3 rfl) ?_
            refine lv_aload_n hx hb d_Model_score_120 rfl (lv_at hl 0 rfl) ?_
            refine lv_iload hx hb d_Model_score_121 (lv_at hl 4 rfl) ?_
            refine lv_iload_n hx hb d_Model_score_123 rfl (lv_at hl 1 rfl) ?_
            refine R_callV (q0 := 0) (m_isBetter l G cI cZ cJ hm 0 np ne ns tl mbd gr stt sp sq sec ans rt nw mtd un mss msc mip mcb (upG (scA gr nw sp sq sec rt stt ns np) ne msco) (upG (tiA nw sp sq sec rt stt ns np) ne mtim) k x (by omega) (by omega) z5 hsc htm) X rfl hW cw_Model_134 ki_Model_isBetter ks_Model_isBetter rfl rfl ⟨rfl, rfl⟩ ⟨by decide, by decide⟩ ⟨Nat.zero_le _, Nat.zero_le _⟩ [true, true, true, true, true, true, true, true, true, true, true, true, true, true, true, true, true] rfl (Nat.le_of_ble_eq_true rfl) rfl rfl hl.1 rfl rfl (Nat.le_of_ble_eq_true rfl) d_Model_score_124 rfl (fun H locs hW => ?_)
            have hW : Wr G A s.heap (w_M hm cI cZ cJ 0 np ne ns tl mbd gr stt sp sq sec ans rt nw mtd un mss msc mip mcb (upG (scA gr nw sp sq sec rt stt ns np) ne msco) (upG (tiA nw sp sq sec rt stt ns np) ne mtim)) H locs := hW
            refine N_if_eq_B hx hb  (tgt := 134) d_Model_score_127 (by decide) (fun c127 => ?_) (fun c127 => ?_)
            · refine lv_iconst (v := (nI 0)) hx hb d_Model_score_134 (by decide +kernel) ?_
              refine N_iadd hx hb d_Model_score_135 ?_
              refine lv_istore_n (lv' := [(3, .int (nI (r + 0))), (0, .ref (hm 0)), (1, .int (nI x)), (2, .int (nI 3)), (4, .int (nI k))]) hx hb d_Model_score_136 rfl hl (by decide) rfl (fun ls hl => ?_)
              refine lv_iinc (v := (nI (k + 1))) (lv' := [(4, .int (nI (k + 1))), (3, .int (nI (r + 0))), (0, .ref (hm 0)), (1, .int (nI x)), (2, .int (nI 3))]) hx hb d_Model_score_137 hl (k := 4) rfl (N_inc k) (by decide) rfl (fun ls hl => ?_)
              refine lv_goto (tgt := 110) hx hb d_Model_score_140 (by decide) ?_
              exact ih110 (r + 0) (k + 1) (by omega) (by rw [cntF, ← hr, if_neg (by simp [c127])]) _ _ hW ls (lv_sub hl [2, 3, 4, 1, 0] rfl)
            · refine lv_iconst (v := (nI 1)) hx hb d_Model_score_130 (by decide +kernel) ?_
              refine lv_goto (tgt := 135) hx hb d_Model_score_131 (by decide) ?_
              refine N_iadd hx hb d_Model_score_135 ?_
              refine lv_istore_n (lv' := [(3, .int (nI (r + 1))), (0, .ref (hm 0)), (1, .int (nI x)), (2, .int (nI 3)), (4, .int (nI k))]) hx hb d_Model_score_136 rfl hl (by decide) rfl (fun ls hl => ?_)
              refine lv_iinc (v := (nI (k + 1))) (lv' := [(4, .int (nI (k + 1))), (3, .int (nI (r + 1))), (0, .ref (hm 0)), (1, .int (nI x)), (2, .int (nI 3))]) hx hb d_Model_score_137 hl (k := 4) rfl (N_inc k) (by decide) rfl (fun ls hl => ?_)
              refine lv_goto (tgt := 110) hx hb d_Model_score_140 (by decide) ?_
              exact ih110 (r + 1) (k + 1) (by omega) (by rw [cntF, ← hr, if_pos c127]) _ _ hW ls (lv_sub hl [2, 3, 4, 1, 0] rfl)
      exact L110 ne 0 0 (by omega) rfl _ _ hW ls (lv_sub hl [2, 3, 4, 1, 0] rfl)
    · exfalso; rw [inB_nI (by omega) (by omega)] at c10; cases c10

theorem kb_Model_isAlike : Cond.code y_Model_isAlike b_Model_isAlike 3 (some .boolean) ∈ TBL := TBL_t (List.mem_append_right _ (List.mem_append_right _ (List.mem_of_getElem? (i := 200) rfl))) rfl
theorem km_Model_140 : Cond.methodLink "ContestRowsModel" 140 y_Model_isAlike ∈ TBL := TBL_t (List.mem_append_right _ (List.mem_append_right _ (List.mem_of_getElem? (i := 197) rfl))) rfl
theorem cw_Model_140 : Cw "ContestRowsModel" 140 y_Model_isAlike b_Model_isAlike 3 (some .boolean) 2 := ⟨kb_Model_isAlike, kn_Model, km_Model_140, by decide +kernel⟩
theorem ki_Model_isAlike : Cond.instanceMethod y_Model_isAlike ∈ TBL := TBL_t (List.mem_append_right _ (List.mem_append_right _ (List.mem_of_getElem? (i := 199) rfl))) rfl
theorem ks_Model_isAlike : Cond.selects "ContestRowsModel" y_Model_isAlike y_Model_isAlike ∈ TBL := TBL_in (List.mem_append_left _ (List.mem_map.mpr ⟨(y_Model_isAlike, 22), by decide +kernel, rfl⟩)) rfl
set_option maxHeartbeats 4000000 in
set_option maxRecDepth 100000 in
theorem m_place (l : Launch) (G : va_G) (cI cZ cJ : ClassId) (hm : Nat → Nat) (mth : Nat) (np : Nat) (ne : Nat) (ns : Nat) (tl : Nat) (mbd : Option Nat) (gr : Nat → Nat) (stt : Nat → Option Nat) (sp : Nat → Nat) (sq : Nat → Nat) (sec : Nat → Nat) (ans : Nat → Nat) (rt : Nat → Bool) (nw : Nat → Nat) (mtd : Nat → Nat) (un : Nat → Nat) (mss : Nat → Nat) (msc : Nat → Nat) (mip : Nat → Bool) (mcb : Nat → Bool) (msco : Nat → Nat) (mtim : Nat → Nat) (x : Int32) (hI : IS np ne ns gr nw sp sq sec (fun i => i) ans stt) (hsc : ∀ i, i < 20 → upG (scA gr nw sp sq sec rt stt ns np) ne msco i < 2 ^ 63) (htm : ∀ i, i < 20 → upG (tiA nw sp sq sec rt stt ns np) ne mtim i < 2 ^ 63) : Ct l G (tyL cI cZ cJ) y_Model_place b_Model_place 5 (some .int) (rmL 6) [.ref (hm 0), .int x] (w_M hm cI cZ cJ mth np ne ns tl mbd gr stt sp sq sec ans rt nw mtd un mss msc mip mcb msco mtim) (some (.int (oI (fstG (fun q => decide ((hmM (upG (scA gr nw sp sq sec rt stt ns np) ne msco) (upG (tiA nw sp sq sec rt stt ns np) ne mtim) ne (decide (nw 4 = 1)) q : Int) = x.toInt)) ne 0)))) (w_M hm cI cZ cJ 0 np ne ns tl mbd gr stt sp sq sec ans rt nw mtd un mss msc mip mcb (upG (scA gr nw sp sq sec rt stt ns np) ne msco) (upG (tiA nw sp sq sec rt stt ns np) ne mtim)) := by
  refine M_start (by decide) (Nat.le_of_ble_eq_true rfl) ?_
  intro p e s m args below meth c A Q ls X Y hW hl
  have hx := X.1.1
  have hb := X.1.2.1
  have hl : lv_has ls 5 [(0, .ref (hm 0)), (1, .int x)] := hl
  obtain ⟨z1, z2, z3, z4, z5, z6, z7, z8, z9, z10, z11, z12, z13⟩ := id hI
  refine lv_aload_n hx hb d_Model_place_0 rfl (lv_at hl 0 rfl) ?_
  refine lv_iconst (v := (nI 0)) hx hb d_Model_place_1 (by decide +kernel) ?_
  refine R_put X hW i_Model rfl t_Model t_Model_ok n_Model 0 (by decide) kf_Model_60 rfl (ty := .int) (by decide +kernel) 0 rfl (v := .int (nI 0)) rfl rfl (Nat.le_of_ble_eq_true rfl) d_Model_place_2 (fun H locs hW => ?_)
  have hW : Wr G A s.heap (w_M hm cI cZ cJ 0 np ne ns tl mbd gr stt sp sq sec ans rt nw mtd un mss msc mip mcb msco mtim) H locs := hW
  refine lv_aload_n hx hb d_Model_place_5 rfl (lv_at hl 0 rfl) ?_
  refine R_callV (q0 := 0) (m_reckon l G cI cZ cJ hm 0 np ne ns tl mbd gr stt sp sq sec ans rt nw mtd un mss msc mip mcb msco mtim hI) X rfl hW cw_Model_137 ki_Model_reckon ks_Model_reckon rfl rfl ⟨rfl, rfl⟩ ⟨by decide, by decide⟩ ⟨Nat.zero_le _, Nat.zero_le _⟩ [true, true, true, true, true, true, true, true, true, true, true, true, true, true, true, true, true] rfl (Nat.le_of_ble_eq_true rfl) rfl rfl hl.1 rfl rfl (Nat.le_of_ble_eq_true rfl) d_Model_place_6 rfl (fun H locs hW => ?_)
  have hW : Wr G A s.heap (w_M hm cI cZ cJ 0 np ne ns tl mbd gr stt sp sq sec ans rt nw mtd un mss msc mip mcb (upG (scA gr nw sp sq sec rt stt ns np) ne msco) (upG (tiA nw sp sq sec rt stt ns np) ne mtim)) H locs := hW
  refine lv_iconst (v := (nI 0)) hx hb d_Model_place_9 (by decide +kernel) ?_
  refine lv_istore_n (lv' := [(2, .int (nI 0)), (0, .ref (hm 0)), (1, .int x)]) hx hb d_Model_place_10 rfl hl (by decide) rfl (fun ls hl => ?_)
  have L11 : ∀ (n : Nat) (i : Nat) (hi : i + n = ne) (he : fstG (fun q => decide ((hmM (upG (scA gr nw sp sq sec rt stt ns np) ne msco) (upG (tiA nw sp sq sec rt stt ns np) ne mtim) ne (decide (nw 4 = 1)) q : Int) = x.toInt)) n i = fstG (fun q => decide ((hmM (upG (scA gr nw sp sq sec rt stt ns np) ne msco) (upG (tiA nw sp sq sec rt stt ns np) ne mtim) ne (decide (nw 4 = 1)) q : Int) = x.toInt)) ne 0) (H : Heap) (locs : List Loc) (hW : Wr G A s.heap (w_M hm cI cZ cJ 0 np ne ns tl mbd gr stt sp sq sec ans rt nw mtd un mss msc mip mcb (upG (scA gr nw sp sq sec rt stt ns np) ne msco) (upG (tiA nw sp sq sec rt stt ns np) ne mtim)) H locs) (ls : Array Slot) (hl : lv_has ls 5 [(0, .ref (hm 0)), (1, .int x), (2, .int (nI i))]), W p l e (rmL 6) s m args below meth c H locs 0 0 Q (F0 m 11 ls []) := by
    intro n
    induction n with
    | zero =>
      intro i hi he H locs hW ls hl
      refine lv_iload_n hx hb d_Model_place_11 rfl (lv_at hl 2 rfl) ?_
      refine lv_aload_n hx hb d_Model_place_12 rfl (lv_at hl 0 rfl) ?_
      refine R_get X hW i_Model rfl 2 (by decide) kf_Model_67 0 rfl rfl d_Model_place_13 ?_
      refine N_icmp_ge_NN hx hb (by omega) (by omega) (tgt := 86) d_Model_place_16 (by decide) (fun c16 => ?_) (fun c16 => ?_)
      · refine lv_iconst (v := (-1)) hx hb d_Model_place_86 (by decide +kernel) ?_
        exact R_iret X Y hW rfl (by rw [← he]; rfl) d_Model_place_87
      · exfalso; omega
    | succ n ih11 =>
      intro i hi he H locs hW ls hl
      refine lv_iload_n hx hb d_Model_place_11 rfl (lv_at hl 2 rfl) ?_
      refine lv_aload_n hx hb d_Model_place_12 rfl (lv_at hl 0 rfl) ?_
      refine R_get X hW i_Model rfl 2 (by decide) kf_Model_67 0 rfl rfl d_Model_place_13 ?_
      refine N_icmp_ge_NN hx hb (by omega) (by omega) (tgt := 86) d_Model_place_16 (by decide) (fun c16 => ?_) (fun c16 => ?_)
      · exfalso; omega
      · refine lv_iconst (v := (nI 0)) hx hb d_Model_place_19 (by decide +kernel) ?_
        refine lv_istore_n (lv' := [(3, .int (nI 0)), (0, .ref (hm 0)), (1, .int x), (2, .int (nI i))]) hx hb d_Model_place_20 rfl hl (by decide) rfl (fun ls hl => ?_)
        refine lv_iconst (v := (nI 0)) hx hb d_Model_place_21 (by decide +kernel) ?_
        refine lv_istore (lv' := [(4, .int (nI 0)), (3, .int (nI 0)), (0, .ref (hm 0)), (1, .int x), (2, .int (nI i))]) hx hb d_Model_place_22 hl (by decide) rfl (fun ls hl => ?_)
        have L24 : ∀ (n2 : Nat) (r : Nat) (j : Nat) (hj : j + n2 = ne) (hr : r = cntF (fun q => ahd (upG (scA gr nw sp sq sec rt stt ns np) ne msco) (upG (tiA nw sp sq sec rt stt ns np) ne mtim) (decide (nw 4 = 1)) q i || (decide (q < i) && alk (upG (scA gr nw sp sq sec rt stt ns np) ne msco) (upG (tiA nw sp sq sec rt stt ns np) ne mtim) (decide (nw 4 = 1)) q i)) j) (H : Heap) (locs : List Loc) (hW : Wr G A s.heap (w_M hm cI cZ cJ 0 np ne ns tl mbd gr stt sp sq sec ans rt nw mtd un mss msc mip mcb (upG (scA gr nw sp sq sec rt stt ns np) ne msco) (upG (tiA nw sp sq sec rt stt ns np) ne mtim)) H locs) (ls : Array Slot) (hl : lv_has ls 5 [(0, .ref (hm 0)), (1, .int x), (2, .int (nI i)), (3, .int (nI r)), (4, .int (nI j))]), W p l e (rmL 6) s m args below meth c H locs 0 0 Q (F0 m 24 ls []) := by
          intro n2
          induction n2 with
          | zero =>
            intro r j hj hr H locs hW ls hl
            refine lv_iload hx hb d_Model_place_24 (lv_at hl 4 rfl) ?_
            refine lv_aload_n hx hb d_Model_place_26 rfl (lv_at hl 0 rfl) ?_
            refine R_get X hW i_Model rfl 2 (by decide) kf_Model_67 0 rfl rfl d_Model_place_27 ?_
            refine N_icmp_ge_NN hx hb (by omega) (by omega) (tgt := 73) d_Model_place_30 (by decide) (fun c30 => ?_) (fun c30 => ?_)
            · have hrm : r = hmM (upG (scA gr nw sp sq sec rt stt ns np) ne msco) (upG (tiA nw sp sq sec rt stt ns np) ne mtim) ne (decide (nw 4 = 1)) i := by rw [hr, show j = ne by omega]; rfl
              have y9 := cntF_le (fun q => ahd (upG (scA gr nw sp sq sec rt stt ns np) ne msco) (upG (tiA nw sp sq sec rt stt ns np) ne mtim) (decide (nw 4 = 1)) q i || (decide (q < i) && alk (upG (scA gr nw sp sq sec rt stt ns np) ne msco) (upG (tiA nw sp sq sec rt stt ns np) ne mtim) (decide (nw 4 = 1)) q i)) j
              refine lv_iload_n hx hb d_Model_place_73 rfl (lv_at hl 3 rfl) ?_
              refine lv_iload_n hx hb d_Model_place_74 rfl (lv_at hl 1 rfl) ?_
              refine N_icmp_ne_NR hx hb (by omega) (tgt := 80) d_Model_place_75 (by decide) (fun c75 => ?_) (fun c75 => ?_)
              · refine lv_iinc (v := (nI (i + 1))) (lv' := [(2, .int (nI (i + 1))), (0, .ref (hm 0)), (1, .int x), (3, .int (nI r)), (4, .int (nI j))]) hx hb d_Model_place_80 hl (k := 2) rfl (N_inc i) (by decide) rfl (fun ls hl => ?_)
                refine lv_goto (tgt := 11) hx hb d_Model_place_83 (by decide) ?_
                exact ih11 (i + 1) (by omega) (by rw [← he, fstG, if_neg (by rw [← hrm]; simpa using c75)]) _ _ hW ls (lv_sub hl [1, 2, 0] rfl)
              · refine lv_iload_n hx hb d_Model_place_78 rfl (lv_at hl 2 rfl) ?_
                exact R_iret X Y hW rfl (by rw [← he, fstG, if_pos (by rw [← hrm]; simpa using c75)]; rfl) d_Model_place_79
            · exfalso; omega
          | succ n2 ih24 =>
            intro r j hj hr H locs hW ls hl
            refine lv_iload hx hb d_Model_place_24 (lv_at hl 4 rfl) ?_
            refine lv_aload_n hx hb d_Model_place_26 rfl (lv_at hl 0 rfl) ?_
            refine R_get X hW i_Model rfl 2 (by decide) kf_Model_67 0 rfl rfl d_Model_place_27 ?_
            refine N_icmp_ge_NN hx hb (by omega) (by omega) (tgt := 73) d_Model_place_30 (by decide) (fun c30 => ?_) (fun c30 => ?_)
            · exfalso; omega
            · refine lv_iload_n hx hb d_Model_place_33 rfl (lv_at hl 3 rfl) ?_
              refine lv_aload_n hx hb d_Model_place_34 rfl (lv_at hl 0 rfl) ?_
              refine lv_iload hx hb d_Model_place_35 (lv_at hl 4 rfl) ?_
              refine lv_iload_n hx hb d_Model_place_37 rfl (lv_at hl 2 rfl) ?_
              refine R_callV (q0 := 0) (m_isBetter l G cI cZ cJ hm 0 np ne ns tl mbd gr stt sp sq sec ans rt nw mtd un mss msc mip mcb (upG (scA gr nw sp sq sec rt stt ns np) ne msco) (upG (tiA nw sp sq sec rt stt ns np) ne mtim) j i (by omega) (by omega) z5 hsc htm) X rfl hW cw_Model_134 ki_Model_isBetter ks_Model_isBetter rfl rfl ⟨rfl, rfl⟩ ⟨by decide, by decide⟩ ⟨Nat.zero_le _, Nat.zero_le _⟩ [true, true, true, true, true, true, true, true, true, true, true, true, true, true, true, true, true] rfl (Nat.le_of_ble_eq_true rfl) rfl rfl hl.1 rfl rfl (Nat.le_of_ble_eq_true rfl) d_Model_place_38 rfl (fun H locs hW => ?_)
              have hW : Wr G A s.heap (w_M hm cI cZ cJ 0 np ne ns tl mbd gr stt sp sq sec ans rt nw mtd un mss msc mip mcb (upG (scA gr nw sp sq sec rt stt ns np) ne msco) (upG (tiA nw sp sq sec rt stt ns np) ne mtim)) H locs := hW
              refine N_if_ne_B hx hb  (tgt := 60) d_Model_place_41 (by decide) (fun c41 => ?_) (fun c41 => ?_)
              · refine lv_iconst (v := (nI 1)) hx hb d_Model_place_60 (by decide +kernel) ?_
                refine lv_goto (tgt := 65) hx hb d_Model_place_61 (by decide) ?_
                refine N_iadd hx hb d_Model_place_65 ?_
                refine lv_istore_n (lv' := [(3, .int (nI (r + 1))), (0, .ref (hm 0)), (1, .int x), (2, .int (nI i)), (4, .int (nI j))]) hx hb d_Model_place_66 rfl hl (by decide) rfl (fun ls hl => ?_)
                refine lv_iinc (v := (nI (j + 1))) (lv' := [(4, .int (nI (j + 1))), (3, .int (nI (r + 1))), (0, .ref (hm 0)), (1, .int x), (2, .int (nI i))]) hx hb d_Model_place_67 hl (k := 4) rfl (N_inc j) (by decide) rfl (fun ls hl => ?_)
                refine lv_goto (tgt := 24) hx hb d_Model_place_70 (by decide) ?_
                exact ih24 (r + 1) (j + 1) (by omega) (by rw [cntF, ← hr, if_pos (by simp [c41])]) _ _ hW ls (lv_sub hl [2, 3, 4, 1, 0] rfl)
              · refine lv_iload hx hb d_Model_place_44 (lv_at hl 4 rfl) ?_
                refine lv_iload_n hx hb d_Model_place_46 rfl (lv_at hl 2 rfl) ?_
                refine N_icmp_ge_NN hx hb (by omega) (by omega) (tgt := 64) d_Model_place_47 (by decide) (fun c47 => ?_) (fun c47 => ?_)
                · refine lv_iconst (v := (nI 0)) hx hb d_Model_place_64 (by decide +kernel) ?_
                  refine N_iadd hx hb d_Model_place_65 ?_
                  refine lv_istore_n (lv' := [(3, .int (nI (r + 0))), (0, .ref (hm 0)), (1, .int x), (2, .int (nI i)), (4, .int (nI j))]) hx hb d_Model_place_66 rfl hl (by decide) rfl (fun ls hl => ?_)
                  refine lv_iinc (v := (nI (j + 1))) (lv' := [(4, .int (nI (j + 1))), (3, .int (nI (r + 0))), (0, .ref (hm 0)), (1, .int x), (2, .int (nI i))]) hx hb d_Model_place_67 hl (k := 4) rfl (N_inc j) (by decide) rfl (fun ls hl => ?_)
                  refine lv_goto (tgt := 24) hx hb d_Model_place_70 (by decide) ?_
                  exact ih24 (r + 0) (j + 1) (by omega) (by rw [cntF, ← hr, if_neg (by simp [c41]; omega)]) _ _ hW ls (lv_sub hl [2, 3, 4, 1, 0] rfl)
                · refine lv_aload_n hx hb d_Model_place_50 rfl (lv_at hl 0 rfl) ?_
                  refine lv_iload hx hb d_Model_place_51 (lv_at hl 4 rfl) ?_
                  refine lv_iload_n hx hb d_Model_place_53 rfl (lv_at hl 2 rfl) ?_
                  refine R_callV (q0 := 0) (m_isAlike l G cI cZ cJ hm 0 np ne ns tl mbd gr stt sp sq sec ans rt nw mtd un mss msc mip mcb (upG (scA gr nw sp sq sec rt stt ns np) ne msco) (upG (tiA nw sp sq sec rt stt ns np) ne mtim) j i (by omega) (by omega) z5 hsc htm) X rfl hW cw_Model_140 ki_Model_isAlike ks_Model_isAlike rfl rfl ⟨rfl, rfl⟩ ⟨by decide, by decide⟩ ⟨Nat.zero_le _, Nat.zero_le _⟩ [true, true, true, true, true, true, true, true, true, true, true, true, true, true, true, true, true] rfl (Nat.le_of_ble_eq_true rfl) rfl rfl hl.1 rfl rfl (Nat.le_of_ble_eq_true rfl) d_Model_place_54 rfl (fun H locs hW => ?_)
                  have hW : Wr G A s.heap (w_M hm cI cZ cJ 0 np ne ns tl mbd gr stt sp sq sec ans rt nw mtd un mss msc mip mcb (upG (scA gr nw sp sq sec rt stt ns np) ne msco) (upG (tiA nw sp sq sec rt stt ns np) ne mtim)) H locs := hW
                  refine N_if_eq_B hx hb  (tgt := 64) d_Model_place_57 (by decide) (fun c57 => ?_) (fun c57 => ?_)
                  · refine lv_iconst (v := (nI 0)) hx hb d_Model_place_64 (by decide +kernel) ?_
                    refine N_iadd hx hb d_Model_place_65 ?_
                    refine lv_istore_n (lv' := [(3, .int (nI (r + 0))), (0, .ref (hm 0)), (1, .int x), (2, .int (nI i)), (4, .int (nI j))]) hx hb d_Model_place_66 rfl hl (by decide) rfl (fun ls hl => ?_)
                    refine lv_iinc (v := (nI (j + 1))) (lv' := [(4, .int (nI (j + 1))), (3, .int (nI (r + 0))), (0, .ref (hm 0)), (1, .int x), (2, .int (nI i))]) hx hb d_Model_place_67 hl (k := 4) rfl (N_inc j) (by decide) rfl (fun ls hl => ?_)
                    refine lv_goto (tgt := 24) hx hb d_Model_place_70 (by decide) ?_
                    exact ih24 (r + 0) (j + 1) (by omega) (by rw [cntF, ← hr, if_neg (by simp [c41, c57])]) _ _ hW ls (lv_sub hl [2, 3, 4, 1, 0] rfl)
                  · refine lv_iconst (v := (nI 1)) hx hb d_Model_place_60 (by decide +kernel) ?_
                    refine lv_goto (tgt := 65) hx hb d_Model_place_61 (by decide) ?_
                    refine N_iadd hx hb d_Model_place_65 ?_
                    refine lv_istore_n (lv' := [(3, .int (nI (r + 1))), (0, .ref (hm 0)), (1, .int x), (2, .int (nI i)), (4, .int (nI j))]) hx hb d_Model_place_66 rfl hl (by decide) rfl (fun ls hl => ?_)
                    refine lv_iinc (v := (nI (j + 1))) (lv' := [(4, .int (nI (j + 1))), (3, .int (nI (r + 1))), (0, .ref (hm 0)), (1, .int x), (2, .int (nI i))]) hx hb d_Model_place_67 hl (k := 4) rfl (N_inc j) (by decide) rfl (fun ls hl => ?_)
                    refine lv_goto (tgt := 24) hx hb d_Model_place_70 (by decide) ?_
                    exact ih24 (r + 1) (j + 1) (by omega) (by rw [cntF, ← hr, if_pos (by simp [c57, c47])]) _ _ hW ls (lv_sub hl [2, 3, 4, 1, 0] rfl)
        exact L24 ne 0 0 (by omega) rfl _ _ hW ls (lv_sub hl [2, 3, 4, 1, 0] rfl)
  exact L11 ne 0 (by omega) rfl _ _ hW ls (lv_sub hl [1, 2, 0] rfl)

set_option maxHeartbeats 4000000 in
set_option maxRecDepth 100000 in
theorem m_shared_bad (l : Launch) (G : va_G) (cI cZ cJ : ClassId) (hm : Nat → Nat) (mth : Nat) (np : Nat) (ne : Nat) (ns : Nat) (tl : Nat) (mbd : Option Nat) (gr : Nat → Nat) (stt : Nat → Option Nat) (sp : Nat → Nat) (sq : Nat → Nat) (sec : Nat → Nat) (ans : Nat → Nat) (rt : Nat → Bool) (nw : Nat → Nat) (mtd : Nat → Nat) (un : Nat → Nat) (mss : Nat → Nat) (msc : Nat → Nat) (mip : Nat → Bool) (mcb : Nat → Bool) (msco : Nat → Nat) (mtim : Nat → Nat) (x : Int32) (y : Int32) (hbad : ¬ (inB x ne = true ∧ inB y ne = true)) (hI : IS np ne ns gr nw sp sq sec (fun i => i) ans stt) : Ct l G (tyL cI cZ cJ) y_Model_shared b_Model_shared 3 (some .boolean) (rmL 6) [.ref (hm 0), .int x, .int y] (w_M hm cI cZ cJ mth np ne ns tl mbd gr stt sp sq sec ans rt nw mtd un mss msc mip mcb msco mtim) (some (.int (bI false))) (w_M hm cI cZ cJ 0 np ne ns tl mbd gr stt sp sq sec ans rt nw mtd un mss msc mip mcb (upG (scA gr nw sp sq sec rt stt ns np) ne msco) (upG (tiA nw sp sq sec rt stt ns np) ne mtim)) := by
  refine M_start (by decide) (Nat.le_of_ble_eq_true rfl) ?_
  intro p e s m args below meth c A Q ls X Y hW hl
  have hx := X.1.1
  have hb := X.1.2.1
  have hl : lv_has ls 3 [(0, .ref (hm 0)), (1, .int x), (2, .int y)] := hl
  obtain ⟨z1, z2, z3, z4, z5, z6, z7, z8, z9, z10, z11, z12, z13⟩ := id hI
  refine lv_aload_n hx hb d_Model_shared_0 rfl (lv_at hl 0 rfl) ?_
  refine lv_iconst (v := (nI 0)) hx hb d_Model_shared_1 (by decide +kernel) ?_
  refine R_put X hW i_Model rfl t_Model t_Model_ok n_Model 0 (by decide) kf_Model_60 rfl (ty := .int) (by decide +kernel) 0 rfl (v := .int (nI 0)) rfl rfl (Nat.le_of_ble_eq_true rfl) d_Model_shared_2 (fun H locs hW => ?_)
  have hW : Wr G A s.heap (w_M hm cI cZ cJ 0 np ne ns tl mbd gr stt sp sq sec ans rt nw mtd un mss msc mip mcb msco mtim) H locs := hW
  refine lv_aload_n hx hb d_Model_shared_5 rfl (lv_at hl 0 rfl) ?_
  refine R_callV (q0 := 0) (m_reckon l G cI cZ cJ hm 0 np ne ns tl mbd gr stt sp sq sec ans rt nw mtd un mss msc mip mcb msco mtim hI) X rfl hW cw_Model_137 ki_Model_reckon ks_Model_reckon rfl rfl ⟨rfl, rfl⟩ ⟨by decide, by decide⟩ ⟨Nat.zero_le _, Nat.zero_le _⟩ [true, true, true, true, true, true, true, true, true, true, true, true, true, true, true, true, true] rfl (Nat.le_of_ble_eq_true rfl) rfl rfl hl.1 rfl rfl (Nat.le_of_ble_eq_true rfl) d_Model_shared_6 rfl (fun H locs hW => ?_)
  have hW : Wr G A s.heap (w_M hm cI cZ cJ 0 np ne ns tl mbd gr stt sp sq sec ans rt nw mtd un mss msc mip mcb (upG (scA gr nw sp sq sec rt stt ns np) ne msco) (upG (tiA nw sp sq sec rt stt ns np) ne mtim)) H locs := hW
  refine lv_aload_n hx hb d_Model_shared_9 rfl (lv_at hl 0 rfl) ?_
  refine lv_iload_n hx hb d_Model_shared_10 rfl (lv_at hl 1 rfl) ?_
  refine R_callV (q0 := 0) (m_isPerson l G cI cZ cJ hm 0 np ne ns tl mbd gr stt sp sq sec ans rt nw mtd un mss msc mip mcb (upG (scA gr nw sp sq sec rt stt ns np) ne msco) (upG (tiA nw sp sq sec rt stt ns np) ne mtim) x (by omega)) X rfl hW cw_Model_93 ki_Model_isPerson ks_Model_isPerson rfl rfl ⟨rfl, rfl⟩ ⟨by decide, by decide⟩ ⟨Nat.zero_le _, Nat.zero_le _⟩ [true, true, true, true, true, true, true, true, true, true, true, true, true, true, true, true, true] rfl (Nat.le_of_ble_eq_true rfl) rfl rfl hl.1 rfl rfl (Nat.le_of_ble_eq_true rfl) d_Model_shared_11 rfl (fun H locs hW => ?_)
  have hW : Wr G A s.heap (w_M hm cI cZ cJ 0 np ne ns tl mbd gr stt sp sq sec ans rt nw mtd un mss msc mip mcb (upG (scA gr nw sp sq sec rt stt ns np) ne msco) (upG (tiA nw sp sq sec rt stt ns np) ne mtim)) H locs := hW
  refine N_if_eq_B hx hb  (tgt := 38) d_Model_shared_14 (by decide) (fun c14 => ?_) (fun c14 => ?_)
  · refine lv_iconst (v := (nI 0)) hx hb d_Model_shared_38 (by decide +kernel) ?_
    exact R_zret X Y hW rfl false (by decide +kernel) rfl d_Model_shared_39
  · refine lv_aload_n hx hb d_Model_shared_17 rfl (lv_at hl 0 rfl) ?_
    refine lv_iload_n hx hb d_Model_shared_18 rfl (lv_at hl 2 rfl) ?_
    refine R_callV (q0 := 0) (m_isPerson l G cI cZ cJ hm 0 np ne ns tl mbd gr stt sp sq sec ans rt nw mtd un mss msc mip mcb (upG (scA gr nw sp sq sec rt stt ns np) ne msco) (upG (tiA nw sp sq sec rt stt ns np) ne mtim) y (by omega)) X rfl hW cw_Model_93 ki_Model_isPerson ks_Model_isPerson rfl rfl ⟨rfl, rfl⟩ ⟨by decide, by decide⟩ ⟨Nat.zero_le _, Nat.zero_le _⟩ [true, true, true, true, true, true, true, true, true, true, true, true, true, true, true, true, true] rfl (Nat.le_of_ble_eq_true rfl) rfl rfl hl.1 rfl rfl (Nat.le_of_ble_eq_true rfl) d_Model_shared_19 rfl (fun H locs hW => ?_)
    have hW : Wr G A s.heap (w_M hm cI cZ cJ 0 np ne ns tl mbd gr stt sp sq sec ans rt nw mtd un mss msc mip mcb (upG (scA gr nw sp sq sec rt stt ns np) ne msco) (upG (tiA nw sp sq sec rt stt ns np) ne mtim)) H locs := hW
    refine N_if_eq_B hx hb  (tgt := 38) d_Model_shared_22 (by decide) (fun c22 => ?_) (fun c22 => ?_)
    · refine lv_iconst (v := (nI 0)) hx hb d_Model_shared_38 (by decide +kernel) ?_
      exact R_zret X Y hW rfl false (by decide +kernel) rfl d_Model_shared_39
    · exact absurd ⟨c14, c22⟩ hbad

set_option maxHeartbeats 4000000 in
set_option maxRecDepth 100000 in
theorem m_shared_ok (l : Launch) (G : va_G) (cI cZ cJ : ClassId) (hm : Nat → Nat) (mth : Nat) (np : Nat) (ne : Nat) (ns : Nat) (tl : Nat) (mbd : Option Nat) (gr : Nat → Nat) (stt : Nat → Option Nat) (sp : Nat → Nat) (sq : Nat → Nat) (sec : Nat → Nat) (ans : Nat → Nat) (rt : Nat → Bool) (nw : Nat → Nat) (mtd : Nat → Nat) (un : Nat → Nat) (mss : Nat → Nat) (msc : Nat → Nat) (mip : Nat → Bool) (mcb : Nat → Bool) (msco : Nat → Nat) (mtim : Nat → Nat) (x : Nat) (y : Nat) (hx0 : x < ne) (hy0 : y < ne) (hI : IS np ne ns gr nw sp sq sec (fun i => i) ans stt) (hsc : ∀ i, i < 20 → upG (scA gr nw sp sq sec rt stt ns np) ne msco i < 2 ^ 63) (htm : ∀ i, i < 20 → upG (tiA nw sp sq sec rt stt ns np) ne mtim i < 2 ^ 63) : Ct l G (tyL cI cZ cJ) y_Model_shared b_Model_shared 3 (some .boolean) (rmL 6) [.ref (hm 0), .int (nI x), .int (nI y)] (w_M hm cI cZ cJ mth np ne ns tl mbd gr stt sp sq sec ans rt nw mtd un mss msc mip mcb msco mtim) (some (.int (bI (alk (upG (scA gr nw sp sq sec rt stt ns np) ne msco) (upG (tiA nw sp sq sec rt stt ns np) ne mtim) (decide (nw 4 = 1)) x y)))) (w_M hm cI cZ cJ 0 np ne ns tl mbd gr stt sp sq sec ans rt nw mtd un mss msc mip mcb (upG (scA gr nw sp sq sec rt stt ns np) ne msco) (upG (tiA nw sp sq sec rt stt ns np) ne mtim)) := by
  refine M_start (by decide) (Nat.le_of_ble_eq_true rfl) ?_
  intro p e s m args below meth c A Q ls X Y hW hl
  have hx := X.1.1
  have hb := X.1.2.1
  have hl : lv_has ls 3 [(0, .ref (hm 0)), (1, .int (nI x)), (2, .int (nI y))] := hl
  obtain ⟨z1, z2, z3, z4, z5, z6, z7, z8, z9, z10, z11, z12, z13⟩ := id hI
  refine lv_aload_n hx hb d_Model_shared_0 rfl (lv_at hl 0 rfl) ?_
  refine lv_iconst (v := (nI 0)) hx hb d_Model_shared_1 (by decide +kernel) ?_
  refine R_put X hW i_Model rfl t_Model t_Model_ok n_Model 0 (by decide) kf_Model_60 rfl (ty := .int) (by decide +kernel) 0 rfl (v := .int (nI 0)) rfl rfl (Nat.le_of_ble_eq_true rfl) d_Model_shared_2 (fun H locs hW => ?_)
  have hW : Wr G A s.heap (w_M hm cI cZ cJ 0 np ne ns tl mbd gr stt sp sq sec ans rt nw mtd un mss msc mip mcb msco mtim) H locs := hW
  refine lv_aload_n hx hb d_Model_shared_5 rfl (lv_at hl 0 rfl) ?_
  refine R_callV (q0 := 0) (m_reckon l G cI cZ cJ hm 0 np ne ns tl mbd gr stt sp sq sec ans rt nw mtd un mss msc mip mcb msco mtim hI) X rfl hW cw_Model_137 ki_Model_reckon ks_Model_reckon rfl rfl ⟨rfl, rfl⟩ ⟨by decide, by decide⟩ ⟨Nat.zero_le _, Nat.zero_le _⟩ [true, true, true, true, true, true, true, true, true, true, true, true, true, true, true, true, true] rfl (Nat.le_of_ble_eq_true rfl) rfl rfl hl.1 rfl rfl (Nat.le_of_ble_eq_true rfl) d_Model_shared_6 rfl (fun H locs hW => ?_)
  have hW : Wr G A s.heap (w_M hm cI cZ cJ 0 np ne ns tl mbd gr stt sp sq sec ans rt nw mtd un mss msc mip mcb (upG (scA gr nw sp sq sec rt stt ns np) ne msco) (upG (tiA nw sp sq sec rt stt ns np) ne mtim)) H locs := hW
  refine lv_aload_n hx hb d_Model_shared_9 rfl (lv_at hl 0 rfl) ?_
  refine lv_iload_n hx hb d_Model_shared_10 rfl (lv_at hl 1 rfl) ?_
  refine R_callV (q0 := 0) (m_isPerson l G cI cZ cJ hm 0 np ne ns tl mbd gr stt sp sq sec ans rt nw mtd un mss msc mip mcb (upG (scA gr nw sp sq sec rt stt ns np) ne msco) (upG (tiA nw sp sq sec rt stt ns np) ne mtim) (nI x) (by omega)) X rfl hW cw_Model_93 ki_Model_isPerson ks_Model_isPerson rfl rfl ⟨rfl, rfl⟩ ⟨by decide, by decide⟩ ⟨Nat.zero_le _, Nat.zero_le _⟩ [true, true, true, true, true, true, true, true, true, true, true, true, true, true, true, true, true] rfl (Nat.le_of_ble_eq_true rfl) rfl rfl hl.1 rfl rfl (Nat.le_of_ble_eq_true rfl) d_Model_shared_11 rfl (fun H locs hW => ?_)
  have hW : Wr G A s.heap (w_M hm cI cZ cJ 0 np ne ns tl mbd gr stt sp sq sec ans rt nw mtd un mss msc mip mcb (upG (scA gr nw sp sq sec rt stt ns np) ne msco) (upG (tiA nw sp sq sec rt stt ns np) ne mtim)) H locs := hW
  refine N_if_eq_B hx hb  (tgt := 38) d_Model_shared_14 (by decide) (fun c14 => ?_) (fun c14 => ?_)
  · exfalso; rw [inB_nI (by omega) (by omega)] at c14; cases c14
  · refine lv_aload_n hx hb d_Model_shared_17 rfl (lv_at hl 0 rfl) ?_
    refine lv_iload_n hx hb d_Model_shared_18 rfl (lv_at hl 2 rfl) ?_
    refine R_callV (q0 := 0) (m_isPerson l G cI cZ cJ hm 0 np ne ns tl mbd gr stt sp sq sec ans rt nw mtd un mss msc mip mcb (upG (scA gr nw sp sq sec rt stt ns np) ne msco) (upG (tiA nw sp sq sec rt stt ns np) ne mtim) (nI y) (by omega)) X rfl hW cw_Model_93 ki_Model_isPerson ks_Model_isPerson rfl rfl ⟨rfl, rfl⟩ ⟨by decide, by decide⟩ ⟨Nat.zero_le _, Nat.zero_le _⟩ [true, true, true, true, true, true, true, true, true, true, true, true, true, true, true, true, true] rfl (Nat.le_of_ble_eq_true rfl) rfl rfl hl.1 rfl rfl (Nat.le_of_ble_eq_true rfl) d_Model_shared_19 rfl (fun H locs hW => ?_)
    have hW : Wr G A s.heap (w_M hm cI cZ cJ 0 np ne ns tl mbd gr stt sp sq sec ans rt nw mtd un mss msc mip mcb (upG (scA gr nw sp sq sec rt stt ns np) ne msco) (upG (tiA nw sp sq sec rt stt ns np) ne mtim)) H locs := hW
    refine N_if_eq_B hx hb  (tgt := 38) d_Model_shared_22 (by decide) (fun c22 => ?_) (fun c22 => ?_)
    · exfalso; rw [inB_nI (by omega) (by omega)] at c22; cases c22
    · refine lv_aload_n hx hb d_Model_shared_25 rfl (lv_at hl 0 rfl) ?_
      refine lv_iload_n hx hb d_Model_shared_26 rfl (lv_at hl 1 rfl) ?_
      refine lv_iload_n hx hb d_Model_shared_27 rfl (lv_at hl 2 rfl) ?_
      refine R_callV (q0 := 0) (m_isAlike l G cI cZ cJ hm 0 np ne ns tl mbd gr stt sp sq sec ans rt nw mtd un mss msc mip mcb (upG (scA gr nw sp sq sec rt stt ns np) ne msco) (upG (tiA nw sp sq sec rt stt ns np) ne mtim) x y (by omega) (by omega) z5 hsc htm) X rfl hW cw_Model_140 ki_Model_isAlike ks_Model_isAlike rfl rfl ⟨rfl, rfl⟩ ⟨by decide, by decide⟩ ⟨Nat.zero_le _, Nat.zero_le _⟩ [true, true, true, true, true, true, true, true, true, true, true, true, true, true, true, true, true] rfl (Nat.le_of_ble_eq_true rfl) rfl rfl hl.1 rfl rfl (Nat.le_of_ble_eq_true rfl) d_Model_shared_28 rfl (fun H locs hW => ?_)
      have hW : Wr G A s.heap (w_M hm cI cZ cJ 0 np ne ns tl mbd gr stt sp sq sec ans rt nw mtd un mss msc mip mcb (upG (scA gr nw sp sq sec rt stt ns np) ne msco) (upG (tiA nw sp sq sec rt stt ns np) ne mtim)) H locs := hW
      refine N_if_eq_B hx hb  (tgt := 38) d_Model_shared_31 (by decide) (fun c31 => ?_) (fun c31 => ?_)
      · refine lv_iconst (v := (nI 0)) hx hb d_Model_shared_38 (by decide +kernel) ?_
        exact R_zret X Y hW rfl false (by decide +kernel) (by rw [c31]) d_Model_shared_39
      · refine lv_iconst (v := (nI 1)) hx hb d_Model_shared_34 (by decide +kernel) ?_
        refine lv_goto (tgt := 39) hx hb d_Model_shared_35 (by decide) ?_
        exact R_zret X Y hW rfl true (by decide +kernel) (by rw [c31]) d_Model_shared_39
