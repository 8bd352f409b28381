theorem kf_Top_26 : Cond.fieldLink "ContestRows" 26 "ContestRows" "submissions" "LContestRows$Submissions;" ∈ TBL := TBL_t (List.mem_append_left _ (List.mem_of_getElem? (i := 144) rfl)) rfl
theorem kf_Top_159 : Cond.fieldLink "ContestRows" 159 "ContestRows$Submissions" "seconds" "[I" ∈ TBL := TBL_t (List.mem_append_left _ (List.mem_of_getElem? (i := 93) rfl)) rfl
theorem kf_Top_19 : Cond.fieldLink "ContestRows" 19 "ContestRows" "persons" "LContestRows$Persons;" ∈ TBL := TBL_t (List.mem_append_left _ (List.mem_of_getElem? (i := 143) rfl)) rfl
theorem kf_Top_84 : Cond.fieldLink "ContestRows" 84 "ContestRows$Persons" "starts" "[I" ∈ TBL := TBL_t (List.mem_append_left _ (List.mem_of_getElem? (i := 61) rfl)) rfl
theorem kf_Top_142 : Cond.fieldLink "ContestRows" 142 "ContestRows$Submissions" "persons" "[I" ∈ TBL := TBL_t (List.mem_append_left _ (List.mem_of_getElem? (i := 89) rfl)) rfl
set_option maxHeartbeats 4000000 in
set_option maxRecDepth 100000 in
theorem c_Top_secondsFromStart (l : Launch) (G : va_G) (cI cZ cJ : ClassId) (h : Nat → Nat) (wr : Nat → Nat) (se : Nat → Bool) (ga : Nat → Option Nat) (tw : Nat → Option Nat) (np : Nat) (tot : Nat) (gr : Nat → Nat) (fa : Nat → Nat) (re : Nat → Bool) (ss : Nat → Nat) (sc : Nat → Nat) (ne : Nat) (stt : Nat → Option Nat) (sco : Nat → Nat) (tim : Nat → Nat) (cnt : Nat → Nat) (ns : Nat) (sp : Nat → Nat) (sq : Nat → Nat) (sec : Nat → Nat) (rt : Nat → Bool) (it : Nat → Nat) (ans : Nat → Nat) (tl : Nat) (un : Nat → Nat) (nw : Nat → Nat) (td : Nat → Nat) (b : Nat) (s0 : Nat) (hb0 : b < 300) (hsp : sp b < 20) (hs0 : stt (sp b) = some s0) (hle : s0 ≤ sec b) : Ct l G (tyL cI cZ cJ) y_Top_secondsFromStart b_Top_secondsFromStart 2 (some .int) (rmL 0) [.ref (h 0), .int (nI b)] (w_All h cI cZ cJ wr se ga tw np tot gr fa re ss sc ne stt sco tim cnt ns sp sq sec rt it ans tl un nw td) (some (.int (nI (sec b - s0)))) (w_All h cI cZ cJ wr se ga tw np tot gr fa re ss sc ne stt sco tim cnt ns sp sq sec rt it ans tl un nw td) := by
  refine M_start (by decide) (Nat.le_of_ble_eq_true rfl) ?_
  intro p e s m args below meth c A Q ls X Y hW hl
  have hx := X.1.1
  have hb := X.1.2.1
  have hl : lv_has ls 2 [(0, .ref (h 0)), (1, .int (nI b))] := hl
  refine lv_aload_n hx hb d_Top_secondsFromStart_0 rfl (lv_at hl 0 rfl) ?_
  refine R_get X hW i_Top rfl 2 (by decide) kf_Top_26 0 rfl rfl d_Top_secondsFromStart_1 ?_
  refine R_get X hW i_Submissions rfl 2 (by decide) kf_Top_159 16 rfl rfl d_Top_secondsFromStart_4 ?_
  refine lv_iload_n hx hb d_Top_secondsFromStart_7 rfl (lv_at hl 1 rfl) ?_
  refine R_iald X hW (t0 := 0) rfl 19 rfl (k := b) (by omega) (by decide) d_Top_secondsFromStart_8 ?_
  refine lv_aload_n hx hb d_Top_secondsFromStart_9 rfl (lv_at hl 0 rfl) ?_
  refine R_get X hW i_Top rfl 1 (by decide) kf_Top_19 0 rfl rfl d_Top_secondsFromStart_10 ?_
  refine R_get X hW i_Persons rfl 0 (by decide) kf_Top_84 11 rfl rfl d_Top_secondsFromStart_13 ?_
  refine lv_aload_n hx hb d_Top_secondsFromStart_16 rfl (lv_at hl 0 rfl) ?_
  refine R_get X hW i_Top rfl 2 (by decide) kf_Top_26 0 rfl rfl d_Top_secondsFromStart_17 ?_
  refine R_get X hW i_Submissions rfl 0 (by decide) kf_Top_142 16 rfl rfl d_Top_secondsFromStart_20 ?_
  refine lv_iload_n hx hb d_Top_secondsFromStart_23 rfl (lv_at hl 1 rfl) ?_
  refine R_iald X hW (t0 := 0) rfl 17 rfl (k := b) (by omega) (by decide) d_Top_secondsFromStart_24 ?_
  refine R_iald X hW (t0 := 0) rfl 12 rfl (k := (sp b)) (by omega) (by decide) d_Top_secondsFromStart_25 ?_
  refine W.eq (g2 := F0 m 26 ls (.int (nI s0) :: .int (nI (sec b)) :: [])) (by rw [hs0]; first | done | rfl) ?_
  refine N_isub (r := (sec b) - s0) hx hb (by omega) (by omega) d_Top_secondsFromStart_26 ?_
  exact R_iret X Y hW rfl rfl d_Top_secondsFromStart_27

theorem kf_Top_172 : Cond.fieldLink "ContestRows" 172 "ContestRows$Submissions" "puzzles" "[I" ∈ TBL := TBL_t (List.mem_append_left _ (List.mem_of_getElem? (i := 91) rfl)) rfl
theorem kf_Top_48 : Cond.fieldLink "ContestRows" 48 "ContestRows" "settled" "[Z" ∈ TBL := TBL_t (List.mem_append_left _ (List.mem_of_getElem? (i := 148) rfl)) rfl
theorem kf_Top_92 : Cond.fieldLink "ContestRows" 92 "ContestRows$Submissions" "rights" "[Z" ∈ TBL := TBL_t (List.mem_append_left _ (List.mem_of_getElem? (i := 95) rfl)) rfl
theorem kb_Top_secondsFromStart : Cond.code y_Top_secondsFromStart b_Top_secondsFromStart 2 (some .int) ∈ TBL := TBL_t (List.mem_append_right _ (List.mem_append_left _ (List.mem_of_getElem? (i := 132) rfl))) rfl
theorem kn_Top : Cond.initialized "ContestRows" ∈ TBL := TBL_t (List.mem_append_left _ (List.mem_of_getElem? (i := 1) rfl)) rfl
theorem km_Top_95 : Cond.methodLink "ContestRows" 95 y_Top_secondsFromStart ∈ TBL := TBL_t (List.mem_append_right _ (List.mem_append_left _ (List.mem_of_getElem? (i := 129) rfl))) rfl
theorem cw_Top_95 : Cw "ContestRows" 95 y_Top_secondsFromStart b_Top_secondsFromStart 2 (some .int) 1 := ⟨kb_Top_secondsFromStart, kn_Top, km_Top_95, by decide +kernel⟩
theorem ki_Top_secondsFromStart : Cond.instanceMethod y_Top_secondsFromStart ∈ TBL := TBL_t (List.mem_append_right _ (List.mem_append_left _ (List.mem_of_getElem? (i := 131) rfl))) rfl
theorem ks_Top_secondsFromStart : Cond.selects "ContestRows" y_Top_secondsFromStart y_Top_secondsFromStart ∈ TBL := TBL_in (List.mem_append_left _ (List.mem_map.mpr ⟨(y_Top_secondsFromStart, 9), by decide +kernel, rfl⟩)) rfl
theorem kf_Top_40 : Cond.fieldLink "ContestRows" 40 "ContestRows" "inForce" "LContestRows$Rules;" ∈ TBL := TBL_t (List.mem_append_left _ (List.mem_of_getElem? (i := 146) rfl)) rfl
theorem kb_Rules_isLate : Cond.code y_Rules_isLate b_Rules_isLate 2 (some .boolean) ∈ TBL := TBL_t (List.mem_append_right _ (List.mem_append_left _ (List.mem_of_getElem? (i := 136) rfl))) rfl
theorem kn_Rules : Cond.initialized "ContestRows$Rules" ∈ TBL := TBL_t (List.mem_append_left _ (List.mem_of_getElem? (i := 6) rfl)) rfl
theorem km_Top_98 : Cond.methodLink "ContestRows" 98 y_Rules_isLate ∈ TBL := TBL_t (List.mem_append_right _ (List.mem_append_left _ (List.mem_of_getElem? (i := 133) rfl))) rfl
theorem cw_Top_98 : Cw "ContestRows" 98 y_Rules_isLate b_Rules_isLate 2 (some .boolean) 1 := ⟨kb_Rules_isLate, kn_Rules, km_Top_98, by decide +kernel⟩
theorem ki_Rules_isLate : Cond.instanceMethod y_Rules_isLate ∈ TBL := TBL_t (List.mem_append_right _ (List.mem_append_left _ (List.mem_of_getElem? (i := 134) rfl))) rfl
theorem ks_Rules_isLate : Cond.selects "ContestRows$Rules" y_Rules_isLate y_Rules_isLate ∈ TBL := TBL_t (List.mem_append_right _ (List.mem_append_left _ (List.mem_of_getElem? (i := 135) rfl))) rfl
theorem kf_Top_52 : Cond.fieldLink "ContestRows" 52 "ContestRows" "gained" "[J" ∈ TBL := TBL_t (List.mem_append_left _ (List.mem_of_getElem? (i := 149) rfl)) rfl
theorem kf_Top_10 : Cond.fieldLink "ContestRows" 10 "ContestRows" "puzzles" "LContestRows$Puzzles;" ∈ TBL := TBL_t (List.mem_append_left _ (List.mem_of_getElem? (i := 142) rfl)) rfl
theorem kf_Top_174 : Cond.fieldLink "ContestRows" 174 "ContestRows$Puzzles" "grades" "[I" ∈ TBL := TBL_t (List.mem_append_left _ (List.mem_of_getElem? (i := 30) rfl)) rfl
theorem kf_Top_44 : Cond.fieldLink "ContestRows" 44 "ContestRows" "wrongs" "[I" ∈ TBL := TBL_t (List.mem_append_left _ (List.mem_of_getElem? (i := 147) rfl)) rfl
theorem kb_Rules_worth : Cond.code y_Rules_worth b_Rules_worth 10 (some .long) ∈ TBL := TBL_t (List.mem_append_right _ (List.mem_append_left _ (List.mem_of_getElem? (i := 161) rfl))) rfl
theorem km_Top_177 : Cond.methodLink "ContestRows" 177 y_Rules_worth ∈ TBL := TBL_t (List.mem_append_right _ (List.mem_append_left _ (List.mem_of_getElem? (i := 158) rfl))) rfl
theorem cw_Top_177 : Cw "ContestRows" 177 y_Rules_worth b_Rules_worth 10 (some .long) 3 := ⟨kb_Rules_worth, kn_Rules, km_Top_177, by decide +kernel⟩
theorem ki_Rules_worth : Cond.instanceMethod y_Rules_worth ∈ TBL := TBL_t (List.mem_append_right _ (List.mem_append_left _ (List.mem_of_getElem? (i := 159) rfl))) rfl
theorem ks_Rules_worth : Cond.selects "ContestRows$Rules" y_Rules_worth y_Rules_worth ∈ TBL := TBL_t (List.mem_append_right _ (List.mem_append_left _ (List.mem_of_getElem? (i := 160) rfl))) rfl
theorem kb_Persons_addToSums : Cond.code y_Persons_addToSums b_Persons_addToSums 5 none ∈ TBL := TBL_t (List.mem_append_right _ (List.mem_append_left _ (List.mem_of_getElem? (i := 168) rfl))) rfl
theorem km_Top_181 : Cond.methodLink "ContestRows" 181 y_Persons_addToSums ∈ TBL := TBL_t (List.mem_append_right _ (List.mem_append_left _ (List.mem_of_getElem? (i := 165) rfl))) rfl
theorem cw_Top_181 : Cw "ContestRows" 181 y_Persons_addToSums b_Persons_addToSums 5 none 3 := ⟨kb_Persons_addToSums, kn_Persons, km_Top_181, by decide +kernel⟩
theorem ki_Persons_addToSums : Cond.instanceMethod y_Persons_addToSums ∈ TBL := TBL_t (List.mem_append_right _ (List.mem_append_left _ (List.mem_of_getElem? (i := 166) rfl))) rfl
theorem ks_Persons_addToSums : Cond.selects "ContestRows$Persons" y_Persons_addToSums y_Persons_addToSums ∈ TBL := TBL_t (List.mem_append_right _ (List.mem_append_left _ (List.mem_of_getElem? (i := 167) rfl))) rfl
set_option maxHeartbeats 4000000 in
set_option maxRecDepth 100000 in
theorem c_Top_take (l : Launch) (G : va_G) (cI cZ cJ : ClassId) (h : Nat → Nat) (wr : Nat → Nat) (se : Nat → Bool) (ga : Nat → Option Nat) (tw : Nat → Option Nat) (np : Nat) (tot : Nat) (gr : Nat → Nat) (fa : Nat → Nat) (re : Nat → Bool) (ss : Nat → Nat) (sc : Nat → Nat) (ne : Nat) (stt : Nat → Option Nat) (sco : Nat → Nat) (tim : Nat → Nat) (cnt : Nat → Nat) (ns : Nat) (sp : Nat → Nat) (sq : Nat → Nat) (sec : Nat → Nat) (rt : Nat → Bool) (it : Nat → Nat) (ans : Nat → Nat) (tl : Nat) (un : Nat → Nat) (nw : Nat → Nat) (td : Nat → Nat) (x : Nat) (b : Nat) (s0 : Nat) (hx0 : x < 20) (hb0 : b < 300) (hsp : sp b < 20) (hsq : sq b < 20) (hs0 : stt (sp b) = some s0) (hle : s0 ≤ sec b) (hse : sec b ≤ 1000000) (hgr : gr (sq b) ≤ 100) (hnw : ∀ i, i < 5 → nw i ≤ 9999) (hwr : wr (sq b) ≤ 300) : Ct l G (tyL cI cZ cJ) y_Top_take b_Top_take 5 none (rmL 2) [.ref (h 0), .int (nI x), .int (nI b)] (w_All h cI cZ cJ wr se ga tw np tot gr fa re ss sc ne stt sco tim cnt ns sp sq sec rt it ans tl un nw td) none (w_All h cI cZ cJ ((tkF gr nw sp sq sec rt stt x b (wr, se, ga, sco, tim, cnt)).1) ((tkF gr nw sp sq sec rt stt x b (wr, se, ga, sco, tim, cnt)).2.1) ((tkF gr nw sp sq sec rt stt x b (wr, se, ga, sco, tim, cnt)).2.2.1) tw np tot gr fa re ss sc ne stt ((tkF gr nw sp sq sec rt stt x b (wr, se, ga, sco, tim, cnt)).2.2.2.1) ((tkF gr nw sp sq sec rt stt x b (wr, se, ga, sco, tim, cnt)).2.2.2.2.1) ((tkF gr nw sp sq sec rt stt x b (wr, se, ga, sco, tim, cnt)).2.2.2.2.2) ns sp sq sec rt it ans tl un nw td) := by
  refine M_start (by decide) (Nat.le_of_ble_eq_true rfl) ?_
  intro p e s m args below meth c A Q ls X Y hW hl
  have hx := X.1.1
  have hb := X.1.2.1
  have hl : lv_has ls 5 [(0, .ref (h 0)), (1, .int (nI x)), (2, .int (nI b))] := hl
  have hsf : sfs sec sp stt b = sec b - s0 := by simp [sfs, hs0]
  refine lv_aload_n hx hb d_Top_take_0 rfl (lv_at hl 0 rfl) ?_
  refine R_get X hW i_Top rfl 2 (by decide) kf_Top_26 0 rfl rfl d_Top_take_1 ?_
  refine R_get X hW i_Submissions rfl 1 (by decide) kf_Top_172 16 rfl rfl d_Top_take_4 ?_
  refine lv_iload_n hx hb d_Top_take_7 rfl (lv_at hl 2 rfl) ?_
  refine R_iald X hW (t0 := 0) rfl 18 rfl (k := b) (by omega) (by decide) d_Top_take_8 ?_
  refine lv_istore_n (lv' := [(3, .int (nI (sq b))), (0, .ref (h 0)), (1, .int (nI x)), (2, .int (nI b))]) hx hb d_Top_take_9 rfl hl (by decide) rfl (fun ls hl => ?_)
  refine lv_aload_n hx hb d_Top_take_10 rfl (lv_at hl 1 rfl) ?_
  refine R_get X hW i_Top rfl 6 (by decide) kf_Top_48 0 rfl rfl d_Top_take_11 ?_
  refine lv_iload_n hx hb d_Top_take_14 rfl (lv_at hl 0 rfl) ?_
  refine R_zald X hW (t0 := 1) rfl 2 rfl (k := (sq b)) (by omega) (by decide) d_Top_take_15 ?_
  refine N_if_eq_B hx hb  (tgt := 20) d_Top_take_16 (by decide) (fun c16 => ?_) (fun c16 => ?_)
  · refine lv_aload_n hx hb d_Top_take_20 rfl (lv_at hl 1 rfl) ?_
    refine R_get X hW i_Top rfl 2 (by decide) kf_Top_26 0 rfl rfl d_Top_take_21 ?_
    refine R_get X hW i_Submissions rfl 3 (by decide) kf_Top_92 16 rfl rfl d_Top_take_24 ?_
    refine lv_iload_n hx hb d_Top_take_27 rfl (lv_at hl 3 rfl) ?_
    refine R_zald X hW (t0 := 1) rfl 20 rfl (k := b) (by omega) (by decide) d_Top_take_28 ?_
    refine N_if_ne_B hx hb  (tgt := 43) d_Top_take_29 (by decide) (fun c29 => ?_) (fun c29 => ?_)
    · refine lv_aload_n hx hb d_Top_take_43 rfl (lv_at hl 1 rfl) ?_
      refine R_get X hW i_Top rfl 6 (by decide) kf_Top_48 0 rfl rfl d_Top_take_44 ?_
      refine lv_iload_n hx hb d_Top_take_47 rfl (lv_at hl 0 rfl) ?_
      refine lv_iconst (v := (nI 1)) hx hb d_Top_take_48 (by decide +kernel) ?_
      refine R_zast X hW (t0 := 1) rfl 2 rfl (k := (sq b)) (by omega) (by decide) true (by decide +kernel) d_Top_take_49 (fun H locs hW => ?_)
      have hW : Wr G A s.heap (w_All h cI cZ cJ wr (va_up se (sq b) true) ga tw np tot gr fa re ss sc ne stt sco tim cnt ns sp sq sec rt it ans tl un nw td) H locs := hW
      refine lv_aload_n hx hb d_Top_take_50 rfl (lv_at hl 1 rfl) ?_
      refine lv_iload_n hx hb d_Top_take_51 rfl (lv_at hl 3 rfl) ?_
      refine R_callV (q0 := 0) (c_Top_secondsFromStart l G cI cZ cJ h wr (va_up se (sq b) true) ga tw np tot gr fa re ss sc ne stt sco tim cnt ns sp sq sec rt it ans tl un nw td b s0 hb0 hsp hs0 hle) X rfl hW cw_Top_95 ki_Top_secondsFromStart ks_Top_secondsFromStart rfl rfl ⟨rfl, rfl⟩ ⟨by decide, by decide⟩ ⟨Nat.zero_le _, Nat.zero_le _⟩ [true, true, true, true, true, true, true, true, true, true, true, true, true, true, true, true, true, true, true, true, true, true, true, true, true, true, true, true] rfl (Nat.le_of_ble_eq_true rfl) rfl rfl hl.1 rfl rfl (Nat.le_of_ble_eq_true rfl) d_Top_take_52 rfl (fun H locs hW => ?_)
      have hW : Wr G A s.heap (w_All h cI cZ cJ wr (va_up se (sq b) true) ga tw np tot gr fa re ss sc ne stt sco tim cnt ns sp sq sec rt it ans tl un nw td) H locs := hW
      refine lv_istore (lv' := [(4, .int (nI (sec b - s0))), (3, .int (nI (sq b))), (0, .ref (h 0)), (1, .int (nI x)), (2, .int (nI b))]) hx hb d_Top_take_55 hl (by decide) rfl (fun ls hl => ?_)
      refine lv_aload_n hx hb d_Top_take_57 rfl (lv_at hl 2 rfl) ?_
      refine R_get X hW i_Top rfl 4 (by decide) kf_Top_40 0 rfl rfl d_Top_take_58 ?_
      refine lv_iload hx hb d_Top_take_61 (lv_at hl 0 rfl) ?_
      refine R_callV (q0 := 25) (c_Rules_isLate l G cI cZ cJ h nw td (sec b - s0) (by omega) hnw) X rfl hW cw_Top_98 ki_Rules_isLate ks_Rules_isLate rfl rfl ⟨rfl, rfl⟩ ⟨by decide, by decide⟩ ⟨Nat.zero_le _, Nat.zero_le _⟩ [false, false, false, false, false, false, false, false, false, false, false, false, false, false, false, false, false, false, false, false, false, false, false, false, false, true, true, true] rfl (Nat.le_of_ble_eq_true rfl) rfl rfl hl.1 rfl rfl (Nat.le_of_ble_eq_true rfl) d_Top_take_63 rfl (fun H locs hW => ?_)
      have hW : Wr G A s.heap (w_All h cI cZ cJ wr (va_up se (sq b) true) ga tw np tot gr fa re ss sc ne stt sco tim cnt ns sp sq sec rt it ans tl un nw td) H locs := hW
      refine N_if_eq_B hx hb  (tgt := 70) d_Top_take_66 (by decide) (fun c66 => ?_) (fun c66 => ?_)
      · refine lv_aload_n hx hb d_Top_take_70 rfl (lv_at hl 2 rfl) ?_
        refine R_get X hW i_Top rfl 7 (by decide) kf_Top_52 0 rfl rfl d_Top_take_71 ?_
        refine lv_iload_n hx hb d_Top_take_74 rfl (lv_at hl 1 rfl) ?_
        refine lv_aload_n hx hb d_Top_take_75 rfl (lv_at hl 2 rfl) ?_
        refine R_get X hW i_Top rfl 4 (by decide) kf_Top_40 0 rfl rfl d_Top_take_76 ?_
        refine lv_aload_n hx hb d_Top_take_79 rfl (lv_at hl 2 rfl) ?_
        refine R_get X hW i_Top rfl 0 (by decide) kf_Top_10 0 rfl rfl d_Top_take_80 ?_
        refine R_get X hW i_Puzzles rfl 0 (by decide) kf_Top_174 5 rfl rfl d_Top_take_83 ?_
        refine lv_iload_n hx hb d_Top_take_86 rfl (lv_at hl 1 rfl) ?_
        refine R_iald X hW (t0 := 0) rfl 6 rfl (k := (sq b)) (by omega) (by decide) d_Top_take_87 ?_
        refine lv_iload hx hb d_Top_take_88 (lv_at hl 0 rfl) ?_
        refine lv_aload_n hx hb d_Top_take_90 rfl (lv_at hl 2 rfl) ?_
        refine R_get X hW i_Top rfl 5 (by decide) kf_Top_44 0 rfl rfl d_Top_take_91 ?_
        refine lv_iload_n hx hb d_Top_take_94 rfl (lv_at hl 1 rfl) ?_
        refine R_iald X hW (t0 := 0) rfl 1 rfl (k := (sq b)) (by omega) (by decide) d_Top_take_95 ?_
        refine R_callV (q0 := 25) (c_Rules_worth l G cI cZ cJ h nw td (gr (sq b)) (sec b - s0) (wr (sq b)) hgr (by omega) hwr hnw) X rfl hW cw_Top_177 ki_Rules_worth ks_Rules_worth rfl rfl ⟨rfl, rfl⟩ ⟨by decide, by decide⟩ ⟨Nat.zero_le _, Nat.zero_le _⟩ [false, false, false, false, false, false, false, false, false, false, false, false, false, false, false, false, false, false, false, false, false, false, false, false, false, true, true, true] rfl (Nat.le_of_ble_eq_true rfl) rfl rfl hl.1 rfl rfl (Nat.le_of_ble_eq_true rfl) d_Top_take_96 rfl (fun H locs hW => ?_)
        have hW : Wr G A s.heap (w_All h cI cZ cJ wr (va_up se (sq b) true) ga tw np tot gr fa re ss sc ne stt sco tim cnt ns sp sq sec rt it ans tl un nw td) H locs := hW
        refine R_last X hW (t0 := 2) rfl 3 rfl (k := (sq b)) (by omega) (by decide) (some (wth nw (gr (sq b)) (sec b - s0) (wr (sq b)))) rfl d_Top_take_99 (fun H locs hW => ?_)
        have hW : Wr G A s.heap (w_All h cI cZ cJ wr (va_up se (sq b) true) (va_up ga (sq b) (some (wth nw (gr (sq b)) (sec b - s0) (wr (sq b))))) tw np tot gr fa re ss sc ne stt sco tim cnt ns sp sq sec rt it ans tl un nw td) H locs := hW
        refine lv_aload_n hx hb d_Top_take_100 rfl (lv_at hl 2 rfl) ?_
        refine R_get X hW i_Top rfl 1 (by decide) kf_Top_19 0 rfl rfl d_Top_take_101 ?_
        refine lv_iload_n hx hb d_Top_take_104 rfl (lv_at hl 3 rfl) ?_
        refine lv_aload_n hx hb d_Top_take_105 rfl (lv_at hl 2 rfl) ?_
        refine R_get X hW i_Top rfl 7 (by decide) kf_Top_52 0 rfl rfl d_Top_take_106 ?_
        refine lv_iload_n hx hb d_Top_take_109 rfl (lv_at hl 1 rfl) ?_
        refine R_lald X hW (t0 := 2) rfl 3 rfl (k := (sq b)) (by omega) (by decide) d_Top_take_110 ?_
        refine W.eq (g2 := F0 m 111 ls (.long (lN (wth nw (gr (sq b)) (sec b - s0) (wr (sq b)))) :: .int (nI x) :: .ref (h 11) :: [])) (by rw [va_up_self]; first | done | rfl) ?_
        refine lv_iload hx hb d_Top_take_111 (lv_at hl 0 rfl) ?_
        refine R_callV (q0 := 11) (c_Persons_addToSums l G cI cZ cJ h ne stt sco tim cnt x (wth nw (gr (sq b)) (sec b - s0) (wr (sq b))) (sec b - s0) hx0 (by omega)) X rfl hW cw_Top_181 ki_Persons_addToSums ks_Persons_addToSums rfl rfl ⟨rfl, rfl⟩ ⟨by decide, by decide⟩ ⟨Nat.zero_le _, Nat.zero_le _⟩ [false, false, false, false, false, false, false, false, false, false, false, true, true, true, true, true, false, false, false, false, false, false, false, false, false, false, false, false] rfl (Nat.le_of_ble_eq_true rfl) rfl rfl hl.1 rfl rfl (Nat.le_of_ble_eq_true rfl) d_Top_take_113 rfl (fun H locs hW => ?_)
        have hW : Wr G A s.heap (w_All h cI cZ cJ wr (va_up se (sq b) true) (va_up ga (sq b) (some (wth nw (gr (sq b)) (sec b - s0) (wr (sq b))))) tw np tot gr fa re ss sc ne stt (va_up sco x (sco x + (wth nw (gr (sq b)) (sec b - s0) (wr (sq b))))) (va_up tim x (tim x + (sec b - s0))) (va_up cnt x (cnt x + 1)) ns sp sq sec rt it ans tl un nw td) H locs := hW
        exact R_vret X Y hW (by rw [show tkF gr nw sp sq sec rt stt x b (wr, se, ga, sco, tim, cnt) = (wr, va_up se (sq b) true, va_up ga (sq b) (some (wth nw (gr (sq b)) (sec b - s0) (wr (sq b)))), va_up sco x (sco x + (wth nw (gr (sq b)) (sec b - s0) (wr (sq b)))), va_up tim x (tim x + (sec b - s0)), va_up cnt x (cnt x + 1)) from by unfold tkF; dsimp only; rw [if_neg (by simp [c16]), if_neg (by simp [c29]), if_neg (by rw [hsf]; simpa using c66), hsf]]) rfl d_Top_take_116
      · exact R_vret X Y hW (by rw [show tkF gr nw sp sq sec rt stt x b (wr, se, ga, sco, tim, cnt) = (wr, va_up se (sq b) true, ga, sco, tim, cnt) from by unfold tkF; dsimp only; rw [if_neg (by simp [c16]), if_neg (by simp [c29]), if_pos (by rw [hsf]; simpa using c66)]]) rfl d_Top_take_69
    · refine lv_aload_n hx hb d_Top_take_32 rfl (lv_at hl 1 rfl) ?_
      refine R_get X hW i_Top rfl 5 (by decide) kf_Top_44 0 rfl rfl d_Top_take_33 ?_
      refine lv_iload_n hx hb d_Top_take_36 rfl (lv_at hl 0 rfl) ?_
      refine lv_dup2_11 hx hb d_Top_take_37 rfl rfl ?_
      refine R_iald X hW (t0 := 0) rfl 1 rfl (k := (sq b)) (by omega) (by decide) d_Top_take_38 ?_
      refine lv_iconst (v := (nI 1)) hx hb d_Top_take_39 (by decide +kernel) ?_
      refine N_iadd hx hb d_Top_take_40 ?_
      refine R_iast X hW (t0 := 0) rfl 1 rfl (k := (sq b)) (by omega) (by decide) ((wr (sq b)) + 1) rfl d_Top_take_41 (fun H locs hW => ?_)
      have hW : Wr G A s.heap (w_All h cI cZ cJ (va_up wr (sq b) ((wr (sq b)) + 1)) se ga tw np tot gr fa re ss sc ne stt sco tim cnt ns sp sq sec rt it ans tl un nw td) H locs := hW
      exact R_vret X Y hW (by rw [show tkF gr nw sp sq sec rt stt x b (wr, se, ga, sco, tim, cnt) = (va_up wr (sq b) ((wr (sq b)) + 1), se, ga, sco, tim, cnt) from by unfold tkF; dsimp only; rw [if_neg (by simp [c16]), if_pos c29]]) rfl d_Top_take_42
  · exact R_vret X Y hW (by rw [show tkF gr nw sp sq sec rt stt x b (wr, se, ga, sco, tim, cnt) = (wr, se, ga, sco, tim, cnt) from by unfold tkF; dsimp only; rw [if_pos c16]]) rfl d_Top_take_19

theorem kb_Persons_clearSums : Cond.code y_Persons_clearSums b_Persons_clearSums 2 none ∈ TBL := TBL_t (List.mem_append_right _ (List.mem_append_left _ (List.mem_of_getElem? (i := 153) rfl))) rfl
theorem km_Top_162 : Cond.methodLink "ContestRows" 162 y_Persons_clearSums ∈ TBL := TBL_t (List.mem_append_right _ (List.mem_append_left _ (List.mem_of_getElem? (i := 150) rfl))) rfl
theorem cw_Top_162 : Cw "ContestRows" 162 y_Persons_clearSums b_Persons_clearSums 2 none 1 := ⟨kb_Persons_clearSums, kn_Persons, km_Top_162, by decide +kernel⟩
theorem ki_Persons_clearSums : Cond.instanceMethod y_Persons_clearSums ∈ TBL := TBL_t (List.mem_append_right _ (List.mem_append_left _ (List.mem_of_getElem? (i := 151) rfl))) rfl
theorem ks_Persons_clearSums : Cond.selects "ContestRows$Persons" y_Persons_clearSums y_Persons_clearSums ∈ TBL := TBL_t (List.mem_append_right _ (List.mem_append_left _ (List.mem_of_getElem? (i := 152) rfl))) rfl
theorem kf_Top_134 : Cond.fieldLink "ContestRows" 134 "ContestRows$Submissions" "many" "I" ∈ TBL := TBL_t (List.mem_append_left _ (List.mem_of_getElem? (i := 99) rfl)) rfl
theorem kf_Top_165 : Cond.fieldLink "ContestRows" 165 "ContestRows$Submissions" "inTime" "[I" ∈ TBL := TBL_t (List.mem_append_left _ (List.mem_of_getElem? (i := 97) rfl)) rfl
theorem kb_Top_take : Cond.code y_Top_take b_Top_take 5 none ∈ TBL := TBL_t (List.mem_append_right _ (List.mem_append_left _ (List.mem_of_getElem? (i := 157) rfl))) rfl
theorem km_Top_168 : Cond.methodLink "ContestRows" 168 y_Top_take ∈ TBL := TBL_t (List.mem_append_right _ (List.mem_append_left _ (List.mem_of_getElem? (i := 154) rfl))) rfl
theorem cw_Top_168 : Cw "ContestRows" 168 y_Top_take b_Top_take 5 none 2 := ⟨kb_Top_take, kn_Top, km_Top_168, by decide +kernel⟩
theorem ki_Top_take : Cond.instanceMethod y_Top_take ∈ TBL := TBL_t (List.mem_append_right _ (List.mem_append_left _ (List.mem_of_getElem? (i := 156) rfl))) rfl
theorem ks_Top_take : Cond.selects "ContestRows" y_Top_take y_Top_take ∈ TBL := TBL_in (List.mem_append_left _ (List.mem_map.mpr ⟨(y_Top_take, 9), by decide +kernel, rfl⟩)) rfl
theorem kl_Top_101 : Cond.constantLong "ContestRows" 101 (-1) ∈ TBL := TBL_t (List.mem_append_right _ (List.mem_append_left _ (List.mem_of_getElem? (i := 141) rfl))) rfl
set_option maxHeartbeats 4000000 in
set_option maxRecDepth 100000 in
theorem c_Top_workOut (l : Launch) (G : va_G) (cI cZ cJ : ClassId) (h : Nat → Nat) (wr : Nat → Nat) (se : Nat → Bool) (ga : Nat → Option Nat) (tw : Nat → Option Nat) (np : Nat) (tot : Nat) (gr : Nat → Nat) (fa : Nat → Nat) (re : Nat → Bool) (ss : Nat → Nat) (sc : Nat → Nat) (ne : Nat) (stt : Nat → Option Nat) (sco : Nat → Nat) (tim : Nat → Nat) (cnt : Nat → Nat) (ns : Nat) (sp : Nat → Nat) (sq : Nat → Nat) (sec : Nat → Nat) (rt : Nat → Bool) (it : Nat → Nat) (ans : Nat → Nat) (tl : Nat) (un : Nat → Nat) (nw : Nat → Nat) (td : Nat → Nat) (x : Nat) (hx0 : x < 20) (hI : IS np ne ns gr nw sp sq sec it ans stt) : Ct l G (tyL cI cZ cJ) y_Top_workOut b_Top_workOut 4 none (rmL 3) [.ref (h 0), .int (nI x)] (w_All h cI cZ cJ wr se ga tw np tot gr fa re ss sc ne stt sco tim cnt ns sp sq sec rt it ans tl un nw td) none (w_All h cI cZ cJ ((woF gr nw sp sq sec it rt stt ns x (wr, se, ga, sco, tim, cnt)).1) ((woF gr nw sp sq sec it rt stt ns x (wr, se, ga, sco, tim, cnt)).2.1) ((woF gr nw sp sq sec it rt stt ns x (wr, se, ga, sco, tim, cnt)).2.2.1) tw np tot gr fa re ss sc ne stt ((woF gr nw sp sq sec it rt stt ns x (wr, se, ga, sco, tim, cnt)).2.2.2.1) ((woF gr nw sp sq sec it rt stt ns x (wr, se, ga, sco, tim, cnt)).2.2.2.2.1) ((woF gr nw sp sq sec it rt stt ns x (wr, se, ga, sco, tim, cnt)).2.2.2.2.2) ns sp sq sec rt it ans tl un nw td) := by
  refine M_start (by decide) (Nat.le_of_ble_eq_true rfl) ?_
  intro p e s m args below meth c A Q ls X Y hW hl
  have hx := X.1.1
  have hb := X.1.2.1
  have hl : lv_has ls 4 [(0, .ref (h 0)), (1, .int (nI x))] := hl
  obtain ⟨z1, z2, z3, z4, z5, z6, z7, z8, z9, z10, z11, z12, z13⟩ := id hI
  refine lv_iconst (v := (nI 0)) hx hb d_Top_workOut_0 (by decide +kernel) ?_
  refine lv_istore_n (lv' := [(2, .int (nI 0)), (0, .ref (h 0)), (1, .int (nI x))]) hx hb d_Top_workOut_1 rfl hl (by decide) rfl (fun ls hl => ?_)
  have L2 : ∀ (n : Nat) (i : Nat) (hi : i + n = 20) (H : Heap) (locs : List Loc) (hW : Wr G A s.heap (w_All h cI cZ cJ (upK 0 i wr) (upK false i se) (upK none i ga) tw np tot gr fa re ss sc ne stt sco tim cnt ns sp sq sec rt it ans tl un nw td) H locs) (ls : Array Slot) (hl : lv_has ls 4 [(0, .ref (h 0)), (1, .int (nI x)), (2, .int (nI i))]), W p l e (rmL 3) s m args below meth c H locs 0 0 Q (F0 m 2 ls []) := by
    intro n
    induction n with
    | zero =>
      intro i hi H locs hW ls hl
      refine lv_iload_n hx hb d_Top_workOut_2 rfl (lv_at hl 2 rfl) ?_
      refine lv_bipush (v := (nI 20)) hx hb d_Top_workOut_3 (by decide +kernel) ?_
      refine N_icmp_ge_NN hx hb (by omega) (by decide) (tgt := 37) d_Top_workOut_5 (by decide) (fun c5 => ?_) (fun c5 => ?_)
      · have e9 : 20 = i := by omega
        subst e9
        refine lv_aload_n hx hb d_Top_workOut_37 rfl (lv_at hl 0 rfl) ?_
        refine R_get X hW i_Top rfl 1 (by decide) kf_Top_19 0 rfl rfl d_Top_workOut_38 ?_
        refine lv_iload_n hx hb d_Top_workOut_41 rfl (lv_at hl 1 rfl) ?_
        refine R_callV (q0 := 11) (c_Persons_clearSums l G cI cZ cJ h ne stt sco tim cnt x hx0) X rfl hW cw_Top_162 ki_Persons_clearSums ks_Persons_clearSums rfl rfl ⟨rfl, rfl⟩ ⟨by decide, by decide⟩ ⟨Nat.zero_le _, Nat.zero_le _⟩ [false, false, false, false, false, false, false, false, false, false, false, true, true, true, true, true, false, false, false, false, false, false, false, false, false, false, false, false] rfl (Nat.le_of_ble_eq_true rfl) rfl rfl hl.1 rfl rfl (Nat.le_of_ble_eq_true rfl) d_Top_workOut_42 rfl (fun H locs hW => ?_)
        have hW : Wr G A s.heap (w_All h cI cZ cJ (upK 0 20 wr) (upK false 20 se) (upK none 20 ga) tw np tot gr fa re ss sc ne stt (va_up sco x 0) (va_up tim x 0) (va_up cnt x 0) ns sp sq sec rt it ans tl un nw td) H locs := hW
        refine lv_iconst (v := (nI 0)) hx hb d_Top_workOut_45 (by decide +kernel) ?_
        refine lv_istore_n (lv' := [(2, .int (nI 0)), (0, .ref (h 0)), (1, .int (nI x))]) hx hb d_Top_workOut_46 rfl hl (by decide) rfl (fun ls hl => ?_)
        have L47 : ∀ (n2 : Nat) (i2 : Nat) (u : TkS) (hi2 : i2 + n2 = ns) (hu : ∀ j, j < 20 → u.1 j ≤ i2) (he : woG gr nw sp sq sec it rt stt x n2 i2 u = woF gr nw sp sq sec it rt stt ns x (wr, se, ga, sco, tim, cnt)) (H : Heap) (locs : List Loc) (hW : Wr G A s.heap (w_All h cI cZ cJ u.1 u.2.1 u.2.2.1 tw np tot gr fa re ss sc ne stt u.2.2.2.1 u.2.2.2.2.1 u.2.2.2.2.2 ns sp sq sec rt it ans tl un nw td) H locs) (ls : Array Slot) (hl : lv_has ls 4 [(0, .ref (h 0)), (1, .int (nI x)), (2, .int (nI i2))]), W p l e (rmL 3) s m args below meth c H locs 0 0 Q (F0 m 47 ls []) := by
          intro n2
          induction n2 with
          | zero =>
            intro i2 u hi2 hu he H locs hW ls hl
            refine lv_iload_n hx hb d_Top_workOut_47 rfl (lv_at hl 2 rfl) ?_
            refine lv_aload_n hx hb d_Top_workOut_48 rfl (lv_at hl 0 rfl) ?_
            refine R_get X hW i_Top rfl 2 (by decide) kf_Top_26 0 rfl rfl d_Top_workOut_49 ?_
            refine R_get X hW i_Submissions rfl 5 (by decide) kf_Top_134 16 rfl rfl d_Top_workOut_52 ?_
            refine N_icmp_ge_NN hx hb (by omega) (by omega) (tgt := 93) d_Top_workOut_55 (by decide) (fun c55 => ?_) (fun c55 => ?_)
            · exact R_vret X Y hW (by rw [← he]; rfl) rfl d_Top_workOut_93
            · exfalso; omega
          | succ n2 ih47 =>
            intro i2 u hi2 hu he H locs hW ls hl
            refine lv_iload_n hx hb d_Top_workOut_47 rfl (lv_at hl 2 rfl) ?_
            refine lv_aload_n hx hb d_Top_workOut_48 rfl (lv_at hl 0 rfl) ?_
            refine R_get X hW i_Top rfl 2 (by decide) kf_Top_26 0 rfl rfl d_Top_workOut_49 ?_
            refine R_get X hW i_Submissions rfl 5 (by decide) kf_Top_134 16 rfl rfl d_Top_workOut_52 ?_
            refine N_icmp_ge_NN hx hb (by omega) (by omega) (tgt := 93) d_Top_workOut_55 (by decide) (fun c55 => ?_) (fun c55 => ?_)
            · exfalso; omega
            · refine lv_aload_n hx hb d_Top_workOut_58 rfl (lv_at hl 0 rfl) ?_
              refine R_get X hW i_Top rfl 2 (by decide) kf_Top_26 0 rfl rfl d_Top_workOut_59 ?_
              refine R_get X hW i_Submissions rfl 4 (by decide) kf_Top_165 16 rfl rfl d_Top_workOut_62 ?_
              refine lv_iload_n hx hb d_Top_workOut_65 rfl (lv_at hl 2 rfl) ?_
              refine R_iald X hW (t0 := 0) rfl 21 rfl (k := i2) (by omega) (by decide) d_Top_workOut_66 ?_
              refine lv_istore_n (lv' := [(3, .int (nI (it i2))), (0, .ref (h 0)), (1, .int (nI x)), (2, .int (nI i2))]) hx hb d_Top_workOut_67 rfl hl (by decide) rfl (fun ls hl => ?_)
              have y1 := z9 i2 (by omega)
              have y2 := z13 (it i2) (by omega)
              obtain ⟨s0, hs0, hle⟩ := z11 (it i2) y1
              have y3 := z4 (sq (it i2)) y2.2
              have y4 := z8 (it i2) (by omega)
              have y5 := hu (sq (it i2)) y2.2
              refine lv_aload_n hx hb d_Top_workOut_68 rfl (lv_at hl 1 rfl) ?_
              refine R_get X hW i_Top rfl 2 (by decide) kf_Top_26 0 rfl rfl d_Top_workOut_69 ?_
              refine R_get X hW i_Submissions rfl 0 (by decide) kf_Top_142 16 rfl rfl d_Top_workOut_72 ?_
              refine lv_iload_n hx hb d_Top_workOut_75 rfl (lv_at hl 0 rfl) ?_
              refine R_iald X hW (t0 := 0) rfl 17 rfl (k := (it i2)) (by omega) (by decide) d_Top_workOut_76 ?_
              refine lv_iload_n hx hb d_Top_workOut_77 rfl (lv_at hl 2 rfl) ?_
              refine N_icmp_ne_NN hx hb (by omega) (by omega) (tgt := 87) d_Top_workOut_78 (by decide) (fun c78 => ?_) (fun c78 => ?_)
              · refine lv_iinc (v := (nI (i2 + 1))) (lv' := [(2, .int (nI (i2 + 1))), (3, .int (nI (it i2))), (0, .ref (h 0)), (1, .int (nI x))]) hx hb d_Top_workOut_87 hl (k := 3) rfl (N_inc i2) (by decide) rfl (fun ls hl => ?_)
                refine lv_goto (tgt := 47) hx hb d_Top_workOut_90 (by decide) ?_
                exact ih47 (i2 + 1) u (by omega) (fun j hj => by have := hu j hj; omega) (by rw [← he, woG, if_neg c78]) _ _ hW ls (lv_sub hl [2, 3, 0] rfl)
              · refine lv_aload_n hx hb d_Top_workOut_81 rfl (lv_at hl 1 rfl) ?_
                refine lv_iload_n hx hb d_Top_workOut_82 rfl (lv_at hl 2 rfl) ?_
                refine lv_iload_n hx hb d_Top_workOut_83 rfl (lv_at hl 0 rfl) ?_
                refine R_callV (q0 := 0) (c_Top_take l G cI cZ cJ h u.1 u.2.1 u.2.2.1 tw np tot gr fa re ss sc ne stt u.2.2.2.1 u.2.2.2.2.1 u.2.2.2.2.2 ns sp sq sec rt it ans tl un nw td x (it i2) s0 hx0 (by omega) y2.1 y2.2 hs0 hle y4 y3 z5 (by omega)) X rfl hW cw_Top_168 ki_Top_take ks_Top_take rfl rfl ⟨rfl, rfl⟩ ⟨by decide, by decide⟩ ⟨Nat.zero_le _, Nat.zero_le _⟩ [true, true, true, true, true, true, true, true, true, true, true, true, true, true, true, true, true, true, true, true, true, true, true, true, true, true, true, true] rfl (Nat.le_of_ble_eq_true rfl) rfl rfl hl.1 rfl rfl (Nat.le_of_ble_eq_true rfl) d_Top_workOut_84 rfl (fun H locs hW => ?_)
                have hW : Wr G A s.heap (w_All h cI cZ cJ ((tkF gr nw sp sq sec rt stt x (it i2) (u.1, u.2.1, u.2.2.1, u.2.2.2.1, u.2.2.2.2.1, u.2.2.2.2.2)).1) ((tkF gr nw sp sq sec rt stt x (it i2) (u.1, u.2.1, u.2.2.1, u.2.2.2.1, u.2.2.2.2.1, u.2.2.2.2.2)).2.1) ((tkF gr nw sp sq sec rt stt x (it i2) (u.1, u.2.1, u.2.2.1, u.2.2.2.1, u.2.2.2.2.1, u.2.2.2.2.2)).2.2.1) tw np tot gr fa re ss sc ne stt ((tkF gr nw sp sq sec rt stt x (it i2) (u.1, u.2.1, u.2.2.1, u.2.2.2.1, u.2.2.2.2.1, u.2.2.2.2.2)).2.2.2.1) ((tkF gr nw sp sq sec rt stt x (it i2) (u.1, u.2.1, u.2.2.1, u.2.2.2.1, u.2.2.2.2.1, u.2.2.2.2.2)).2.2.2.2.1) ((tkF gr nw sp sq sec rt stt x (it i2) (u.1, u.2.1, u.2.2.1, u.2.2.2.1, u.2.2.2.2.1, u.2.2.2.2.2)).2.2.2.2.2) ns sp sq sec rt it ans tl un nw td) H locs := hW
                refine lv_iinc (v := (nI (i2 + 1))) (lv' := [(2, .int (nI (i2 + 1))), (3, .int (nI (it i2))), (0, .ref (h 0)), (1, .int (nI x))]) hx hb d_Top_workOut_87 hl (k := 3) rfl (N_inc i2) (by decide) rfl (fun ls hl => ?_)
                refine lv_goto (tgt := 47) hx hb d_Top_workOut_90 (by decide) ?_
                exact ih47 (i2 + 1) (tkF gr nw sp sq sec rt stt x (it i2) (u.1, u.2.1, u.2.2.1, u.2.2.2.1, u.2.2.2.2.1, u.2.2.2.2.2)) (by omega) (tk_wr hu) (by rw [← he, woG, if_pos c78]) _ _ hW ls (lv_sub hl [2, 3, 0] rfl)
        exact L47 ns 0 (upK 0 20 wr, upK false 20 se, upK none 20 ga, va_up sco x 0, va_up tim x 0, va_up cnt x 0) (by omega) (fun j hj => by dsimp only; rw [upK_lt _ _ _ _ hj]; omega) rfl _ _ hW ls (lv_sub hl [1, 2, 0] rfl)
      · exfalso; omega
    | succ n ih2 =>
      intro i hi H locs hW ls hl
      refine lv_iload_n hx hb d_Top_workOut_2 rfl (lv_at hl 2 rfl) ?_
      refine lv_bipush (v := (nI 20)) hx hb d_Top_workOut_3 (by decide +kernel) ?_
      refine N_icmp_ge_NN hx hb (by omega) (by decide) (tgt := 37) d_Top_workOut_5 (by decide) (fun c5 => ?_) (fun c5 => ?_)
      · exfalso; omega
      · refine lv_aload_n hx hb d_Top_workOut_8 rfl (lv_at hl 0 rfl) ?_
        refine R_get X hW i_Top rfl 5 (by decide) kf_Top_44 0 rfl rfl d_Top_workOut_9 ?_
        refine lv_iload_n hx hb d_Top_workOut_12 rfl (lv_at hl 2 rfl) ?_
        refine lv_iconst (v := (nI 0)) hx hb d_Top_workOut_13 (by decide +kernel) ?_
        refine R_iast X hW (t0 := 0) rfl 1 rfl (k := i) (by omega) (by decide) 0 rfl d_Top_workOut_14 (fun H locs hW => ?_)
        have hW : Wr G A s.heap (w_All h cI cZ cJ (va_up (upK 0 i wr) i 0) (upK false i se) (upK none i ga) tw np tot gr fa re ss sc ne stt sco tim cnt ns sp sq sec rt it ans tl un nw td) H locs := hW
        refine lv_aload_n hx hb d_Top_workOut_15 rfl (lv_at hl 0 rfl) ?_
        refine R_get X hW i_Top rfl 6 (by decide) kf_Top_48 0 rfl rfl d_Top_workOut_16 ?_
        refine lv_iload_n hx hb d_Top_workOut_19 rfl (lv_at hl 2 rfl) ?_
        refine lv_iconst (v := (nI 0)) hx hb d_Top_workOut_20 (by decide +kernel) ?_
        refine R_zast X hW (t0 := 1) rfl 2 rfl (k := i) (by omega) (by decide) false (by decide +kernel) d_Top_workOut_21 (fun H locs hW => ?_)
        have hW : Wr G A s.heap (w_All h cI cZ cJ (va_up (upK 0 i wr) i 0) (va_up (upK false i se) i false) (upK none i ga) tw np tot gr fa re ss sc ne stt sco tim cnt ns sp sq sec rt it ans tl un nw td) H locs := hW
        refine lv_aload_n hx hb d_Top_workOut_22 rfl (lv_at hl 0 rfl) ?_
        refine R_get X hW i_Top rfl 7 (by decide) kf_Top_52 0 rfl rfl d_Top_workOut_23 ?_
        refine lv_iload_n hx hb d_Top_workOut_26 rfl (lv_at hl 2 rfl) ?_
        refine lv_ldc2 hx hb X.1.2.2.2.1 (X.1.2.2.2.2 _ kl_Top_101) d_Top_workOut_27 ?_
        refine R_last X hW (t0 := 2) rfl 3 rfl (k := i) (by omega) (by decide) none rfl d_Top_workOut_30 (fun H locs hW => ?_)
        have hW : Wr G A s.heap (w_All h cI cZ cJ (va_up (upK 0 i wr) i 0) (va_up (upK false i se) i false) (va_up (upK none i ga) i none) tw np tot gr fa re ss sc ne stt sco tim cnt ns sp sq sec rt it ans tl un nw td) H locs := hW
        refine lv_iinc (v := (nI (i + 1))) (lv' := [(2, .int (nI (i + 1))), (0, .ref (h 0)), (1, .int (nI x))]) hx hb d_Top_workOut_31 hl (k := 2) rfl (N_inc i) (by decide) rfl (fun ls hl => ?_)
        refine lv_goto (tgt := 2) hx hb d_Top_workOut_34 (by decide) ?_
        exact ih2 (i + 1) (by omega) _ _ hW ls (lv_sub hl [1, 2, 0] rfl)
  exact L2 20 0 (by omega) _ _ hW ls (lv_sub hl [1, 2, 0] rfl)

theorem kf_Top_144 : Cond.fieldLink "ContestRows" 144 "ContestRows$Persons" "many" "I" ∈ TBL := TBL_t (List.mem_append_left _ (List.mem_of_getElem? (i := 69) rfl)) rfl
theorem kb_Top_workOut : Cond.code y_Top_workOut b_Top_workOut 4 none ∈ TBL := TBL_t (List.mem_append_right _ (List.mem_append_left _ (List.mem_of_getElem? (i := 149) rfl))) rfl
theorem km_Top_114 : Cond.methodLink "ContestRows" 114 y_Top_workOut ∈ TBL := TBL_t (List.mem_append_right _ (List.mem_append_left _ (List.mem_of_getElem? (i := 146) rfl))) rfl
theorem cw_Top_114 : Cw "ContestRows" 114 y_Top_workOut b_Top_workOut 4 none 1 := ⟨kb_Top_workOut, kn_Top, km_Top_114, by decide +kernel⟩
theorem ki_Top_workOut : Cond.instanceMethod y_Top_workOut ∈ TBL := TBL_t (List.mem_append_right _ (List.mem_append_left _ (List.mem_of_getElem? (i := 148) rfl))) rfl
theorem ks_Top_workOut : Cond.selects "ContestRows" y_Top_workOut y_Top_workOut ∈ TBL := TBL_in (List.mem_append_left _ (List.mem_map.mpr ⟨(y_Top_workOut, 9), by decide +kernel, rfl⟩)) rfl
set_option maxHeartbeats 4000000 in
set_option maxRecDepth 100000 in
theorem c_Top_workOutAll (l : Launch) (G : va_G) (cI cZ cJ : ClassId) (h : Nat → Nat) (wr : Nat → Nat) (se : Nat → Bool) (ga : Nat → Option Nat) (tw : Nat → Option Nat) (np : Nat) (tot : Nat) (gr : Nat → Nat) (fa : Nat → Nat) (re : Nat → Bool) (ss : Nat → Nat) (sc : Nat → Nat) (ne : Nat) (stt : Nat → Option Nat) (sco : Nat → Nat) (tim : Nat → Nat) (cnt : Nat → Nat) (ns : Nat) (sp : Nat → Nat) (sq : Nat → Nat) (sec : Nat → Nat) (rt : Nat → Bool) (it : Nat → Nat) (ans : Nat → Nat) (tl : Nat) (un : Nat → Nat) (nw : Nat → Nat) (td : Nat → Nat)  (hI : IS np ne ns gr nw sp sq sec it ans stt) : Ct l G (tyL cI cZ cJ) y_Top_workOutAll b_Top_workOutAll 2 none (rmL 4) [.ref (h 0)] (w_All h cI cZ cJ wr se ga tw np tot gr fa re ss sc ne stt sco tim cnt ns sp sq sec rt it ans tl un nw td) none (w_All h cI cZ cJ ((waF gr nw sp sq sec it rt stt ns ne (wr, se, ga, sco, tim, cnt)).1) ((waF gr nw sp sq sec it rt stt ns ne (wr, se, ga, sco, tim, cnt)).2.1) ((waF gr nw sp sq sec it rt stt ns ne (wr, se, ga, sco, tim, cnt)).2.2.1) tw np tot gr fa re ss sc ne stt ((waF gr nw sp sq sec it rt stt ns ne (wr, se, ga, sco, tim, cnt)).2.2.2.1) ((waF gr nw sp sq sec it rt stt ns ne (wr, se, ga, sco, tim, cnt)).2.2.2.2.1) ((waF gr nw sp sq sec it rt stt ns ne (wr, se, ga, sco, tim, cnt)).2.2.2.2.2) ns sp sq sec rt it ans tl un nw td) := by
  refine M_start (by decide) (Nat.le_of_ble_eq_true rfl) ?_
  intro p e s m args below meth c A Q ls X Y hW hl
  have hx := X.1.1
  have hb := X.1.2.1
  have hl : lv_has ls 2 [(0, .ref (h 0))] := hl
  obtain ⟨z1, z2, z3, z4, z5, z6, z7, z8, z9, z10, z11, z12, z13⟩ := id hI
  refine lv_iconst (v := (nI 0)) hx hb d_Top_workOutAll_0 (by decide +kernel) ?_
  refine lv_istore_n (lv' := [(1, .int (nI 0)), (0, .ref (h 0))]) hx hb d_Top_workOutAll_1 rfl hl (by decide) rfl (fun ls hl => ?_)
  have L2 : ∀ (n : Nat) (i : Nat) (u : TkS) (hi : i + n = ne) (he : u = waF gr nw sp sq sec it rt stt ns i (wr, se, ga, sco, tim, cnt)) (H : Heap) (locs : List Loc) (hW : Wr G A s.heap (w_All h cI cZ cJ u.1 u.2.1 u.2.2.1 tw np tot gr fa re ss sc ne stt u.2.2.2.1 u.2.2.2.2.1 u.2.2.2.2.2 ns sp sq sec rt it ans tl un nw td) H locs) (ls : Array Slot) (hl : lv_has ls 2 [(0, .ref (h 0)), (1, .int (nI i))]), W p l e (rmL 4) s m args below meth c H locs 0 0 Q (F0 m 2 ls []) := by
    intro n
    induction n with
    | zero =>
      intro i u hi he H locs hW ls hl
      refine lv_iload_n hx hb d_Top_workOutAll_2 rfl (lv_at hl 1 rfl) ?_
      refine lv_aload_n hx hb d_Top_workOutAll_3 rfl (lv_at hl 0 rfl) ?_
      refine R_get X hW i_Top rfl 1 (by decide) kf_Top_19 0 rfl rfl d_Top_workOutAll_4 ?_
      refine R_get X hW i_Persons rfl 4 (by decide) kf_Top_144 11 rfl rfl d_Top_workOutAll_7 ?_
      refine N_icmp_ge_NN hx hb (by omega) (by omega) (tgt := 24) d_Top_workOutAll_10 (by decide) (fun c10 => ?_) (fun c10 => ?_)
      · exact R_vret X Y hW (by rw [he, show i = ne by omega]) rfl d_Top_workOutAll_24
      · exfalso; omega
    | succ n ih2 =>
      intro i u hi he H locs hW ls hl
      refine lv_iload_n hx hb d_Top_workOutAll_2 rfl (lv_at hl 1 rfl) ?_
      refine lv_aload_n hx hb d_Top_workOutAll_3 rfl (lv_at hl 0 rfl) ?_
      refine R_get X hW i_Top rfl 1 (by decide) kf_Top_19 0 rfl rfl d_Top_workOutAll_4 ?_
      refine R_get X hW i_Persons rfl 4 (by decide) kf_Top_144 11 rfl rfl d_Top_workOutAll_7 ?_
      refine N_icmp_ge_NN hx hb (by omega) (by omega) (tgt := 24) d_Top_workOutAll_10 (by decide) (fun c10 => ?_) (fun c10 => ?_)
      · exfalso; omega
      · refine lv_aload_n hx hb d_Top_workOutAll_13 rfl (lv_at hl 0 rfl) ?_
        refine lv_iload_n hx hb d_Top_workOutAll_14 rfl (lv_at hl 1 rfl) ?_
        refine R_callV (q0 := 0) (c_Top_workOut l G cI cZ cJ h u.1 u.2.1 u.2.2.1 tw np tot gr fa re ss sc ne stt u.2.2.2.1 u.2.2.2.2.1 u.2.2.2.2.2 ns sp sq sec rt it ans tl un nw td i (by omega) hI) X rfl hW cw_Top_114 ki_Top_workOut ks_Top_workOut rfl rfl ⟨rfl, rfl⟩ ⟨by decide, by decide⟩ ⟨Nat.zero_le _, Nat.zero_le _⟩ [true, true, true, true, true, true, true, true, true, true, true, true, true, true, true, true, true, true, true, true, true, true, true, true, true, true, true, true] rfl (Nat.le_of_ble_eq_true rfl) rfl rfl hl.1 rfl rfl (Nat.le_of_ble_eq_true rfl) d_Top_workOutAll_15 rfl (fun H locs hW => ?_)
        have hW : Wr G A s.heap (w_All h cI cZ cJ ((woF gr nw sp sq sec it rt stt ns i (u.1, u.2.1, u.2.2.1, u.2.2.2.1, u.2.2.2.2.1, u.2.2.2.2.2)).1) ((woF gr nw sp sq sec it rt stt ns i (u.1, u.2.1, u.2.2.1, u.2.2.2.1, u.2.2.2.2.1, u.2.2.2.2.2)).2.1) ((woF gr nw sp sq sec it rt stt ns i (u.1, u.2.1, u.2.2.1, u.2.2.2.1, u.2.2.2.2.1, u.2.2.2.2.2)).2.2.1) tw np tot gr fa re ss sc ne stt ((woF gr nw sp sq sec it rt stt ns i (u.1, u.2.1, u.2.2.1, u.2.2.2.1, u.2.2.2.2.1, u.2.2.2.2.2)).2.2.2.1) ((woF gr nw sp sq sec it rt stt ns i (u.1, u.2.1, u.2.2.1, u.2.2.2.1, u.2.2.2.2.1, u.2.2.2.2.2)).2.2.2.2.1) ((woF gr nw sp sq sec it rt stt ns i (u.1, u.2.1, u.2.2.1, u.2.2.2.1, u.2.2.2.2.1, u.2.2.2.2.2)).2.2.2.2.2) ns sp sq sec rt it ans tl un nw td) H locs := hW
        refine lv_iinc (v := (nI (i + 1))) (lv' := [(1, .int (nI (i + 1))), (0, .ref (h 0))]) hx hb d_Top_workOutAll_18 hl (k := 1) rfl (N_inc i) (by decide) rfl (fun ls hl => ?_)
        refine lv_goto (tgt := 2) hx hb d_Top_workOutAll_21 (by decide) ?_
        exact ih2 (i + 1) (woF gr nw sp sq sec it rt stt ns i (u.1, u.2.1, u.2.2.1, u.2.2.2.1, u.2.2.2.2.1, u.2.2.2.2.2)) (by omega) (by rw [he]; rfl) _ _ hW ls (lv_sub hl [1, 0] rfl)
  exact L2 ne 0 (wr, se, ga, sco, tim, cnt) (by omega) rfl _ _ hW ls (lv_sub hl [1, 0] rfl)
