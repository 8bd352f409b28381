theorem kb_Persons_add : Cond.code y_Persons_add b_Persons_add 1 (some .int) ∈ TBL := TBL_t (List.mem_append_left _ (List.mem_of_getElem? (i := 193) rfl)) rfl
theorem km_Top_63 : Cond.methodLink "ContestRows" 63 y_Persons_add ∈ TBL := TBL_t (List.mem_append_left _ (List.mem_of_getElem? (i := 190) rfl)) rfl
theorem cw_Top_63 : Cw "ContestRows" 63 y_Persons_add b_Persons_add 1 (some .int) 0 := ⟨kb_Persons_add, kn_Persons, km_Top_63, by decide +kernel⟩
theorem ki_Persons_add : Cond.instanceMethod y_Persons_add ∈ TBL := TBL_t (List.mem_append_left _ (List.mem_of_getElem? (i := 191) rfl)) rfl
theorem ks_Persons_add : Cond.selects "ContestRows$Persons" y_Persons_add y_Persons_add ∈ TBL := TBL_t (List.mem_append_left _ (List.mem_of_getElem? (i := 192) rfl)) rfl
set_option maxHeartbeats 4000000 in
set_option maxRecDepth 100000 in
theorem c_Top_person_ok (l : Launch) (G : va_G) (cI cZ cJ : ClassId) (h : Nat → Nat) (wr : Nat → Nat) (se : Nat → Bool) (ga : Nat → Option Nat) (tw : Nat → Option Nat) (np : Nat) (tot : Nat) (gr : Nat → Nat) (fa : Nat → Nat) (re : Nat → Bool) (ss : Nat → Nat) (sc : Nat → Nat) (ne : Nat) (stt : Nat → Option Nat) (sco : Nat → Nat) (tim : Nat → Nat) (cnt : Nat → Nat) (ns : Nat) (sp : Nat → Nat) (sq : Nat → Nat) (sec : Nat → Nat) (rt : Nat → Bool) (it : Nat → Nat) (ans : Nat → Nat) (tl : Nat) (un : Nat → Nat) (nw : Nat → Nat) (td : Nat → Nat)  (hn : ne < 20) : Ct l G (tyL cI cZ cJ) y_Top_person b_Top_person 1 (some .int) (rmL 1) [.ref (h 0)] (w_All h cI cZ cJ wr se ga tw np tot gr fa re ss sc ne stt sco tim cnt ns sp sq sec rt it ans tl un nw td) (some (.int (nI ne))) (w_All h cI cZ cJ wr se ga tw np tot gr fa re ss sc (ne + 1) (va_up stt ne none) sco tim cnt ns sp sq sec rt it ans tl un nw td) := by
  refine M_start (by decide) (Nat.le_of_ble_eq_true rfl) ?_
  intro p e s m args below meth c A Q ls X Y hW hl
  have hx := X.1.1
  have hb := X.1.2.1
  have hl : lv_has ls 1 [(0, .ref (h 0))] := hl
  refine lv_aload_n hx hb d_Top_person_0 rfl (lv_at hl 0 rfl) ?_
  refine R_get X hW i_Top rfl 1 (by decide) kf_Top_19 0 rfl rfl d_Top_person_1 ?_
  refine R_callV (q0 := 11) (c_Persons_add_ok l G cI cZ cJ h ne stt sco tim cnt hn) X rfl hW cw_Top_63 ki_Persons_add ks_Persons_add rfl rfl ⟨rfl, rfl⟩ ⟨by decide, by decide⟩ ⟨Nat.zero_le _, Nat.zero_le _⟩ [false, false, false, false, false, false, false, false, false, false, false, true, true, true, true, true, false, false, false, false, false, false, false, false, false, false, false, false] rfl (Nat.le_of_ble_eq_true rfl) rfl rfl hl.1 rfl rfl (Nat.le_of_ble_eq_true rfl) d_Top_person_4 rfl (fun H locs hW => ?_)
  have hW : Wr G A s.heap (w_All h cI cZ cJ wr se ga tw np tot gr fa re ss sc (ne + 1) (va_up stt ne none) sco tim cnt ns sp sq sec rt it ans tl un nw td) H locs := hW
  exact R_iret X Y hW rfl rfl d_Top_person_7

set_option maxHeartbeats 4000000 in
set_option maxRecDepth 100000 in
theorem c_Top_person_full (l : Launch) (G : va_G) (cI cZ cJ : ClassId) (h : Nat → Nat) (wr : Nat → Nat) (se : Nat → Bool) (ga : Nat → Option Nat) (tw : Nat → Option Nat) (np : Nat) (tot : Nat) (gr : Nat → Nat) (fa : Nat → Nat) (re : Nat → Bool) (ss : Nat → Nat) (sc : Nat → Nat) (ne : Nat) (stt : Nat → Option Nat) (sco : Nat → Nat) (tim : Nat → Nat) (cnt : Nat → Nat) (ns : Nat) (sp : Nat → Nat) (sq : Nat → Nat) (sec : Nat → Nat) (rt : Nat → Bool) (it : Nat → Nat) (ans : Nat → Nat) (tl : Nat) (un : Nat → Nat) (nw : Nat → Nat) (td : Nat → Nat)  (hn : ne = 20) : Ct l G (tyL cI cZ cJ) y_Top_person b_Top_person 1 (some .int) (rmL 1) [.ref (h 0)] (w_All h cI cZ cJ wr se ga tw np tot gr fa re ss sc ne stt sco tim cnt ns sp sq sec rt it ans tl un nw td) (some (.int (-1))) (w_All h cI cZ cJ wr se ga tw np tot gr fa re ss sc ne stt sco tim cnt ns sp sq sec rt it ans tl un nw td) := by
  refine M_start (by decide) (Nat.le_of_ble_eq_true rfl) ?_
  intro p e s m args below meth c A Q ls X Y hW hl
  have hx := X.1.1
  have hb := X.1.2.1
  have hl : lv_has ls 1 [(0, .ref (h 0))] := hl
  refine lv_aload_n hx hb d_Top_person_0 rfl (lv_at hl 0 rfl) ?_
  refine R_get X hW i_Top rfl 1 (by decide) kf_Top_19 0 rfl rfl d_Top_person_1 ?_
  refine R_callV (q0 := 11) (c_Persons_add_full l G cI cZ cJ h ne stt sco tim cnt hn) X rfl hW cw_Top_63 ki_Persons_add ks_Persons_add rfl rfl ⟨rfl, rfl⟩ ⟨by decide, by decide⟩ ⟨Nat.zero_le _, Nat.zero_le _⟩ [false, false, false, false, false, false, false, false, false, false, false, true, true, true, true, true, false, false, false, false, false, false, false, false, false, false, false, false] rfl (Nat.le_of_ble_eq_true rfl) rfl rfl hl.1 rfl rfl (Nat.le_of_ble_eq_true rfl) d_Top_person_4 rfl (fun H locs hW => ?_)
  have hW : Wr G A s.heap (w_All h cI cZ cJ wr se ga tw np tot gr fa re ss sc ne stt sco tim cnt ns sp sq sec rt it ans tl un nw td) H locs := hW
  exact R_iret X Y hW rfl rfl d_Top_person_7

theorem kf_Top_33 : Cond.fieldLink "ContestRows" 33 "ContestRows" "text" "LContestRows$RuleText;" ∈ TBL := TBL_t (List.mem_append_left _ (List.mem_of_getElem? (i := 145) rfl)) rfl
theorem kb_RuleText_add : Cond.code y_RuleText_add b_RuleText_add 2 (some .boolean) ∈ TBL := TBL_t (List.mem_append_left _ (List.mem_of_getElem? (i := 201) rfl)) rfl
theorem kn_RuleText : Cond.initialized "ContestRows$RuleText" ∈ TBL := TBL_t (List.mem_append_left _ (List.mem_of_getElem? (i := 5) rfl)) rfl
theorem km_Top_66 : Cond.methodLink "ContestRows" 66 y_RuleText_add ∈ TBL := TBL_t (List.mem_append_left _ (List.mem_of_getElem? (i := 198) rfl)) rfl
theorem cw_Top_66 : Cw "ContestRows" 66 y_RuleText_add b_RuleText_add 2 (some .boolean) 1 := ⟨kb_RuleText_add, kn_RuleText, km_Top_66, by decide +kernel⟩
theorem ki_RuleText_add : Cond.instanceMethod y_RuleText_add ∈ TBL := TBL_t (List.mem_append_left _ (List.mem_of_getElem? (i := 199) rfl)) rfl
theorem ks_RuleText_add : Cond.selects "ContestRows$RuleText" y_RuleText_add y_RuleText_add ∈ TBL := TBL_t (List.mem_append_left _ (List.mem_of_getElem? (i := 200) rfl)) rfl
set_option maxHeartbeats 4000000 in
set_option maxRecDepth 100000 in
theorem c_Top_unit_ok (l : Launch) (G : va_G) (cI cZ cJ : ClassId) (h : Nat → Nat) (wr : Nat → Nat) (se : Nat → Bool) (ga : Nat → Option Nat) (tw : Nat → Option Nat) (np : Nat) (tot : Nat) (gr : Nat → Nat) (fa : Nat → Nat) (re : Nat → Bool) (ss : Nat → Nat) (sc : Nat → Nat) (ne : Nat) (stt : Nat → Option Nat) (sco : Nat → Nat) (tim : Nat → Nat) (cnt : Nat → Nat) (ns : Nat) (sp : Nat → Nat) (sq : Nat → Nat) (sec : Nat → Nat) (rt : Nat → Bool) (it : Nat → Nat) (ans : Nat → Nat) (tl : Nat) (un : Nat → Nat) (nw : Nat → Nat) (td : Nat → Nat) (u : Nat) (hu : u ≤ 255) (hn : tl < 100) : Ct l G (tyL cI cZ cJ) y_Top_unit b_Top_unit 2 (some .boolean) (rmL 1) [.ref (h 0), .int (nI u)] (w_All h cI cZ cJ wr se ga tw np tot gr fa re ss sc ne stt sco tim cnt ns sp sq sec rt it ans tl un nw td) (some (.int (bI true))) (w_All h cI cZ cJ wr se ga tw np tot gr fa re ss sc ne stt sco tim cnt ns sp sq sec rt it ans (tl + 1) (va_up un tl u) nw td) := by
  refine M_start (by decide) (Nat.le_of_ble_eq_true rfl) ?_
  intro p e s m args below meth c A Q ls X Y hW hl
  have hx := X.1.1
  have hb := X.1.2.1
  have hl : lv_has ls 2 [(0, .ref (h 0)), (1, .int (nI u))] := hl
  refine lv_aload_n hx hb d_Top_unit_0 rfl (lv_at hl 0 rfl) ?_
  refine R_get X hW i_Top rfl 3 (by decide) kf_Top_33 0 rfl rfl d_Top_unit_1 ?_
  refine lv_iload_n hx hb d_Top_unit_4 rfl (lv_at hl 1 rfl) ?_
  refine R_callV (q0 := 23) (c_RuleText_add_ok l G cI cZ cJ h tl un u hu hn) X rfl hW cw_Top_66 ki_RuleText_add ks_RuleText_add rfl rfl ⟨rfl, rfl⟩ ⟨by decide, by decide⟩ ⟨Nat.zero_le _, Nat.zero_le _⟩ [false, false, false, false, false, false, false, false, false, false, false, false, false, false, false, false, false, false, false, false, false, false, false, true, true, false, false, false] rfl (Nat.le_of_ble_eq_true rfl) rfl rfl hl.1 rfl rfl (Nat.le_of_ble_eq_true rfl) d_Top_unit_5 rfl (fun H locs hW => ?_)
  have hW : Wr G A s.heap (w_All h cI cZ cJ wr se ga tw np tot gr fa re ss sc ne stt sco tim cnt ns sp sq sec rt it ans (tl + 1) (va_up un tl u) nw td) H locs := hW
  exact R_zret X Y hW rfl true rfl rfl d_Top_unit_8

set_option maxHeartbeats 4000000 in
set_option maxRecDepth 100000 in
theorem c_Top_unit_bad (l : Launch) (G : va_G) (cI cZ cJ : ClassId) (h : Nat → Nat) (wr : Nat → Nat) (se : Nat → Bool) (ga : Nat → Option Nat) (tw : Nat → Option Nat) (np : Nat) (tot : Nat) (gr : Nat → Nat) (fa : Nat → Nat) (re : Nat → Bool) (ss : Nat → Nat) (sc : Nat → Nat) (ne : Nat) (stt : Nat → Option Nat) (sco : Nat → Nat) (tim : Nat → Nat) (cnt : Nat → Nat) (ns : Nat) (sp : Nat → Nat) (sq : Nat → Nat) (sec : Nat → Nat) (rt : Nat → Bool) (it : Nat → Nat) (ans : Nat → Nat) (tl : Nat) (un : Nat → Nat) (nw : Nat → Nat) (td : Nat → Nat) (u : Int32) (hu : ¬ (0 ≤ u.toInt ∧ u.toInt ≤ 255 ∧ tl < 100)) (hn : tl ≤ 100) : Ct l G (tyL cI cZ cJ) y_Top_unit b_Top_unit 2 (some .boolean) (rmL 1) [.ref (h 0), .int u] (w_All h cI cZ cJ wr se ga tw np tot gr fa re ss sc ne stt sco tim cnt ns sp sq sec rt it ans tl un nw td) (some (.int (bI false))) (w_All h cI cZ cJ wr se ga tw np tot gr fa re ss sc ne stt sco tim cnt ns sp sq sec rt it ans tl un nw td) := by
  refine M_start (by decide) (Nat.le_of_ble_eq_true rfl) ?_
  intro p e s m args below meth c A Q ls X Y hW hl
  have hx := X.1.1
  have hb := X.1.2.1
  have hl : lv_has ls 2 [(0, .ref (h 0)), (1, .int u)] := hl
  refine lv_aload_n hx hb d_Top_unit_0 rfl (lv_at hl 0 rfl) ?_
  refine R_get X hW i_Top rfl 3 (by decide) kf_Top_33 0 rfl rfl d_Top_unit_1 ?_
  refine lv_iload_n hx hb d_Top_unit_4 rfl (lv_at hl 1 rfl) ?_
  refine R_callV (q0 := 23) (c_RuleText_add_bad l G cI cZ cJ h tl un u hu hn) X rfl hW cw_Top_66 ki_RuleText_add ks_RuleText_add rfl rfl ⟨rfl, rfl⟩ ⟨by decide, by decide⟩ ⟨Nat.zero_le _, Nat.zero_le _⟩ [false, false, false, false, false, false, false, false, false, false, false, false, false, false, false, false, false, false, false, false, false, false, false, true, true, false, false, false] rfl (Nat.le_of_ble_eq_true rfl) rfl rfl hl.1 rfl rfl (Nat.le_of_ble_eq_true rfl) d_Top_unit_5 rfl (fun H locs hW => ?_)
  have hW : Wr G A s.heap (w_All h cI cZ cJ wr se ga tw np tot gr fa re ss sc ne stt sco tim cnt ns sp sq sec rt it ans tl un nw td) H locs := hW
  exact R_zret X Y hW rfl false rfl rfl d_Top_unit_8

theorem kb_Persons_has : Cond.code y_Persons_has b_Persons_has 2 (some .boolean) ∈ TBL := TBL_t (List.mem_append_right _ (List.mem_append_left _ (List.mem_of_getElem? (i := 95) rfl))) rfl
theorem km_Top_76 : Cond.methodLink "ContestRows" 76 y_Persons_has ∈ TBL := TBL_t (List.mem_append_right _ (List.mem_append_left _ (List.mem_of_getElem? (i := 92) rfl))) rfl
theorem cw_Top_76 : Cw "ContestRows" 76 y_Persons_has b_Persons_has 2 (some .boolean) 1 := ⟨kb_Persons_has, kn_Persons, km_Top_76, by decide +kernel⟩
theorem ki_Persons_has : Cond.instanceMethod y_Persons_has ∈ TBL := TBL_t (List.mem_append_right _ (List.mem_append_left _ (List.mem_of_getElem? (i := 93) rfl))) rfl
theorem ks_Persons_has : Cond.selects "ContestRows$Persons" y_Persons_has y_Persons_has ∈ TBL := TBL_t (List.mem_append_right _ (List.mem_append_left _ (List.mem_of_getElem? (i := 94) rfl))) rfl
theorem kc_Top_79 : Cond.constant "ContestRows" 79 1000000 ∈ TBL := TBL_t (List.mem_append_right _ (List.mem_append_left _ (List.mem_of_getElem? (i := 96) rfl))) rfl
set_option maxHeartbeats 4000000 in
set_option maxRecDepth 100000 in
theorem c_Top_start_bad (l : Launch) (G : va_G) (cI cZ cJ : ClassId) (h : Nat → Nat) (wr : Nat → Nat) (se : Nat → Bool) (ga : Nat → Option Nat) (tw : Nat → Option Nat) (np : Nat) (tot : Nat) (gr : Nat → Nat) (fa : Nat → Nat) (re : Nat → Bool) (ss : Nat → Nat) (sc : Nat → Nat) (ne : Nat) (stt : Nat → Option Nat) (sco : Nat → Nat) (tim : Nat → Nat) (cnt : Nat → Nat) (ns : Nat) (sp : Nat → Nat) (sq : Nat → Nat) (sec : Nat → Nat) (rt : Nat → Bool) (it : Nat → Nat) (ans : Nat → Nat) (tl : Nat) (un : Nat → Nat) (nw : Nat → Nat) (td : Nat → Nat) (x : Int32) (y : Int32) (hbad : ¬ (inB x ne = true ∧ 0 ≤ y.toInt ∧ y.toInt ≤ 1000000)) (hI : IS np ne ns gr nw sp sq sec it ans stt) : Ct l G (tyL cI cZ cJ) y_Top_start b_Top_start 3 (some .boolean) (rmL 1) [.ref (h 0), .int x, .int y] (w_All h cI cZ cJ wr se ga tw np tot gr fa re ss sc ne stt sco tim cnt ns sp sq sec rt it ans tl un nw td) (some (.int (bI false))) (w_All h cI cZ cJ wr se ga tw np tot gr fa re ss sc ne stt sco tim cnt ns sp sq sec rt it ans tl un nw td) := by
  refine M_start (by decide) (Nat.le_of_ble_eq_true rfl) ?_
  intro p e s m args below meth c A Q ls X Y hW hl
  have hx := X.1.1
  have hb := X.1.2.1
  have hl : lv_has ls 3 [(0, .ref (h 0)), (1, .int x), (2, .int y)] := hl
  obtain ⟨z1, z2, z3, z4, z5, z6, z7, z8, z9, z10, z11, z12, z13⟩ := id hI
  refine lv_aload_n hx hb d_Top_start_0 rfl (lv_at hl 0 rfl) ?_
  refine R_get X hW i_Top rfl 1 (by decide) kf_Top_19 0 rfl rfl d_Top_start_1 ?_
  refine lv_iload_n hx hb d_Top_start_4 rfl (lv_at hl 1 rfl) ?_
  refine R_callV (q0 := 11) (c_Persons_has l G cI cZ cJ h ne stt sco tim cnt x (by omega)) X rfl hW cw_Top_76 ki_Persons_has ks_Persons_has rfl rfl ⟨rfl, rfl⟩ ⟨by decide, by decide⟩ ⟨Nat.zero_le _, Nat.zero_le _⟩ [false, false, false, false, false, false, false, false, false, false, false, true, true, true, true, true, false, false, false, false, false, false, false, false, false, false, false, false] rfl (Nat.le_of_ble_eq_true rfl) rfl rfl hl.1 rfl rfl (Nat.le_of_ble_eq_true rfl) d_Top_start_5 rfl (fun H locs hW => ?_)
  have hW : Wr G A s.heap (w_All h cI cZ cJ wr se ga tw np tot gr fa re ss sc ne stt sco tim cnt ns sp sq sec rt it ans tl un nw td) H locs := hW
  refine N_if_eq_B hx hb  (tgt := 21) d_Top_start_8 (by decide) (fun c8 => ?_) (fun c8 => ?_)
  · refine lv_iconst (v := (nI 0)) hx hb d_Top_start_21 (by decide +kernel) ?_
    exact R_zret X Y hW rfl false (by decide +kernel) rfl d_Top_start_22
  · refine lv_iload_n hx hb d_Top_start_11 rfl (lv_at hl 2 rfl) ?_
    refine N_if_lt_R hx hb  (tgt := 21) d_Top_start_12 (by decide) (fun c12 => ?_) (fun c12 => ?_)
    · refine lv_iconst (v := (nI 0)) hx hb d_Top_start_21 (by decide +kernel) ?_
      exact R_zret X Y hW rfl false (by decide +kernel) rfl d_Top_start_22
    · refine lv_iload_n hx hb d_Top_start_15 rfl (lv_at hl 2 rfl) ?_
      refine lv_ldc hx hb X.1.2.2.2.1 (X.1.2.2.2.2 _ kc_Top_79) d_Top_start_16 ?_
      refine W.eq (g2 := F0 m 18 ls (.int (nI 1000000) :: .int y :: [])) rfl ?_
      refine N_icmp_le_RN hx hb (by decide) (tgt := 23) d_Top_start_18 (by decide) (fun c18 => ?_) (fun c18 => ?_)
      · exact absurd ⟨c8, by omega, by omega⟩ hbad
      · refine lv_iconst (v := (nI 0)) hx hb d_Top_start_21 (by decide +kernel) ?_
        exact R_zret X Y hW rfl false (by decide +kernel) rfl d_Top_start_22

theorem kb_Submissions_anyEarlier : Cond.code y_Submissions_anyEarlier b_Submissions_anyEarlier 4 (some .boolean) ∈ TBL := TBL_t (List.mem_append_right _ (List.mem_append_left _ (List.mem_of_getElem? (i := 100) rfl))) rfl
theorem km_Top_80 : Cond.methodLink "ContestRows" 80 y_Submissions_anyEarlier ∈ TBL := TBL_t (List.mem_append_right _ (List.mem_append_left _ (List.mem_of_getElem? (i := 97) rfl))) rfl
theorem cw_Top_80 : Cw "ContestRows" 80 y_Submissions_anyEarlier b_Submissions_anyEarlier 4 (some .boolean) 2 := ⟨kb_Submissions_anyEarlier, kn_Submissions, km_Top_80, by decide +kernel⟩
theorem ki_Submissions_anyEarlier : Cond.instanceMethod y_Submissions_anyEarlier ∈ TBL := TBL_t (List.mem_append_right _ (List.mem_append_left _ (List.mem_of_getElem? (i := 98) rfl))) rfl
theorem ks_Submissions_anyEarlier : Cond.selects "ContestRows$Submissions" y_Submissions_anyEarlier y_Submissions_anyEarlier ∈ TBL := TBL_t (List.mem_append_right _ (List.mem_append_left _ (List.mem_of_getElem? (i := 99) rfl))) rfl
set_option maxHeartbeats 4000000 in
set_option maxRecDepth 100000 in
theorem c_Top_start_early (l : Launch) (G : va_G) (cI cZ cJ : ClassId) (h : Nat → Nat) (wr : Nat → Nat) (se : Nat → Bool) (ga : Nat → Option Nat) (tw : Nat → Option Nat) (np : Nat) (tot : Nat) (gr : Nat → Nat) (fa : Nat → Nat) (re : Nat → Bool) (ss : Nat → Nat) (sc : Nat → Nat) (ne : Nat) (stt : Nat → Option Nat) (sco : Nat → Nat) (tim : Nat → Nat) (cnt : Nat → Nat) (ns : Nat) (sp : Nat → Nat) (sq : Nat → Nat) (sec : Nat → Nat) (rt : Nat → Bool) (it : Nat → Nat) (ans : Nat → Nat) (tl : Nat) (un : Nat → Nat) (nw : Nat → Nat) (td : Nat → Nat) (x : Nat) (y : Nat) (hx0 : x < ne) (hy0 : y ≤ 1000000) (hany : anyG (fun i => decide (sp i = x ∧ sec i < y)) ns 0 = true) (hI : IS np ne ns gr nw sp sq sec it ans stt) : Ct l G (tyL cI cZ cJ) y_Top_start b_Top_start 3 (some .boolean) (rmL 1) [.ref (h 0), .int (nI x), .int (nI y)] (w_All h cI cZ cJ wr se ga tw np tot gr fa re ss sc ne stt sco tim cnt ns sp sq sec rt it ans tl un nw td) (some (.int (bI false))) (w_All h cI cZ cJ wr se ga tw np tot gr fa re ss sc ne stt sco tim cnt ns sp sq sec rt it ans tl un nw td) := by
  refine M_start (by decide) (Nat.le_of_ble_eq_true rfl) ?_
  intro p e s m args below meth c A Q ls X Y hW hl
  have hx := X.1.1
  have hb := X.1.2.1
  have hl : lv_has ls 3 [(0, .ref (h 0)), (1, .int (nI x)), (2, .int (nI y))] := hl
  obtain ⟨z1, z2, z3, z4, z5, z6, z7, z8, z9, z10, z11, z12, z13⟩ := id hI
  refine lv_aload_n hx hb d_Top_start_0 rfl (lv_at hl 0 rfl) ?_
  refine R_get X hW i_Top rfl 1 (by decide) kf_Top_19 0 rfl rfl d_Top_start_1 ?_
  refine lv_iload_n hx hb d_Top_start_4 rfl (lv_at hl 1 rfl) ?_
  refine R_callV (q0 := 11) (c_Persons_has l G cI cZ cJ h ne stt sco tim cnt (nI x) (by omega)) X rfl hW cw_Top_76 ki_Persons_has ks_Persons_has rfl rfl ⟨rfl, rfl⟩ ⟨by decide, by decide⟩ ⟨Nat.zero_le _, Nat.zero_le _⟩ [false, false, false, false, false, false, false, false, false, false, false, true, true, true, true, true, false, false, false, false, false, false, false, false, false, false, false, false] rfl (Nat.le_of_ble_eq_true rfl) rfl rfl hl.1 rfl rfl (Nat.le_of_ble_eq_true rfl) d_Top_start_5 rfl (fun H locs hW => ?_)
  have hW : Wr G A s.heap (w_All h cI cZ cJ wr se ga tw np tot gr fa re ss sc ne stt sco tim cnt ns sp sq sec rt it ans tl un nw td) H locs := hW
  refine N_if_eq_B hx hb  (tgt := 21) d_Top_start_8 (by decide) (fun c8 => ?_) (fun c8 => ?_)
  · exfalso; rw [inB_nI (by omega) (by omega)] at c8; cases c8
  · refine lv_iload_n hx hb d_Top_start_11 rfl (lv_at hl 2 rfl) ?_
    refine N_if_lt_N hx hb (by omega) (tgt := 21) d_Top_start_12 (by decide) (fun c12 => ?_) (fun c12 => ?_)
    · exfalso; omega
    · refine lv_iload_n hx hb d_Top_start_15 rfl (lv_at hl 2 rfl) ?_
      refine lv_ldc hx hb X.1.2.2.2.1 (X.1.2.2.2.2 _ kc_Top_79) d_Top_start_16 ?_
      refine W.eq (g2 := F0 m 18 ls (.int (nI 1000000) :: .int (nI y) :: [])) rfl ?_
      refine N_icmp_le_NN hx hb (by omega) (by decide) (tgt := 23) d_Top_start_18 (by decide) (fun c18 => ?_) (fun c18 => ?_)
      · refine lv_aload_n hx hb d_Top_start_23 rfl (lv_at hl 0 rfl) ?_
        refine R_get X hW i_Top rfl 2 (by decide) kf_Top_26 0 rfl rfl d_Top_start_24 ?_
        refine lv_iload_n hx hb d_Top_start_27 rfl (lv_at hl 1 rfl) ?_
        refine lv_iload_n hx hb d_Top_start_28 rfl (lv_at hl 2 rfl) ?_
        refine R_callV (q0 := 16) (c_Submissions_anyEarlier l G cI cZ cJ h ns sp sq sec rt it ans x y (by omega) (by omega) z3 (fun i hi => by have := z13 i hi; omega) (fun i hi => by have := z8 i hi; omega)) X rfl hW cw_Top_80 ki_Submissions_anyEarlier ks_Submissions_anyEarlier rfl rfl ⟨rfl, rfl⟩ ⟨by decide, by decide⟩ ⟨Nat.zero_le _, Nat.zero_le _⟩ [false, false, false, false, false, false, false, false, false, false, false, false, false, false, false, false, true, true, true, true, true, true, true, false, false, false, false, false] rfl (Nat.le_of_ble_eq_true rfl) rfl rfl hl.1 rfl rfl (Nat.le_of_ble_eq_true rfl) d_Top_start_29 rfl (fun H locs hW => ?_)
        have hW : Wr G A s.heap (w_All h cI cZ cJ wr se ga tw np tot gr fa re ss sc ne stt sco tim cnt ns sp sq sec rt it ans tl un nw td) H locs := hW
        refine N_if_eq_B hx hb  (tgt := 37) d_Top_start_32 (by decide) (fun c32 => ?_) (fun c32 => ?_)
        · exfalso; rw [hany] at c32; cases c32
        · refine lv_iconst (v := (nI 0)) hx hb d_Top_start_35 (by decide +kernel) ?_
          exact R_zret X Y hW rfl false (by decide +kernel) rfl d_Top_start_36
      · exfalso; omega

set_option maxHeartbeats 4000000 in
set_option maxRecDepth 100000 in
theorem c_Top_start_ok (l : Launch) (G : va_G) (cI cZ cJ : ClassId) (h : Nat → Nat) (wr : Nat → Nat) (se : Nat → Bool) (ga : Nat → Option Nat) (tw : Nat → Option Nat) (np : Nat) (tot : Nat) (gr : Nat → Nat) (fa : Nat → Nat) (re : Nat → Bool) (ss : Nat → Nat) (sc : Nat → Nat) (ne : Nat) (stt : Nat → Option Nat) (sco : Nat → Nat) (tim : Nat → Nat) (cnt : Nat → Nat) (ns : Nat) (sp : Nat → Nat) (sq : Nat → Nat) (sec : Nat → Nat) (rt : Nat → Bool) (it : Nat → Nat) (ans : Nat → Nat) (tl : Nat) (un : Nat → Nat) (nw : Nat → Nat) (td : Nat → Nat) (x : Nat) (y : Nat) (hx0 : x < ne) (hy0 : y ≤ 1000000) (hany : anyG (fun i => decide (sp i = x ∧ sec i < y)) ns 0 = false) (hI : IS np ne ns gr nw sp sq sec it ans stt) : Ct l G (tyL cI cZ cJ) y_Top_start b_Top_start 3 (some .boolean) (rmL 1) [.ref (h 0), .int (nI x), .int (nI y)] (w_All h cI cZ cJ wr se ga tw np tot gr fa re ss sc ne stt sco tim cnt ns sp sq sec rt it ans tl un nw td) (some (.int (bI true))) (w_All h cI cZ cJ wr se ga tw np tot gr fa re ss sc ne (va_up stt x (some y)) sco tim cnt ns sp sq sec rt it ans tl un nw td) := by
  refine M_start (by decide) (Nat.le_of_ble_eq_true rfl) ?_
  intro p e s m args below meth c A Q ls X Y hW hl
  have hx := X.1.1
  have hb := X.1.2.1
  have hl : lv_has ls 3 [(0, .ref (h 0)), (1, .int (nI x)), (2, .int (nI y))] := hl
  obtain ⟨z1, z2, z3, z4, z5, z6, z7, z8, z9, z10, z11, z12, z13⟩ := id hI
  refine lv_aload_n hx hb d_Top_start_0 rfl (lv_at hl 0 rfl) ?_
  refine R_get X hW i_Top rfl 1 (by decide) kf_Top_19 0 rfl rfl d_Top_start_1 ?_
  refine lv_iload_n hx hb d_Top_start_4 rfl (lv_at hl 1 rfl) ?_
  refine R_callV (q0 := 11) (c_Persons_has l G cI cZ cJ h ne stt sco tim cnt (nI x) (by omega)) X rfl hW cw_Top_76 ki_Persons_has ks_Persons_has rfl rfl ⟨rfl, rfl⟩ ⟨by decide, by decide⟩ ⟨Nat.zero_le _, Nat.zero_le _⟩ [false, false, false, false, false, false, false, false, false, false, false, true, true, true, true, true, false, false, false, false, false, false, false, false, false, false, false, false] rfl (Nat.le_of_ble_eq_true rfl) rfl rfl hl.1 rfl rfl (Nat.le_of_ble_eq_true rfl) d_Top_start_5 rfl (fun H locs hW => ?_)
  have hW : Wr G A s.heap (w_All h cI cZ cJ wr se ga tw np tot gr fa re ss sc ne stt sco tim cnt ns sp sq sec rt it ans tl un nw td) H locs := hW
  refine N_if_eq_B hx hb  (tgt := 21) d_Top_start_8 (by decide) (fun c8 => ?_) (fun c8 => ?_)
  · exfalso; rw [inB_nI (by omega) (by omega)] at c8; cases c8
  · refine lv_iload_n hx hb d_Top_start_11 rfl (lv_at hl 2 rfl) ?_
    refine N_if_lt_N hx hb (by omega) (tgt := 21) d_Top_start_12 (by decide) (fun c12 => ?_) (fun c12 => ?_)
    · exfalso; omega
    · refine lv_iload_n hx hb d_Top_start_15 rfl (lv_at hl 2 rfl) ?_
      refine lv_ldc hx hb X.1.2.2.2.1 (X.1.2.2.2.2 _ kc_Top_79) d_Top_start_16 ?_
      refine W.eq (g2 := F0 m 18 ls (.int (nI 1000000) :: .int (nI y) :: [])) rfl ?_
      refine N_icmp_le_NN hx hb (by omega) (by decide) (tgt := 23) d_Top_start_18 (by decide) (fun c18 => ?_) (fun c18 => ?_)
      · refine lv_aload_n hx hb d_Top_start_23 rfl (lv_at hl 0 rfl) ?_
        refine R_get X hW i_Top rfl 2 (by decide) kf_Top_26 0 rfl rfl d_Top_start_24 ?_
        refine lv_iload_n hx hb d_Top_start_27 rfl (lv_at hl 1 rfl) ?_
        refine lv_iload_n hx hb d_Top_start_28 rfl (lv_at hl 2 rfl) ?_
        refine R_callV (q0 := 16) (c_Submissions_anyEarlier l G cI cZ cJ h ns sp sq sec rt it ans x y (by omega) (by omega) z3 (fun i hi => by have := z13 i hi; omega) (fun i hi => by have := z8 i hi; omega)) X rfl hW cw_Top_80 ki_Submissions_anyEarlier ks_Submissions_anyEarlier rfl rfl ⟨rfl, rfl⟩ ⟨by decide, by decide⟩ ⟨Nat.zero_le _, Nat.zero_le _⟩ [false, false, false, false, false, false, false, false, false, false, false, false, false, false, false, false, true, true, true, true, true, true, true, false, false, false, false, false] rfl (Nat.le_of_ble_eq_true rfl) rfl rfl hl.1 rfl rfl (Nat.le_of_ble_eq_true rfl) d_Top_start_29 rfl (fun H locs hW => ?_)
        have hW : Wr G A s.heap (w_All h cI cZ cJ wr se ga tw np tot gr fa re ss sc ne stt sco tim cnt ns sp sq sec rt it ans tl un nw td) H locs := hW
        refine N_if_eq_B hx hb  (tgt := 37) d_Top_start_32 (by decide) (fun c32 => ?_) (fun c32 => ?_)
        · refine lv_aload_n hx hb d_Top_start_37 rfl (lv_at hl 0 rfl) ?_
          refine R_get X hW i_Top rfl 1 (by decide) kf_Top_19 0 rfl rfl d_Top_start_38 ?_
          refine R_get X hW i_Persons rfl 0 (by decide) kf_Top_84 11 rfl rfl d_Top_start_41 ?_
          refine lv_iload_n hx hb d_Top_start_44 rfl (lv_at hl 1 rfl) ?_
          refine lv_iload_n hx hb d_Top_start_45 rfl (lv_at hl 2 rfl) ?_
          refine R_iast X hW (t0 := 0) rfl 12 rfl (k := x) (by omega) (by decide) (some y) rfl d_Top_start_46 (fun H locs hW => ?_)
          have hW : Wr G A s.heap (w_All h cI cZ cJ wr se ga tw np tot gr fa re ss sc ne (va_up stt x (some y)) sco tim cnt ns sp sq sec rt it ans tl un nw td) H locs := hW
          refine lv_iconst (v := (nI 1)) hx hb d_Top_start_47 (by decide +kernel) ?_
          exact R_zret X Y hW rfl true (by decide +kernel) rfl d_Top_start_48
        · exfalso; rw [hany] at c32; cases c32
      · exfalso; omega

theorem kb_Submissions_has : Cond.code y_Submissions_has b_Submissions_has 2 (some .boolean) ∈ TBL := TBL_t (List.mem_append_right _ (List.mem_append_left _ (List.mem_of_getElem? (i := 124) rfl))) rfl
theorem km_Top_91 : Cond.methodLink "ContestRows" 91 y_Submissions_has ∈ TBL := TBL_t (List.mem_append_right _ (List.mem_append_left _ (List.mem_of_getElem? (i := 121) rfl))) rfl
theorem cw_Top_91 : Cw "ContestRows" 91 y_Submissions_has b_Submissions_has 2 (some .boolean) 1 := ⟨kb_Submissions_has, kn_Submissions, km_Top_91, by decide +kernel⟩
theorem ki_Submissions_has : Cond.instanceMethod y_Submissions_has ∈ TBL := TBL_t (List.mem_append_right _ (List.mem_append_left _ (List.mem_of_getElem? (i := 122) rfl))) rfl
theorem ks_Submissions_has : Cond.selects "ContestRows$Submissions" y_Submissions_has y_Submissions_has ∈ TBL := TBL_t (List.mem_append_right _ (List.mem_append_left _ (List.mem_of_getElem? (i := 123) rfl))) rfl
set_option maxHeartbeats 4000000 in
set_option maxRecDepth 100000 in
theorem c_Top_correct_none (l : Launch) (G : va_G) (cI cZ cJ : ClassId) (h : Nat → Nat) (wr : Nat → Nat) (se : Nat → Bool) (ga : Nat → Option Nat) (tw : Nat → Option Nat) (np : Nat) (tot : Nat) (gr : Nat → Nat) (fa : Nat → Nat) (re : Nat → Bool) (ss : Nat → Nat) (sc : Nat → Nat) (ne : Nat) (stt : Nat → Option Nat) (sco : Nat → Nat) (tim : Nat → Nat) (cnt : Nat → Nat) (ns : Nat) (sp : Nat → Nat) (sq : Nat → Nat) (sec : Nat → Nat) (rt : Nat → Bool) (it : Nat → Nat) (ans : Nat → Nat) (tl : Nat) (un : Nat → Nat) (nw : Nat → Nat) (td : Nat → Nat) (x : Int32) (b : Bool) (hbad : inB x ns = false) (hns : ns ≤ 300) : Ct l G (tyL cI cZ cJ) y_Top_correct b_Top_correct 3 (some .boolean) (rmL 1) [.ref (h 0), .int x, .int (bI b)] (w_All h cI cZ cJ wr se ga tw np tot gr fa re ss sc ne stt sco tim cnt ns sp sq sec rt it ans tl un nw td) (some (.int (bI false))) (w_All h cI cZ cJ wr se ga tw np tot gr fa re ss sc ne stt sco tim cnt ns sp sq sec rt it ans tl un nw td) := by
  refine M_start (by decide) (Nat.le_of_ble_eq_true rfl) ?_
  intro p e s m args below meth c A Q ls X Y hW hl
  have hx := X.1.1
  have hb := X.1.2.1
  have hl : lv_has ls 3 [(0, .ref (h 0)), (1, .int x), (2, .int (bI b))] := hl
  refine lv_aload_n hx hb d_Top_correct_0 rfl (lv_at hl 0 rfl) ?_
  refine R_get X hW i_Top rfl 2 (by decide) kf_Top_26 0 rfl rfl d_Top_correct_1 ?_
  refine lv_iload_n hx hb d_Top_correct_4 rfl (lv_at hl 1 rfl) ?_
  refine R_callV (q0 := 16) (c_Submissions_has l G cI cZ cJ h ns sp sq sec rt it ans x (by omega)) X rfl hW cw_Top_91 ki_Submissions_has ks_Submissions_has rfl rfl ⟨rfl, rfl⟩ ⟨by decide, by decide⟩ ⟨Nat.zero_le _, Nat.zero_le _⟩ [false, false, false, false, false, false, false, false, false, false, false, false, false, false, false, false, true, true, true, true, true, true, true, false, false, false, false, false] rfl (Nat.le_of_ble_eq_true rfl) rfl rfl hl.1 rfl rfl (Nat.le_of_ble_eq_true rfl) d_Top_correct_5 rfl (fun H locs hW => ?_)
  have hW : Wr G A s.heap (w_All h cI cZ cJ wr se ga tw np tot gr fa re ss sc ne stt sco tim cnt ns sp sq sec rt it ans tl un nw td) H locs := hW
  refine N_if_eq_B hx hb  (tgt := 24) d_Top_correct_8 (by decide) (fun c8 => ?_) (fun c8 => ?_)
  · refine lv_iconst (v := (nI 0)) hx hb d_Top_correct_24 (by decide +kernel) ?_
    exact R_zret X Y hW rfl false (by decide +kernel) rfl d_Top_correct_25
  · exfalso; rw [hbad] at c8; cases c8

set_option maxHeartbeats 4000000 in
set_option maxRecDepth 100000 in
theorem c_Top_correct_same (l : Launch) (G : va_G) (cI cZ cJ : ClassId) (h : Nat → Nat) (wr : Nat → Nat) (se : Nat → Bool) (ga : Nat → Option Nat) (tw : Nat → Option Nat) (np : Nat) (tot : Nat) (gr : Nat → Nat) (fa : Nat → Nat) (re : Nat → Bool) (ss : Nat → Nat) (sc : Nat → Nat) (ne : Nat) (stt : Nat → Option Nat) (sco : Nat → Nat) (tim : Nat → Nat) (cnt : Nat → Nat) (ns : Nat) (sp : Nat → Nat) (sq : Nat → Nat) (sec : Nat → Nat) (rt : Nat → Bool) (it : Nat → Nat) (ans : Nat → Nat) (tl : Nat) (un : Nat → Nat) (nw : Nat → Nat) (td : Nat → Nat) (x : Nat) (b : Bool) (hx0 : x < ns) (hns : ns ≤ 300) (hb0 : rt x = b) : Ct l G (tyL cI cZ cJ) y_Top_correct b_Top_correct 3 (some .boolean) (rmL 1) [.ref (h 0), .int (nI x), .int (bI b)] (w_All h cI cZ cJ wr se ga tw np tot gr fa re ss sc ne stt sco tim cnt ns sp sq sec rt it ans tl un nw td) (some (.int (bI false))) (w_All h cI cZ cJ wr se ga tw np tot gr fa re ss sc ne stt sco tim cnt ns sp sq sec rt it ans tl un nw td) := by
  refine M_start (by decide) (Nat.le_of_ble_eq_true rfl) ?_
  intro p e s m args below meth c A Q ls X Y hW hl
  have hx := X.1.1
  have hb := X.1.2.1
  have hl : lv_has ls 3 [(0, .ref (h 0)), (1, .int (nI x)), (2, .int (bI b))] := hl
  refine lv_aload_n hx hb d_Top_correct_0 rfl (lv_at hl 0 rfl) ?_
  refine R_get X hW i_Top rfl 2 (by decide) kf_Top_26 0 rfl rfl d_Top_correct_1 ?_
  refine lv_iload_n hx hb d_Top_correct_4 rfl (lv_at hl 1 rfl) ?_
  refine R_callV (q0 := 16) (c_Submissions_has l G cI cZ cJ h ns sp sq sec rt it ans (nI x) (by omega)) X rfl hW cw_Top_91 ki_Submissions_has ks_Submissions_has rfl rfl ⟨rfl, rfl⟩ ⟨by decide, by decide⟩ ⟨Nat.zero_le _, Nat.zero_le _⟩ [false, false, false, false, false, false, false, false, false, false, false, false, false, false, false, false, true, true, true, true, true, true, true, false, false, false, false, false] rfl (Nat.le_of_ble_eq_true rfl) rfl rfl hl.1 rfl rfl (Nat.le_of_ble_eq_true rfl) d_Top_correct_5 rfl (fun H locs hW => ?_)
  have hW : Wr G A s.heap (w_All h cI cZ cJ wr se ga tw np tot gr fa re ss sc ne stt sco tim cnt ns sp sq sec rt it ans tl un nw td) H locs := hW
  refine N_if_eq_B hx hb  (tgt := 24) d_Top_correct_8 (by decide) (fun c8 => ?_) (fun c8 => ?_)
  · exfalso; rw [inB_nI (by omega) (by omega)] at c8; cases c8
  · refine lv_aload_n hx hb d_Top_correct_11 rfl (lv_at hl 0 rfl) ?_
    refine R_get X hW i_Top rfl 2 (by decide) kf_Top_26 0 rfl rfl d_Top_correct_12 ?_
    refine R_get X hW i_Submissions rfl 3 (by decide) kf_Top_92 16 rfl rfl d_Top_correct_15 ?_
    refine lv_iload_n hx hb d_Top_correct_18 rfl (lv_at hl 1 rfl) ?_
    refine R_zald X hW (t0 := 1) rfl 20 rfl (k := x) (by omega) (by decide) d_Top_correct_19 ?_
    refine lv_iload_n hx hb d_Top_correct_20 rfl (lv_at hl 2 rfl) ?_
    refine N_icmp_ne_BB hx hb (tgt := 26) d_Top_correct_21 (by decide) (fun c21 => ?_) (fun c21 => ?_)
    · exact absurd hb0 c21
    · refine lv_iconst (v := (nI 0)) hx hb d_Top_correct_24 (by decide +kernel) ?_
      exact R_zret X Y hW rfl false (by decide +kernel) rfl d_Top_correct_25

set_option maxHeartbeats 4000000 in
set_option maxRecDepth 100000 in
theorem c_Top_correct_ok (l : Launch) (G : va_G) (cI cZ cJ : ClassId) (h : Nat → Nat) (wr : Nat → Nat) (se : Nat → Bool) (ga : Nat → Option Nat) (tw : Nat → Option Nat) (np : Nat) (tot : Nat) (gr : Nat → Nat) (fa : Nat → Nat) (re : Nat → Bool) (ss : Nat → Nat) (sc : Nat → Nat) (ne : Nat) (stt : Nat → Option Nat) (sco : Nat → Nat) (tim : Nat → Nat) (cnt : Nat → Nat) (ns : Nat) (sp : Nat → Nat) (sq : Nat → Nat) (sec : Nat → Nat) (rt : Nat → Bool) (it : Nat → Nat) (ans : Nat → Nat) (tl : Nat) (un : Nat → Nat) (nw : Nat → Nat) (td : Nat → Nat) (x : Nat) (b : Bool) (hx0 : x < ns) (hns : ns ≤ 300) (hb0 : rt x ≠ b) : Ct l G (tyL cI cZ cJ) y_Top_correct b_Top_correct 3 (some .boolean) (rmL 1) [.ref (h 0), .int (nI x), .int (bI b)] (w_All h cI cZ cJ wr se ga tw np tot gr fa re ss sc ne stt sco tim cnt ns sp sq sec rt it ans tl un nw td) (some (.int (bI true))) (w_All h cI cZ cJ wr se ga tw np tot gr fa re ss sc ne stt sco tim cnt ns sp sq sec (va_up rt x b) it ans tl un nw td) := by
  refine M_start (by decide) (Nat.le_of_ble_eq_true rfl) ?_
  intro p e s m args below meth c A Q ls X Y hW hl
  have hx := X.1.1
  have hb := X.1.2.1
  have hl : lv_has ls 3 [(0, .ref (h 0)), (1, .int (nI x)), (2, .int (bI b))] := hl
  refine lv_aload_n hx hb d_Top_correct_0 rfl (lv_at hl 0 rfl) ?_
  refine R_get X hW i_Top rfl 2 (by decide) kf_Top_26 0 rfl rfl d_Top_correct_1 ?_
  refine lv_iload_n hx hb d_Top_correct_4 rfl (lv_at hl 1 rfl) ?_
  refine R_callV (q0 := 16) (c_Submissions_has l G cI cZ cJ h ns sp sq sec rt it ans (nI x) (by omega)) X rfl hW cw_Top_91 ki_Submissions_has ks_Submissions_has rfl rfl ⟨rfl, rfl⟩ ⟨by decide, by decide⟩ ⟨Nat.zero_le _, Nat.zero_le _⟩ [false, false, false, false, false, false, false, false, false, false, false, false, false, false, false, false, true, true, true, true, true, true, true, false, false, false, false, false] rfl (Nat.le_of_ble_eq_true rfl) rfl rfl hl.1 rfl rfl (Nat.le_of_ble_eq_true rfl) d_Top_correct_5 rfl (fun H locs hW => ?_)
  have hW : Wr G A s.heap (w_All h cI cZ cJ wr se ga tw np tot gr fa re ss sc ne stt sco tim cnt ns sp sq sec rt it ans tl un nw td) H locs := hW
  refine N_if_eq_B hx hb  (tgt := 24) d_Top_correct_8 (by decide) (fun c8 => ?_) (fun c8 => ?_)
  · exfalso; rw [inB_nI (by omega) (by omega)] at c8; cases c8
  · refine lv_aload_n hx hb d_Top_correct_11 rfl (lv_at hl 0 rfl) ?_
    refine R_get X hW i_Top rfl 2 (by decide) kf_Top_26 0 rfl rfl d_Top_correct_12 ?_
    refine R_get X hW i_Submissions rfl 3 (by decide) kf_Top_92 16 rfl rfl d_Top_correct_15 ?_
    refine lv_iload_n hx hb d_Top_correct_18 rfl (lv_at hl 1 rfl) ?_
    refine R_zald X hW (t0 := 1) rfl 20 rfl (k := x) (by omega) (by decide) d_Top_correct_19 ?_
    refine lv_iload_n hx hb d_Top_correct_20 rfl (lv_at hl 2 rfl) ?_
    refine N_icmp_ne_BB hx hb (tgt := 26) d_Top_correct_21 (by decide) (fun c21 => ?_) (fun c21 => ?_)
    · refine lv_aload_n hx hb d_Top_correct_26 rfl (lv_at hl 0 rfl) ?_
      refine R_get X hW i_Top rfl 2 (by decide) kf_Top_26 0 rfl rfl d_Top_correct_27 ?_
      refine R_get X hW i_Submissions rfl 3 (by decide) kf_Top_92 16 rfl rfl d_Top_correct_30 ?_
      refine lv_iload_n hx hb d_Top_correct_33 rfl (lv_at hl 1 rfl) ?_
      refine lv_iload_n hx hb d_Top_correct_34 rfl (lv_at hl 2 rfl) ?_
      refine R_zast X hW (t0 := 1) rfl 20 rfl (k := x) (by omega) (by decide) b rfl d_Top_correct_35 (fun H locs hW => ?_)
      have hW : Wr G A s.heap (w_All h cI cZ cJ wr se ga tw np tot gr fa re ss sc ne stt sco tim cnt ns sp sq sec (va_up rt x b) it ans tl un nw td) H locs := hW
      refine lv_iconst (v := (nI 1)) hx hb d_Top_correct_36 (by decide +kernel) ?_
      exact R_zret X Y hW rfl true (by decide +kernel) rfl d_Top_correct_37
    · exact absurd c21 hb0

set_option maxHeartbeats 4000000 in
set_option maxRecDepth 100000 in
theorem c_Top_late_none (l : Launch) (G : va_G) (cI cZ cJ : ClassId) (h : Nat → Nat) (wr : Nat → Nat) (se : Nat → Bool) (ga : Nat → Option Nat) (tw : Nat → Option Nat) (np : Nat) (tot : Nat) (gr : Nat → Nat) (fa : Nat → Nat) (re : Nat → Bool) (ss : Nat → Nat) (sc : Nat → Nat) (ne : Nat) (stt : Nat → Option Nat) (sco : Nat → Nat) (tim : Nat → Nat) (cnt : Nat → Nat) (ns : Nat) (sp : Nat → Nat) (sq : Nat → Nat) (sec : Nat → Nat) (rt : Nat → Bool) (it : Nat → Nat) (ans : Nat → Nat) (tl : Nat) (un : Nat → Nat) (nw : Nat → Nat) (td : Nat → Nat) (x : Int32) (hbad : inB x ns = false) (hns : ns ≤ 300) : Ct l G (tyL cI cZ cJ) y_Top_late b_Top_late 2 (some .boolean) (rmL 1) [.ref (h 0), .int x] (w_All h cI cZ cJ wr se ga tw np tot gr fa re ss sc ne stt sco tim cnt ns sp sq sec rt it ans tl un nw td) (some (.int (bI false))) (w_All h cI cZ cJ wr se ga tw np tot gr fa re ss sc ne stt sco tim cnt ns sp sq sec rt it ans tl un nw td) := by
  refine M_start (by decide) (Nat.le_of_ble_eq_true rfl) ?_
  intro p e s m args below meth c A Q ls X Y hW hl
  have hx := X.1.1
  have hb := X.1.2.1
  have hl : lv_has ls 2 [(0, .ref (h 0)), (1, .int x)] := hl
  refine lv_aload_n hx hb d_Top_late_0 rfl (lv_at hl 0 rfl) ?_
  refine R_get X hW i_Top rfl 2 (by decide) kf_Top_26 0 rfl rfl d_Top_late_1 ?_
  refine lv_iload_n hx hb d_Top_late_4 rfl (lv_at hl 1 rfl) ?_
  refine R_callV (q0 := 16) (c_Submissions_has l G cI cZ cJ h ns sp sq sec rt it ans x (by omega)) X rfl hW cw_Top_91 ki_Submissions_has ks_Submissions_has rfl rfl ⟨rfl, rfl⟩ ⟨by decide, by decide⟩ ⟨Nat.zero_le _, Nat.zero_le _⟩ [false, false, false, false, false, false, false, false, false, false, false, false, false, false, false, false, true, true, true, true, true, true, true, false, false, false, false, false] rfl (Nat.le_of_ble_eq_true rfl) rfl rfl hl.1 rfl rfl (Nat.le_of_ble_eq_true rfl) d_Top_late_5 rfl (fun H locs hW => ?_)
  have hW : Wr G A s.heap (w_All h cI cZ cJ wr se ga tw np tot gr fa re ss sc ne stt sco tim cnt ns sp sq sec rt it ans tl un nw td) H locs := hW
  refine N_if_eq_B hx hb  (tgt := 30) d_Top_late_8 (by decide) (fun c8 => ?_) (fun c8 => ?_)
  · refine lv_iconst (v := (nI 0)) hx hb d_Top_late_30 (by decide +kernel) ?_
    exact R_zret X Y hW rfl false (by decide +kernel) rfl d_Top_late_31
  · exfalso; rw [hbad] at c8; cases c8

set_option maxHeartbeats 4000000 in
set_option maxRecDepth 100000 in
theorem c_Top_late_some (l : Launch) (G : va_G) (cI cZ cJ : ClassId) (h : Nat → Nat) (wr : Nat → Nat) (se : Nat → Bool) (ga : Nat → Option Nat) (tw : Nat → Option Nat) (np : Nat) (tot : Nat) (gr : Nat → Nat) (fa : Nat → Nat) (re : Nat → Bool) (ss : Nat → Nat) (sc : Nat → Nat) (ne : Nat) (stt : Nat → Option Nat) (sco : Nat → Nat) (tim : Nat → Nat) (cnt : Nat → Nat) (ns : Nat) (sp : Nat → Nat) (sq : Nat → Nat) (sec : Nat → Nat) (rt : Nat → Bool) (it : Nat → Nat) (ans : Nat → Nat) (tl : Nat) (un : Nat → Nat) (nw : Nat → Nat) (td : Nat → Nat) (x : Nat) (s0 : Nat) (hx0 : x < ns) (hs0 : stt (sp x) = some s0) (hle : s0 ≤ sec x) (hI : IS np ne ns gr nw sp sq sec it ans stt) : Ct l G (tyL cI cZ cJ) y_Top_late b_Top_late 2 (some .boolean) (rmL 1) [.ref (h 0), .int (nI x)] (w_All h cI cZ cJ wr se ga tw np tot gr fa re ss sc ne stt sco tim cnt ns sp sq sec rt it ans tl un nw td) (some (.int (bI (decide (nw 3 < sec x - s0))))) (w_All h cI cZ cJ wr se ga tw np tot gr fa re ss sc ne stt sco tim cnt ns sp sq sec rt it ans tl un nw td) := by
  refine M_start (by decide) (Nat.le_of_ble_eq_true rfl) ?_
  intro p e s m args below meth c A Q ls X Y hW hl
  have hx := X.1.1
  have hb := X.1.2.1
  have hl : lv_has ls 2 [(0, .ref (h 0)), (1, .int (nI x))] := hl
  obtain ⟨z1, z2, z3, z4, z5, z6, z7, z8, z9, z10, z11, z12, z13⟩ := id hI
  have y4 := z8 x (by omega)
  refine lv_aload_n hx hb d_Top_late_0 rfl (lv_at hl 0 rfl) ?_
  refine R_get X hW i_Top rfl 2 (by decide) kf_Top_26 0 rfl rfl d_Top_late_1 ?_
  refine lv_iload_n hx hb d_Top_late_4 rfl (lv_at hl 1 rfl) ?_
  refine R_callV (q0 := 16) (c_Submissions_has l G cI cZ cJ h ns sp sq sec rt it ans (nI x) (by omega)) X rfl hW cw_Top_91 ki_Submissions_has ks_Submissions_has rfl rfl ⟨rfl, rfl⟩ ⟨by decide, by decide⟩ ⟨Nat.zero_le _, Nat.zero_le _⟩ [false, false, false, false, false, false, false, false, false, false, false, false, false, false, false, false, true, true, true, true, true, true, true, false, false, false, false, false] rfl (Nat.le_of_ble_eq_true rfl) rfl rfl hl.1 rfl rfl (Nat.le_of_ble_eq_true rfl) d_Top_late_5 rfl (fun H locs hW => ?_)
  have hW : Wr G A s.heap (w_All h cI cZ cJ wr se ga tw np tot gr fa re ss sc ne stt sco tim cnt ns sp sq sec rt it ans tl un nw td) H locs := hW
  refine N_if_eq_B hx hb  (tgt := 30) d_Top_late_8 (by decide) (fun c8 => ?_) (fun c8 => ?_)
  · exfalso; rw [inB_nI (by omega) (by omega)] at c8; cases c8
  · refine lv_aload_n hx hb d_Top_late_11 rfl (lv_at hl 0 rfl) ?_
    refine R_get X hW i_Top rfl 4 (by decide) kf_Top_40 0 rfl rfl d_Top_late_12 ?_
    refine lv_aload_n hx hb d_Top_late_15 rfl (lv_at hl 0 rfl) ?_
    refine lv_iload_n hx hb d_Top_late_16 rfl (lv_at hl 1 rfl) ?_
    refine R_callV (q0 := 0) (c_Top_secondsFromStart l G cI cZ cJ h wr se ga tw np tot gr fa re ss sc ne stt sco tim cnt ns sp sq sec rt it ans tl un nw td x s0 (by omega) (z13 x (by omega)).1 hs0 hle) X rfl hW cw_Top_95 ki_Top_secondsFromStart ks_Top_secondsFromStart rfl rfl ⟨rfl, rfl⟩ ⟨by decide, by decide⟩ ⟨Nat.zero_le _, Nat.zero_le _⟩ [true, true, true, true, true, true, true, true, true, true, true, true, true, true, true, true, true, true, true, true, true, true, true, true, true, true, true, true] rfl (Nat.le_of_ble_eq_true rfl) rfl rfl hl.1 rfl rfl (Nat.le_of_ble_eq_true rfl) d_Top_late_17 rfl (fun H locs hW => ?_)
    have hW : Wr G A s.heap (w_All h cI cZ cJ wr se ga tw np tot gr fa re ss sc ne stt sco tim cnt ns sp sq sec rt it ans tl un nw td) H locs := hW
    refine R_callV (q0 := 25) (c_Rules_isLate l G cI cZ cJ h nw td (sec x - s0) (by omega) z5) X rfl hW cw_Top_98 ki_Rules_isLate ks_Rules_isLate rfl rfl ⟨rfl, rfl⟩ ⟨by decide, by decide⟩ ⟨Nat.zero_le _, Nat.zero_le _⟩ [false, false, false, false, false, false, false, false, false, false, false, false, false, false, false, false, false, false, false, false, false, false, false, false, false, true, true, true] rfl (Nat.le_of_ble_eq_true rfl) rfl rfl hl.1 rfl rfl (Nat.le_of_ble_eq_true rfl) d_Top_late_20 rfl (fun H locs hW => ?_)
    have hW : Wr G A s.heap (w_All h cI cZ cJ wr se ga tw np tot gr fa re ss sc ne stt sco tim cnt ns sp sq sec rt it ans tl un nw td) H locs := hW
    refine N_if_eq_B hx hb  (tgt := 30) d_Top_late_23 (by decide) (fun c23 => ?_) (fun c23 => ?_)
    · refine lv_iconst (v := (nI 0)) hx hb d_Top_late_30 (by decide +kernel) ?_
      exact R_zret X Y hW rfl false (by decide +kernel) (by rw [c23]) d_Top_late_31
    · refine lv_iconst (v := (nI 1)) hx hb d_Top_late_26 (by decide +kernel) ?_
      refine lv_goto (tgt := 31) hx hb d_Top_late_27 (by decide) ?_
      exact R_zret X Y hW rfl true (by decide +kernel) (by rw [c23]) d_Top_late_31

theorem kb_Puzzles_has : Cond.code y_Puzzles_has b_Puzzles_has 2 (some .boolean) ∈ TBL := TBL_t (List.mem_append_right _ (List.mem_append_left _ (List.mem_of_getElem? (i := 108) rfl))) rfl
theorem km_Top_87 : Cond.methodLink "ContestRows" 87 y_Puzzles_has ∈ TBL := TBL_t (List.mem_append_right _ (List.mem_append_left _ (List.mem_of_getElem? (i := 105) rfl))) rfl
theorem cw_Top_87 : Cw "ContestRows" 87 y_Puzzles_has b_Puzzles_has 2 (some .boolean) 1 := ⟨kb_Puzzles_has, kn_Puzzles, km_Top_87, by decide +kernel⟩
theorem ki_Puzzles_has : Cond.instanceMethod y_Puzzles_has ∈ TBL := TBL_t (List.mem_append_right _ (List.mem_append_left _ (List.mem_of_getElem? (i := 106) rfl))) rfl
theorem ks_Puzzles_has : Cond.selects "ContestRows$Puzzles" y_Puzzles_has y_Puzzles_has ∈ TBL := TBL_t (List.mem_append_right _ (List.mem_append_left _ (List.mem_of_getElem? (i := 107) rfl))) rfl
set_option maxHeartbeats 4000000 in
set_option maxRecDepth 100000 in
theorem c_Top_even_bad (l : Launch) (G : va_G) (cI cZ cJ : ClassId) (h : Nat → Nat) (wr : Nat → Nat) (se : Nat → Bool) (ga : Nat → Option Nat) (tw : Nat → Option Nat) (np : Nat) (tot : Nat) (gr : Nat → Nat) (fa : Nat → Nat) (re : Nat → Bool) (ss : Nat → Nat) (sc : Nat → Nat) (ne : Nat) (stt : Nat → Option Nat) (sco : Nat → Nat) (tim : Nat → Nat) (cnt : Nat → Nat) (ns : Nat) (sp : Nat → Nat) (sq : Nat → Nat) (sec : Nat → Nat) (rt : Nat → Bool) (it : Nat → Nat) (ans : Nat → Nat) (tl : Nat) (un : Nat → Nat) (nw : Nat → Nat) (td : Nat → Nat) (k : Int32) (q : Int32) (hbad : ¬ (1 ≤ k.toInt ∧ k.toInt ≤ 6 ∧ inB q np = true)) (hn : np ≤ 20) : Ct l G (tyL cI cZ cJ) y_Top_even b_Top_even 3 (some .int) (rmL 1) [.ref (h 0), .int k, .int q] (w_All h cI cZ cJ wr se ga tw np tot gr fa re ss sc ne stt sco tim cnt ns sp sq sec rt it ans tl un nw td) (some (.int (-1))) (w_All h cI cZ cJ wr se ga tw np tot gr fa re ss sc ne stt sco tim cnt ns sp sq sec rt it ans tl un nw td) := by
  refine M_start (by decide) (Nat.le_of_ble_eq_true rfl) ?_
  intro p e s m args below meth c A Q ls X Y hW hl
  have hx := X.1.1
  have hb := X.1.2.1
  have hl : lv_has ls 3 [(0, .ref (h 0)), (1, .int k), (2, .int q)] := hl
  refine lv_iload_n hx hb d_Top_even_0 rfl (lv_at hl 1 rfl) ?_
  refine lv_iconst (v := (nI 1)) hx hb d_Top_even_1 (by decide +kernel) ?_
  refine N_icmp_lt_RN hx hb (by decide) (tgt := 22) d_Top_even_2 (by decide) (fun c2 => ?_) (fun c2 => ?_)
  · refine lv_iconst (v := (-1)) hx hb d_Top_even_22 (by decide +kernel) ?_
    exact R_iret X Y hW rfl rfl d_Top_even_23
  · refine lv_iload_n hx hb d_Top_even_5 rfl (lv_at hl 1 rfl) ?_
    refine lv_bipush (v := (nI 6)) hx hb d_Top_even_6 (by decide +kernel) ?_
    refine N_icmp_gt_RN hx hb (by decide) (tgt := 22) d_Top_even_8 (by decide) (fun c8 => ?_) (fun c8 => ?_)
    · refine lv_iconst (v := (-1)) hx hb d_Top_even_22 (by decide +kernel) ?_
      exact R_iret X Y hW rfl rfl d_Top_even_23
    · refine lv_aload_n hx hb d_Top_even_11 rfl (lv_at hl 0 rfl) ?_
      refine R_get X hW i_Top rfl 0 (by decide) kf_Top_10 0 rfl rfl d_Top_even_12 ?_
      refine lv_iload_n hx hb d_Top_even_15 rfl (lv_at hl 2 rfl) ?_
      refine R_callV (q0 := 5) (c_Puzzles_has l G cI cZ cJ h np tot gr fa re ss sc q (by omega)) X rfl hW cw_Top_87 ki_Puzzles_has ks_Puzzles_has rfl rfl ⟨rfl, rfl⟩ ⟨by decide, by decide⟩ ⟨Nat.zero_le _, Nat.zero_le _⟩ [false, false, false, false, false, true, true, true, true, true, true, false, false, false, false, false, false, false, false, false, false, false, false, false, false, false, false, false] rfl (Nat.le_of_ble_eq_true rfl) rfl rfl hl.1 rfl rfl (Nat.le_of_ble_eq_true rfl) d_Top_even_16 rfl (fun H locs hW => ?_)
      have hW : Wr G A s.heap (w_All h cI cZ cJ wr se ga tw np tot gr fa re ss sc ne stt sco tim cnt ns sp sq sec rt it ans tl un nw td) H locs := hW
      refine N_if_ne_B hx hb  (tgt := 24) d_Top_even_19 (by decide) (fun c19 => ?_) (fun c19 => ?_)
      · exact absurd ⟨by omega, by omega, c19⟩ hbad
      · refine lv_iconst (v := (-1)) hx hb d_Top_even_22 (by decide +kernel) ?_
        exact R_iret X Y hW rfl rfl d_Top_even_23

theorem kb_Puzzles_leastDifference : Cond.code y_Puzzles_leastDifference b_Puzzles_leastDifference 2 (some .int) ∈ TBL := TBL_t (List.mem_append_right _ (List.mem_append_right _ (List.mem_of_getElem? (i := 10) rfl))) rfl
theorem km_Top_156 : Cond.methodLink "ContestRows" 156 y_Puzzles_leastDifference ∈ TBL := TBL_t (List.mem_append_right _ (List.mem_append_right _ (List.mem_of_getElem? (i := 7) rfl))) rfl
theorem cw_Top_156 : Cw "ContestRows" 156 y_Puzzles_leastDifference b_Puzzles_leastDifference 2 (some .int) 0 := ⟨kb_Puzzles_leastDifference, kn_Puzzles, km_Top_156, by decide +kernel⟩
theorem ki_Puzzles_leastDifference : Cond.instanceMethod y_Puzzles_leastDifference ∈ TBL := TBL_t (List.mem_append_right _ (List.mem_append_right _ (List.mem_of_getElem? (i := 8) rfl))) rfl
theorem ks_Puzzles_leastDifference : Cond.selects "ContestRows$Puzzles" y_Puzzles_leastDifference y_Puzzles_leastDifference ∈ TBL := TBL_t (List.mem_append_right _ (List.mem_append_right _ (List.mem_of_getElem? (i := 9) rfl))) rfl
set_option maxHeartbeats 4000000 in
set_option maxRecDepth 100000 in
theorem c_Top_apart_none (l : Launch) (G : va_G) (cI cZ cJ : ClassId) (h : Nat → Nat) (wr : Nat → Nat) (se : Nat → Bool) (ga : Nat → Option Nat) (tw : Nat → Option Nat) (np : Nat) (tot : Nat) (gr : Nat → Nat) (fa : Nat → Nat) (re : Nat → Bool) (ss : Nat → Nat) (sc : Nat → Nat) (ne : Nat) (stt : Nat → Option Nat) (sco : Nat → Nat) (tim : Nat → Nat) (cnt : Nat → Nat) (ns : Nat) (sp : Nat → Nat) (sq : Nat → Nat) (sec : Nat → Nat) (rt : Nat → Bool) (it : Nat → Nat) (ans : Nat → Nat) (tl : Nat) (un : Nat → Nat) (nw : Nat → Nat) (td : Nat → Nat)  (hn : np = 0) : Ct l G (tyL cI cZ cJ) y_Top_apart b_Top_apart 1 (some .int) (rmL 1) [.ref (h 0)] (w_All h cI cZ cJ wr se ga tw np tot gr fa re ss sc ne stt sco tim cnt ns sp sq sec rt it ans tl un nw td) (some (.int (-1))) (w_All h cI cZ cJ wr se ga tw np tot gr fa re ss sc ne stt sco tim cnt ns sp sq sec rt it ans tl un nw td) := by
  refine M_start (by decide) (Nat.le_of_ble_eq_true rfl) ?_
  intro p e s m args below meth c A Q ls X Y hW hl
  have hx := X.1.1
  have hb := X.1.2.1
  have hl : lv_has ls 1 [(0, .ref (h 0))] := hl
  refine lv_aload_n hx hb d_Top_apart_0 rfl (lv_at hl 0 rfl) ?_
  refine R_get X hW i_Top rfl 0 (by decide) kf_Top_10 0 rfl rfl d_Top_apart_1 ?_
  refine R_callV (q0 := 5) (c_Puzzles_leastDifference_none l G cI cZ cJ h np tot gr fa re ss sc hn) X rfl hW cw_Top_156 ki_Puzzles_leastDifference ks_Puzzles_leastDifference rfl rfl ⟨rfl, rfl⟩ ⟨by decide, by decide⟩ ⟨Nat.zero_le _, Nat.zero_le _⟩ [false, false, false, false, false, true, true, true, true, true, true, false, false, false, false, false, false, false, false, false, false, false, false, false, false, false, false, false] rfl (Nat.le_of_ble_eq_true rfl) rfl rfl hl.1 rfl rfl (Nat.le_of_ble_eq_true rfl) d_Top_apart_4 rfl (fun H locs hW => ?_)
  have hW : Wr G A s.heap (w_All h cI cZ cJ wr se ga tw np tot gr fa re ss sc ne stt sco tim cnt ns sp sq sec rt it ans tl un nw td) H locs := hW
  exact R_iret X Y hW rfl rfl d_Top_apart_7

set_option maxHeartbeats 4000000 in
set_option maxRecDepth 100000 in
theorem c_Top_apart_some (l : Launch) (G : va_G) (cI cZ cJ : ClassId) (h : Nat → Nat) (wr : Nat → Nat) (se : Nat → Bool) (ga : Nat → Option Nat) (tw : Nat → Option Nat) (np : Nat) (tot : Nat) (gr : Nat → Nat) (fa : Nat → Nat) (re : Nat → Bool) (ss : Nat → Nat) (sc : Nat → Nat) (ne : Nat) (stt : Nat → Option Nat) (sco : Nat → Nat) (tim : Nat → Nat) (cnt : Nat → Nat) (ns : Nat) (sp : Nat → Nat) (sq : Nat → Nat) (sec : Nat → Nat) (rt : Nat → Bool) (it : Nat → Nat) (ans : Nat → Nat) (tl : Nat) (un : Nat → Nat) (nw : Nat → Nat) (td : Nat → Nat)  (hn : 0 < np ∧ np ≤ 20) (ht : tot ≤ 2000) : Ct l G (tyL cI cZ cJ) y_Top_apart b_Top_apart 1 (some .int) (rmL 1) [.ref (h 0)] (w_All h cI cZ cJ wr se ga tw np tot gr fa re ss sc ne stt sco tim cnt ns sp sq sec rt it ans tl un nw td) (some (.int (nI (tot - 2 * lowG re (tot / 2))))) (w_All h cI cZ cJ wr se ga tw np tot gr fa re ss sc ne stt sco tim cnt ns sp sq sec rt it ans tl un nw td) := by
  refine M_start (by decide) (Nat.le_of_ble_eq_true rfl) ?_
  intro p e s m args below meth c A Q ls X Y hW hl
  have hx := X.1.1
  have hb := X.1.2.1
  have hl : lv_has ls 1 [(0, .ref (h 0))] := hl
  refine lv_aload_n hx hb d_Top_apart_0 rfl (lv_at hl 0 rfl) ?_
  refine R_get X hW i_Top rfl 0 (by decide) kf_Top_10 0 rfl rfl d_Top_apart_1 ?_
  refine R_callV (q0 := 5) (c_Puzzles_leastDifference_some l G cI cZ cJ h np tot gr fa re ss sc hn ht) X rfl hW cw_Top_156 ki_Puzzles_leastDifference ks_Puzzles_leastDifference rfl rfl ⟨rfl, rfl⟩ ⟨by decide, by decide⟩ ⟨Nat.zero_le _, Nat.zero_le _⟩ [false, false, false, false, false, true, true, true, true, true, true, false, false, false, false, false, false, false, false, false, false, false, false, false, false, false, false, false] rfl (Nat.le_of_ble_eq_true rfl) rfl rfl hl.1 rfl rfl (Nat.le_of_ble_eq_true rfl) d_Top_apart_4 rfl (fun H locs hW => ?_)
  have hW : Wr G A s.heap (w_All h cI cZ cJ wr se ga tw np tot gr fa re ss sc ne stt sco tim cnt ns sp sq sec rt it ans tl un nw td) H locs := hW
  exact R_iret X Y hW rfl rfl d_Top_apart_7

theorem kb_Puzzles_add : Cond.code y_Puzzles_add b_Puzzles_add 2 (some .int) ∈ TBL := TBL_t (List.mem_append_left _ (List.mem_of_getElem? (i := 177) rfl)) rfl
theorem km_Top_59 : Cond.methodLink "ContestRows" 59 y_Puzzles_add ∈ TBL := TBL_t (List.mem_append_left _ (List.mem_of_getElem? (i := 174) rfl)) rfl
theorem cw_Top_59 : Cw "ContestRows" 59 y_Puzzles_add b_Puzzles_add 2 (some .int) 1 := ⟨kb_Puzzles_add, kn_Puzzles, km_Top_59, by decide +kernel⟩
theorem ki_Puzzles_add : Cond.instanceMethod y_Puzzles_add ∈ TBL := TBL_t (List.mem_append_left _ (List.mem_of_getElem? (i := 175) rfl)) rfl
theorem ks_Puzzles_add : Cond.selects "ContestRows$Puzzles" y_Puzzles_add y_Puzzles_add ∈ TBL := TBL_t (List.mem_append_left _ (List.mem_of_getElem? (i := 176) rfl)) rfl
set_option maxHeartbeats 4000000 in
set_option maxRecDepth 100000 in
theorem c_Top_puzzle_ok (l : Launch) (G : va_G) (cI cZ cJ : ClassId) (h : Nat → Nat) (wr : Nat → Nat) (se : Nat → Bool) (ga : Nat → Option Nat) (tw : Nat → Option Nat) (np : Nat) (tot : Nat) (gr : Nat → Nat) (fa : Nat → Nat) (re : Nat → Bool) (ss : Nat → Nat) (sc : Nat → Nat) (ne : Nat) (stt : Nat → Option Nat) (sco : Nat → Nat) (tim : Nat → Nat) (cnt : Nat → Nat) (ns : Nat) (sp : Nat → Nat) (sq : Nat → Nat) (sec : Nat → Nat) (rt : Nat → Bool) (it : Nat → Nat) (ans : Nat → Nat) (tl : Nat) (un : Nat → Nat) (nw : Nat → Nat) (td : Nat → Nat) (g : Nat) (hg : 1 ≤ g ∧ g ≤ 100) (hn : np < 20) (ht : tot ≤ 2000) (hfa : ∀ i, i < np → fa i < 20) (hgr : ∀ i, i < 20 → gr i ≤ 100) : Ct l G (tyL cI cZ cJ) y_Top_puzzle b_Top_puzzle 2 (some .int) (rmL 2) [.ref (h 0), .int (nI g)] (w_All h cI cZ cJ wr se ga tw np tot gr fa re ss sc ne stt sco tim cnt ns sp sq sec rt it ans tl un nw td) (some (.int (nI np))) (w_All h cI cZ cJ wr se ga tw (np + 1) (tot + g) (va_up gr np g) (insG (ltD (va_up gr np g)) np np fa) (rchG g 1000 (va_up re 0 true)) ss sc ne stt sco tim cnt ns sp sq sec rt it ans tl un nw td) := by
  refine M_start (by decide) (Nat.le_of_ble_eq_true rfl) ?_
  intro p e s m args below meth c A Q ls X Y hW hl
  have hx := X.1.1
  have hb := X.1.2.1
  have hl : lv_has ls 2 [(0, .ref (h 0)), (1, .int (nI g))] := hl
  refine lv_aload_n hx hb d_Top_puzzle_0 rfl (lv_at hl 0 rfl) ?_
  refine R_get X hW i_Top rfl 0 (by decide) kf_Top_10 0 rfl rfl d_Top_puzzle_1 ?_
  refine lv_iload_n hx hb d_Top_puzzle_4 rfl (lv_at hl 1 rfl) ?_
  refine R_callV (q0 := 5) (c_Puzzles_add_ok l G cI cZ cJ h np tot gr fa re ss sc g hg hn ht hfa hgr) X rfl hW cw_Top_59 ki_Puzzles_add ks_Puzzles_add rfl rfl ⟨rfl, rfl⟩ ⟨by decide, by decide⟩ ⟨Nat.zero_le _, Nat.zero_le _⟩ [false, false, false, false, false, true, true, true, true, true, true, false, false, false, false, false, false, false, false, false, false, false, false, false, false, false, false, false] rfl (Nat.le_of_ble_eq_true rfl) rfl rfl hl.1 rfl rfl (Nat.le_of_ble_eq_true rfl) d_Top_puzzle_5 rfl (fun H locs hW => ?_)
  have hW : Wr G A s.heap (w_All h cI cZ cJ wr se ga tw (np + 1) (tot + g) (va_up gr np g) (insG (ltD (va_up gr np g)) np np fa) (rchG g 1000 (va_up re 0 true)) ss sc ne stt sco tim cnt ns sp sq sec rt it ans tl un nw td) H locs := hW
  exact R_iret X Y hW rfl rfl d_Top_puzzle_8

set_option maxHeartbeats 4000000 in
set_option maxRecDepth 100000 in
theorem c_Top_puzzle_bad (l : Launch) (G : va_G) (cI cZ cJ : ClassId) (h : Nat → Nat) (wr : Nat → Nat) (se : Nat → Bool) (ga : Nat → Option Nat) (tw : Nat → Option Nat) (np : Nat) (tot : Nat) (gr : Nat → Nat) (fa : Nat → Nat) (re : Nat → Bool) (ss : Nat → Nat) (sc : Nat → Nat) (ne : Nat) (stt : Nat → Option Nat) (sco : Nat → Nat) (tim : Nat → Nat) (cnt : Nat → Nat) (ns : Nat) (sp : Nat → Nat) (sq : Nat → Nat) (sec : Nat → Nat) (rt : Nat → Bool) (it : Nat → Nat) (ans : Nat → Nat) (tl : Nat) (un : Nat → Nat) (nw : Nat → Nat) (td : Nat → Nat) (g : Int32) (hg : ¬ (1 ≤ g.toInt ∧ g.toInt ≤ 100 ∧ np < 20)) (hn : np ≤ 20) : Ct l G (tyL cI cZ cJ) y_Top_puzzle b_Top_puzzle 2 (some .int) (rmL 2) [.ref (h 0), .int g] (w_All h cI cZ cJ wr se ga tw np tot gr fa re ss sc ne stt sco tim cnt ns sp sq sec rt it ans tl un nw td) (some (.int (-1))) (w_All h cI cZ cJ wr se ga tw np tot gr fa re ss sc ne stt sco tim cnt ns sp sq sec rt it ans tl un nw td) := by
  refine M_start (by decide) (Nat.le_of_ble_eq_true rfl) ?_
  intro p e s m args below meth c A Q ls X Y hW hl
  have hx := X.1.1
  have hb := X.1.2.1
  have hl : lv_has ls 2 [(0, .ref (h 0)), (1, .int g)] := hl
  refine lv_aload_n hx hb d_Top_puzzle_0 rfl (lv_at hl 0 rfl) ?_
  refine R_get X hW i_Top rfl 0 (by decide) kf_Top_10 0 rfl rfl d_Top_puzzle_1 ?_
  refine lv_iload_n hx hb d_Top_puzzle_4 rfl (lv_at hl 1 rfl) ?_
  refine R_callV (q0 := 5) (c_Puzzles_add_bad l G cI cZ cJ h np tot gr fa re ss sc g hg hn) X rfl hW cw_Top_59 ki_Puzzles_add ks_Puzzles_add rfl rfl ⟨rfl, rfl⟩ ⟨by decide, by decide⟩ ⟨Nat.zero_le _, Nat.zero_le _⟩ [false, false, false, false, false, true, true, true, true, true, true, false, false, false, false, false, false, false, false, false, false, false, false, false, false, false, false, false] rfl (Nat.le_of_ble_eq_true rfl) rfl rfl hl.1 rfl rfl (Nat.le_of_ble_eq_true rfl) d_Top_puzzle_5 rfl (fun H locs hW => ?_)
  have hW : Wr G A s.heap (w_All h cI cZ cJ wr se ga tw np tot gr fa re ss sc ne stt sco tim cnt ns sp sq sec rt it ans tl un nw td) H locs := hW
  exact R_iret X Y hW rfl rfl d_Top_puzzle_8

set_option maxHeartbeats 4000000 in
set_option maxRecDepth 100000 in
theorem c_Top_submit_bad (l : Launch) (G : va_G) (cI cZ cJ : ClassId) (h : Nat → Nat) (wr : Nat → Nat) (se : Nat → Bool) (ga : Nat → Option Nat) (tw : Nat → Option Nat) (np : Nat) (tot : Nat) (gr : Nat → Nat) (fa : Nat → Nat) (re : Nat → Bool) (ss : Nat → Nat) (sc : Nat → Nat) (ne : Nat) (stt : Nat → Option Nat) (sco : Nat → Nat) (tim : Nat → Nat) (cnt : Nat → Nat) (ns : Nat) (sp : Nat → Nat) (sq : Nat → Nat) (sec : Nat → Nat) (rt : Nat → Bool) (it : Nat → Nat) (ans : Nat → Nat) (tl : Nat) (un : Nat → Nat) (nw : Nat → Nat) (td : Nat → Nat) (x : Int32) (y : Int32) (t : Int32) (w : Int32) (b : Bool) (hbad : ¬ (inB x ne = true ∧ inB y np = true ∧ 0 ≤ w.toInt)) (hI : IS np ne ns gr nw sp sq sec it ans stt) : Ct l G (tyL cI cZ cJ) y_Top_submit b_Top_submit 7 (some .int) (rmL 2) [.ref (h 0), .int x, .int y, .int t, .int w, .int (bI b)] (w_All h cI cZ cJ wr se ga tw np tot gr fa re ss sc ne stt sco tim cnt ns sp sq sec rt it ans tl un nw td) (some (.int (-1))) (w_All h cI cZ cJ wr se ga tw np tot gr fa re ss sc ne stt sco tim cnt ns sp sq sec rt it ans tl un nw td) := by
  refine M_start (by decide) (Nat.le_of_ble_eq_true rfl) ?_
  intro p e s m args below meth c A Q ls X Y hW hl
  have hx := X.1.1
  have hb := X.1.2.1
  have hl : lv_has ls 7 [(0, .ref (h 0)), (1, .int x), (2, .int y), (3, .int t), (4, .int w), (5, .int (bI b))] := hl
  obtain ⟨z1, z2, z3, z4, z5, z6, z7, z8, z9, z10, z11, z12, z13⟩ := id hI
  refine lv_aload_n hx hb d_Top_submit_0 rfl (lv_at hl 0 rfl) ?_
  refine R_get X hW i_Top rfl 1 (by decide) kf_Top_19 0 rfl rfl d_Top_submit_1 ?_
  refine lv_iload_n hx hb d_Top_submit_4 rfl (lv_at hl 1 rfl) ?_
  refine R_callV (q0 := 11) (c_Persons_has l G cI cZ cJ h ne stt sco tim cnt x (by omega)) X rfl hW cw_Top_76 ki_Persons_has ks_Persons_has rfl rfl ⟨rfl, rfl⟩ ⟨by decide, by decide⟩ ⟨Nat.zero_le _, Nat.zero_le _⟩ [false, false, false, false, false, false, false, false, false, false, false, true, true, true, true, true, false, false, false, false, false, false, false, false, false, false, false, false] rfl (Nat.le_of_ble_eq_true rfl) rfl rfl hl.1 rfl rfl (Nat.le_of_ble_eq_true rfl) d_Top_submit_5 rfl (fun H locs hW => ?_)
  have hW : Wr G A s.heap (w_All h cI cZ cJ wr se ga tw np tot gr fa re ss sc ne stt sco tim cnt ns sp sq sec rt it ans tl un nw td) H locs := hW
  refine N_if_eq_B hx hb  (tgt := 27) d_Top_submit_8 (by decide) (fun c8 => ?_) (fun c8 => ?_)
  · refine lv_iconst (v := (-1)) hx hb d_Top_submit_27 (by decide +kernel) ?_
    exact R_iret X Y hW rfl rfl d_Top_submit_28
  · refine lv_aload_n hx hb d_Top_submit_11 rfl (lv_at hl 0 rfl) ?_
    refine R_get X hW i_Top rfl 0 (by decide) kf_Top_10 0 rfl rfl d_Top_submit_12 ?_
    refine lv_iload_n hx hb d_Top_submit_15 rfl (lv_at hl 2 rfl) ?_
    refine R_callV (q0 := 5) (c_Puzzles_has l G cI cZ cJ h np tot gr fa re ss sc y (by omega)) X rfl hW cw_Top_87 ki_Puzzles_has ks_Puzzles_has rfl rfl ⟨rfl, rfl⟩ ⟨by decide, by decide⟩ ⟨Nat.zero_le _, Nat.zero_le _⟩ [false, false, false, false, false, true, true, true, true, true, true, false, false, false, false, false, false, false, false, false, false, false, false, false, false, false, false, false] rfl (Nat.le_of_ble_eq_true rfl) rfl rfl hl.1 rfl rfl (Nat.le_of_ble_eq_true rfl) d_Top_submit_16 rfl (fun H locs hW => ?_)
    have hW : Wr G A s.heap (w_All h cI cZ cJ wr se ga tw np tot gr fa re ss sc ne stt sco tim cnt ns sp sq sec rt it ans tl un nw td) H locs := hW
    refine N_if_eq_B hx hb  (tgt := 27) d_Top_submit_19 (by decide) (fun c19 => ?_) (fun c19 => ?_)
    · refine lv_iconst (v := (-1)) hx hb d_Top_submit_27 (by decide +kernel) ?_
      exact R_iret X Y hW rfl rfl d_Top_submit_28
    · refine lv_iload hx hb d_Top_submit_22 (lv_at hl 4 rfl) ?_
      refine N_if_ge_R hx hb  (tgt := 29) d_Top_submit_24 (by decide) (fun c24 => ?_) (fun c24 => ?_)
      · exact absurd ⟨c8, c19, by omega⟩ hbad
      · refine lv_iconst (v := (-1)) hx hb d_Top_submit_27 (by decide +kernel) ?_
        exact R_iret X Y hW rfl rfl d_Top_submit_28

set_option maxHeartbeats 4000000 in
set_option maxRecDepth 100000 in
theorem c_Top_submit_none (l : Launch) (G : va_G) (cI cZ cJ : ClassId) (h : Nat → Nat) (wr : Nat → Nat) (se : Nat → Bool) (ga : Nat → Option Nat) (tw : Nat → Option Nat) (np : Nat) (tot : Nat) (gr : Nat → Nat) (fa : Nat → Nat) (re : Nat → Bool) (ss : Nat → Nat) (sc : Nat → Nat) (ne : Nat) (stt : Nat → Option Nat) (sco : Nat → Nat) (tim : Nat → Nat) (cnt : Nat → Nat) (ns : Nat) (sp : Nat → Nat) (sq : Nat → Nat) (sec : Nat → Nat) (rt : Nat → Bool) (it : Nat → Nat) (ans : Nat → Nat) (tl : Nat) (un : Nat → Nat) (nw : Nat → Nat) (td : Nat → Nat) (x : Nat) (y : Nat) (t : Int32) (w : Nat) (b : Bool) (hx0 : x < ne) (hy0 : y < np) (hw0 : w < 2 ^ 31) (hs0 : stt x = none) (hI : IS np ne ns gr nw sp sq sec it ans stt) : Ct l G (tyL cI cZ cJ) y_Top_submit b_Top_submit 7 (some .int) (rmL 2) [.ref (h 0), .int (nI x), .int (nI y), .int t, .int (nI w), .int (bI b)] (w_All h cI cZ cJ wr se ga tw np tot gr fa re ss sc ne stt sco tim cnt ns sp sq sec rt it ans tl un nw td) (some (.int (-1))) (w_All h cI cZ cJ wr se ga tw np tot gr fa re ss sc ne stt sco tim cnt ns sp sq sec rt it ans tl un nw td) := by
  refine M_start (by decide) (Nat.le_of_ble_eq_true rfl) ?_
  intro p e s m args below meth c A Q ls X Y hW hl
  have hx := X.1.1
  have hb := X.1.2.1
  have hl : lv_has ls 7 [(0, .ref (h 0)), (1, .int (nI x)), (2, .int (nI y)), (3, .int t), (4, .int (nI w)), (5, .int (bI b))] := hl
  obtain ⟨z1, z2, z3, z4, z5, z6, z7, z8, z9, z10, z11, z12, z13⟩ := id hI
  refine lv_aload_n hx hb d_Top_submit_0 rfl (lv_at hl 0 rfl) ?_
  refine R_get X hW i_Top rfl 1 (by decide) kf_Top_19 0 rfl rfl d_Top_submit_1 ?_
  refine lv_iload_n hx hb d_Top_submit_4 rfl (lv_at hl 1 rfl) ?_
  refine R_callV (q0 := 11) (c_Persons_has l G cI cZ cJ h ne stt sco tim cnt (nI x) (by omega)) X rfl hW cw_Top_76 ki_Persons_has ks_Persons_has rfl rfl ⟨rfl, rfl⟩ ⟨by decide, by decide⟩ ⟨Nat.zero_le _, Nat.zero_le _⟩ [false, false, false, false, false, false, false, false, false, false, false, true, true, true, true, true, false, false, false, false, false, false, false, false, false, false, false, false] rfl (Nat.le_of_ble_eq_true rfl) rfl rfl hl.1 rfl rfl (Nat.le_of_ble_eq_true rfl) d_Top_submit_5 rfl (fun H locs hW => ?_)
  have hW : Wr G A s.heap (w_All h cI cZ cJ wr se ga tw np tot gr fa re ss sc ne stt sco tim cnt ns sp sq sec rt it ans tl un nw td) H locs := hW
  refine N_if_eq_B hx hb  (tgt := 27) d_Top_submit_8 (by decide) (fun c8 => ?_) (fun c8 => ?_)
  · exfalso; rw [inB_nI (by omega) (by omega)] at c8; cases c8
  · refine lv_aload_n hx hb d_Top_submit_11 rfl (lv_at hl 0 rfl) ?_
    refine R_get X hW i_Top rfl 0 (by decide) kf_Top_10 0 rfl rfl d_Top_submit_12 ?_
    refine lv_iload_n hx hb d_Top_submit_15 rfl (lv_at hl 2 rfl) ?_
    refine R_callV (q0 := 5) (c_Puzzles_has l G cI cZ cJ h np tot gr fa re ss sc (nI y) (by omega)) X rfl hW cw_Top_87 ki_Puzzles_has ks_Puzzles_has rfl rfl ⟨rfl, rfl⟩ ⟨by decide, by decide⟩ ⟨Nat.zero_le _, Nat.zero_le _⟩ [false, false, false, false, false, true, true, true, true, true, true, false, false, false, false, false, false, false, false, false, false, false, false, false, false, false, false, false] rfl (Nat.le_of_ble_eq_true rfl) rfl rfl hl.1 rfl rfl (Nat.le_of_ble_eq_true rfl) d_Top_submit_16 rfl (fun H locs hW => ?_)
    have hW : Wr G A s.heap (w_All h cI cZ cJ wr se ga tw np tot gr fa re ss sc ne stt sco tim cnt ns sp sq sec rt it ans tl un nw td) H locs := hW
    refine N_if_eq_B hx hb  (tgt := 27) d_Top_submit_19 (by decide) (fun c19 => ?_) (fun c19 => ?_)
    · exfalso; rw [inB_nI (by omega) (by omega)] at c19; cases c19
    · refine lv_iload hx hb d_Top_submit_22 (lv_at hl 4 rfl) ?_
      refine N_if_ge_N hx hb (by omega) (tgt := 29) d_Top_submit_24 (by decide) (fun c24 => ?_) (fun c24 => ?_)
      · refine lv_aload_n hx hb d_Top_submit_29 rfl (lv_at hl 0 rfl) ?_
        refine R_get X hW i_Top rfl 1 (by decide) kf_Top_19 0 rfl rfl d_Top_submit_30 ?_
        refine R_get X hW i_Persons rfl 0 (by decide) kf_Top_84 11 rfl rfl d_Top_submit_33 ?_
        refine lv_iload_n hx hb d_Top_submit_36 rfl (lv_at hl 1 rfl) ?_
        refine R_iald X hW (t0 := 0) rfl 12 rfl (k := x) (by omega) (by decide) d_Top_submit_37 ?_
        refine lv_istore (lv' := [(6, .int (oI (stt x))), (0, .ref (h 0)), (1, .int (nI x)), (2, .int (nI y)), (3, .int t), (4, .int (nI w)), (5, .int (bI b))]) hx hb d_Top_submit_38 hl (by decide) rfl (fun ls hl => ?_)
        refine lv_iload hx hb d_Top_submit_40 (lv_at hl 0 rfl) ?_
        refine lv_iconst (v := (-1)) hx hb d_Top_submit_42 (by decide +kernel) ?_
        refine N_icmp_eq_Om hx hb (fun n hn => by have := z12 x n (by omega) hn; omega) (tgt := 58) d_Top_submit_43 (by decide) (fun c43 => ?_) (fun c43 => ?_)
        · refine lv_iconst (v := (-1)) hx hb d_Top_submit_58 (by decide +kernel) ?_
          exact R_iret X Y hW rfl rfl d_Top_submit_59
        · exact absurd hs0 c43
      · exfalso; omega

set_option maxHeartbeats 4000000 in
set_option maxRecDepth 100000 in
theorem c_Top_submit_off (l : Launch) (G : va_G) (cI cZ cJ : ClassId) (h : Nat → Nat) (wr : Nat → Nat) (se : Nat → Bool) (ga : Nat → Option Nat) (tw : Nat → Option Nat) (np : Nat) (tot : Nat) (gr : Nat → Nat) (fa : Nat → Nat) (re : Nat → Bool) (ss : Nat → Nat) (sc : Nat → Nat) (ne : Nat) (stt : Nat → Option Nat) (sco : Nat → Nat) (tim : Nat → Nat) (cnt : Nat → Nat) (ns : Nat) (sp : Nat → Nat) (sq : Nat → Nat) (sec : Nat → Nat) (rt : Nat → Bool) (it : Nat → Nat) (ans : Nat → Nat) (tl : Nat) (un : Nat → Nat) (nw : Nat → Nat) (td : Nat → Nat) (x : Nat) (y : Nat) (t : Int32) (w : Nat) (b : Bool) (s0 : Nat) (hx0 : x < ne) (hy0 : y < np) (hw0 : w < 2 ^ 31) (hs0 : stt x = some s0) (hbad : ¬ ((s0 : Int) ≤ t.toInt ∧ t.toInt ≤ 1000000)) (hI : IS np ne ns gr nw sp sq sec it ans stt) : Ct l G (tyL cI cZ cJ) y_Top_submit b_Top_submit 7 (some .int) (rmL 2) [.ref (h 0), .int (nI x), .int (nI y), .int t, .int (nI w), .int (bI b)] (w_All h cI cZ cJ wr se ga tw np tot gr fa re ss sc ne stt sco tim cnt ns sp sq sec rt it ans tl un nw td) (some (.int (-1))) (w_All h cI cZ cJ wr se ga tw np tot gr fa re ss sc ne stt sco tim cnt ns sp sq sec rt it ans tl un nw td) := by
  refine M_start (by decide) (Nat.le_of_ble_eq_true rfl) ?_
  intro p e s m args below meth c A Q ls X Y hW hl
  have hx := X.1.1
  have hb := X.1.2.1
  have hl : lv_has ls 7 [(0, .ref (h 0)), (1, .int (nI x)), (2, .int (nI y)), (3, .int t), (4, .int (nI w)), (5, .int (bI b))] := hl
  obtain ⟨z1, z2, z3, z4, z5, z6, z7, z8, z9, z10, z11, z12, z13⟩ := id hI
  have z0 := z12 x s0 (by omega) hs0
  refine lv_aload_n hx hb d_Top_submit_0 rfl (lv_at hl 0 rfl) ?_
  refine R_get X hW i_Top rfl 1 (by decide) kf_Top_19 0 rfl rfl d_Top_submit_1 ?_
  refine lv_iload_n hx hb d_Top_submit_4 rfl (lv_at hl 1 rfl) ?_
  refine R_callV (q0 := 11) (c_Persons_has l G cI cZ cJ h ne stt sco tim cnt (nI x) (by omega)) X rfl hW cw_Top_76 ki_Persons_has ks_Persons_has rfl rfl ⟨rfl, rfl⟩ ⟨by decide, by decide⟩ ⟨Nat.zero_le _, Nat.zero_le _⟩ [false, false, false, false, false, false, false, false, false, false, false, true, true, true, true, true, false, false, false, false, false, false, false, false, false, false, false, false] rfl (Nat.le_of_ble_eq_true rfl) rfl rfl hl.1 rfl rfl (Nat.le_of_ble_eq_true rfl) d_Top_submit_5 rfl (fun H locs hW => ?_)
  have hW : Wr G A s.heap (w_All h cI cZ cJ wr se ga tw np tot gr fa re ss sc ne stt sco tim cnt ns sp sq sec rt it ans tl un nw td) H locs := hW
  refine N_if_eq_B hx hb  (tgt := 27) d_Top_submit_8 (by decide) (fun c8 => ?_) (fun c8 => ?_)
  · exfalso; rw [inB_nI (by omega) (by omega)] at c8; cases c8
  · refine lv_aload_n hx hb d_Top_submit_11 rfl (lv_at hl 0 rfl) ?_
    refine R_get X hW i_Top rfl 0 (by decide) kf_Top_10 0 rfl rfl d_Top_submit_12 ?_
    refine lv_iload_n hx hb d_Top_submit_15 rfl (lv_at hl 2 rfl) ?_
    refine R_callV (q0 := 5) (c_Puzzles_has l G cI cZ cJ h np tot gr fa re ss sc (nI y) (by omega)) X rfl hW cw_Top_87 ki_Puzzles_has ks_Puzzles_has rfl rfl ⟨rfl, rfl⟩ ⟨by decide, by decide⟩ ⟨Nat.zero_le _, Nat.zero_le _⟩ [false, false, false, false, false, true, true, true, true, true, true, false, false, false, false, false, false, false, false, false, false, false, false, false, false, false, false, false] rfl (Nat.le_of_ble_eq_true rfl) rfl rfl hl.1 rfl rfl (Nat.le_of_ble_eq_true rfl) d_Top_submit_16 rfl (fun H locs hW => ?_)
    have hW : Wr G A s.heap (w_All h cI cZ cJ wr se ga tw np tot gr fa re ss sc ne stt sco tim cnt ns sp sq sec rt it ans tl un nw td) H locs := hW
    refine N_if_eq_B hx hb  (tgt := 27) d_Top_submit_19 (by decide) (fun c19 => ?_) (fun c19 => ?_)
    · exfalso; rw [inB_nI (by omega) (by omega)] at c19; cases c19
    · refine lv_iload hx hb d_Top_submit_22 (lv_at hl 4 rfl) ?_
      refine N_if_ge_N hx hb (by omega) (tgt := 29) d_Top_submit_24 (by decide) (fun c24 => ?_) (fun c24 => ?_)
      · refine lv_aload_n hx hb d_Top_submit_29 rfl (lv_at hl 0 rfl) ?_
        refine R_get X hW i_Top rfl 1 (by decide) kf_Top_19 0 rfl rfl d_Top_submit_30 ?_
        refine R_get X hW i_Persons rfl 0 (by decide) kf_Top_84 11 rfl rfl d_Top_submit_33 ?_
        refine lv_iload_n hx hb d_Top_submit_36 rfl (lv_at hl 1 rfl) ?_
        refine R_iald X hW (t0 := 0) rfl 12 rfl (k := x) (by omega) (by decide) d_Top_submit_37 ?_
        refine lv_istore (lv' := [(6, .int (oI (stt x))), (0, .ref (h 0)), (1, .int (nI x)), (2, .int (nI y)), (3, .int t), (4, .int (nI w)), (5, .int (bI b))]) hx hb d_Top_submit_38 hl (by decide) rfl (fun ls hl => ?_)
        refine lv_iload hx hb d_Top_submit_40 (lv_at hl 0 rfl) ?_
        refine lv_iconst (v := (-1)) hx hb d_Top_submit_42 (by decide +kernel) ?_
        refine N_icmp_eq_Om hx hb (fun n hn => by have := z12 x n (by omega) hn; omega) (tgt := 58) d_Top_submit_43 (by decide) (fun c43 => ?_) (fun c43 => ?_)
        · exfalso; rw [hs0] at c43; cases c43
        · refine lv_iload_n hx hb d_Top_submit_46 rfl (lv_at hl 4 rfl) ?_
          refine lv_iload hx hb d_Top_submit_47 (lv_at hl 0 rfl) ?_
          refine W.eq (g2 := F0 m 49 ls (.int (nI s0) :: .int t :: [])) (by rw [hs0]; first | done | rfl) ?_
          refine N_icmp_lt_RN hx hb (by omega) (tgt := 58) d_Top_submit_49 (by decide) (fun c49 => ?_) (fun c49 => ?_)
          · refine lv_iconst (v := (-1)) hx hb d_Top_submit_58 (by decide +kernel) ?_
            exact R_iret X Y hW rfl rfl d_Top_submit_59
          · refine lv_iload_n hx hb d_Top_submit_52 rfl (lv_at hl 4 rfl) ?_
            refine lv_ldc hx hb X.1.2.2.2.1 (X.1.2.2.2.2 _ kc_Top_79) d_Top_submit_53 ?_
            refine W.eq (g2 := F0 m 55 ls (.int (nI 1000000) :: .int t :: [])) rfl ?_
            refine N_icmp_le_RN hx hb (by decide) (tgt := 60) d_Top_submit_55 (by decide) (fun c55 => ?_) (fun c55 => ?_)
            · exfalso; omega
            · refine lv_iconst (v := (-1)) hx hb d_Top_submit_58 (by decide +kernel) ?_
              exact R_iret X Y hW rfl rfl d_Top_submit_59
      · exfalso; omega

theorem kb_Submissions_add : Cond.code y_Submissions_add b_Submissions_add 6 (some .int) ∈ TBL := TBL_t (List.mem_append_right _ (List.mem_append_left _ (List.mem_of_getElem? (i := 112) rfl))) rfl
theorem km_Top_88 : Cond.methodLink "ContestRows" 88 y_Submissions_add ∈ TBL := TBL_t (List.mem_append_right _ (List.mem_append_left _ (List.mem_of_getElem? (i := 109) rfl))) rfl
theorem cw_Top_88 : Cw "ContestRows" 88 y_Submissions_add b_Submissions_add 6 (some .int) 5 := ⟨kb_Submissions_add, kn_Submissions, km_Top_88, by decide +kernel⟩
theorem ki_Submissions_add : Cond.instanceMethod y_Submissions_add ∈ TBL := TBL_t (List.mem_append_right _ (List.mem_append_left _ (List.mem_of_getElem? (i := 110) rfl))) rfl
theorem ks_Submissions_add : Cond.selects "ContestRows$Submissions" y_Submissions_add y_Submissions_add ∈ TBL := TBL_t (List.mem_append_right _ (List.mem_append_left _ (List.mem_of_getElem? (i := 111) rfl))) rfl
set_option maxHeartbeats 4000000 in
set_option maxRecDepth 100000 in
theorem c_Top_submit_ok (l : Launch) (G : va_G) (cI cZ cJ : ClassId) (h : Nat → Nat) (wr : Nat → Nat) (se : Nat → Bool) (ga : Nat → Option Nat) (tw : Nat → Option Nat) (np : Nat) (tot : Nat) (gr : Nat → Nat) (fa : Nat → Nat) (re : Nat → Bool) (ss : Nat → Nat) (sc : Nat → Nat) (ne : Nat) (stt : Nat → Option Nat) (sco : Nat → Nat) (tim : Nat → Nat) (cnt : Nat → Nat) (ns : Nat) (sp : Nat → Nat) (sq : Nat → Nat) (sec : Nat → Nat) (rt : Nat → Bool) (it : Nat → Nat) (ans : Nat → Nat) (tl : Nat) (un : Nat → Nat) (nw : Nat → Nat) (td : Nat → Nat) (x : Nat) (y : Nat) (t : Nat) (w : Nat) (b : Bool) (s0 : Nat) (hx0 : x < ne) (hy0 : y < np) (hw0 : w < 2 ^ 31) (hs0 : stt x = some s0) (hok : s0 ≤ t ∧ t ≤ 1000000) (hns : ns < 300) (hI : IS np ne ns gr nw sp sq sec it ans stt) : Ct l G (tyL cI cZ cJ) y_Top_submit b_Top_submit 7 (some .int) (rmL 2) [.ref (h 0), .int (nI x), .int (nI y), .int (nI t), .int (nI w), .int (bI b)] (w_All h cI cZ cJ wr se ga tw np tot gr fa re ss sc ne stt sco tim cnt ns sp sq sec rt it ans tl un nw td) (some (.int (nI ns))) (w_All h cI cZ cJ wr se ga tw np tot gr fa re ss sc ne stt sco tim cnt (ns + 1) (va_up sp ns x) (va_up sq ns y) (va_up sec ns t) (va_up rt ns b) (insG (ltT (va_up sec ns t)) ns ns it) (va_up ans ns w) tl un nw td) := by
  refine M_start (by decide) (Nat.le_of_ble_eq_true rfl) ?_
  intro p e s m args below meth c A Q ls X Y hW hl
  have hx := X.1.1
  have hb := X.1.2.1
  have hl : lv_has ls 7 [(0, .ref (h 0)), (1, .int (nI x)), (2, .int (nI y)), (3, .int (nI t)), (4, .int (nI w)), (5, .int (bI b))] := hl
  obtain ⟨z1, z2, z3, z4, z5, z6, z7, z8, z9, z10, z11, z12, z13⟩ := id hI
  have z0 := z12 x s0 (by omega) hs0
  refine lv_aload_n hx hb d_Top_submit_0 rfl (lv_at hl 0 rfl) ?_
  refine R_get X hW i_Top rfl 1 (by decide) kf_Top_19 0 rfl rfl d_Top_submit_1 ?_
  refine lv_iload_n hx hb d_Top_submit_4 rfl (lv_at hl 1 rfl) ?_
  refine R_callV (q0 := 11) (c_Persons_has l G cI cZ cJ h ne stt sco tim cnt (nI x) (by omega)) X rfl hW cw_Top_76 ki_Persons_has ks_Persons_has rfl rfl ⟨rfl, rfl⟩ ⟨by decide, by decide⟩ ⟨Nat.zero_le _, Nat.zero_le _⟩ [false, false, false, false, false, false, false, false, false, false, false, true, true, true, true, true, false, false, false, false, false, false, false, false, false, false, false, false] rfl (Nat.le_of_ble_eq_true rfl) rfl rfl hl.1 rfl rfl (Nat.le_of_ble_eq_true rfl) d_Top_submit_5 rfl (fun H locs hW => ?_)
  have hW : Wr G A s.heap (w_All h cI cZ cJ wr se ga tw np tot gr fa re ss sc ne stt sco tim cnt ns sp sq sec rt it ans tl un nw td) H locs := hW
  refine N_if_eq_B hx hb  (tgt := 27) d_Top_submit_8 (by decide) (fun c8 => ?_) (fun c8 => ?_)
  · exfalso; rw [inB_nI (by omega) (by omega)] at c8; cases c8
  · refine lv_aload_n hx hb d_Top_submit_11 rfl (lv_at hl 0 rfl) ?_
    refine R_get X hW i_Top rfl 0 (by decide) kf_Top_10 0 rfl rfl d_Top_submit_12 ?_
    refine lv_iload_n hx hb d_Top_submit_15 rfl (lv_at hl 2 rfl) ?_
    refine R_callV (q0 := 5) (c_Puzzles_has l G cI cZ cJ h np tot gr fa re ss sc (nI y) (by omega)) X rfl hW cw_Top_87 ki_Puzzles_has ks_Puzzles_has rfl rfl ⟨rfl, rfl⟩ ⟨by decide, by decide⟩ ⟨Nat.zero_le _, Nat.zero_le _⟩ [false, false, false, false, false, true, true, true, true, true, true, false, false, false, false, false, false, false, false, false, false, false, false, false, false, false, false, false] rfl (Nat.le_of_ble_eq_true rfl) rfl rfl hl.1 rfl rfl (Nat.le_of_ble_eq_true rfl) d_Top_submit_16 rfl (fun H locs hW => ?_)
    have hW : Wr G A s.heap (w_All h cI cZ cJ wr se ga tw np tot gr fa re ss sc ne stt sco tim cnt ns sp sq sec rt it ans tl un nw td) H locs := hW
    refine N_if_eq_B hx hb  (tgt := 27) d_Top_submit_19 (by decide) (fun c19 => ?_) (fun c19 => ?_)
    · exfalso; rw [inB_nI (by omega) (by omega)] at c19; cases c19
    · refine lv_iload hx hb d_Top_submit_22 (lv_at hl 4 rfl) ?_
      refine N_if_ge_N hx hb (by omega) (tgt := 29) d_Top_submit_24 (by decide) (fun c24 => ?_) (fun c24 => ?_)
      · refine lv_aload_n hx hb d_Top_submit_29 rfl (lv_at hl 0 rfl) ?_
        refine R_get X hW i_Top rfl 1 (by decide) kf_Top_19 0 rfl rfl d_Top_submit_30 ?_
        refine R_get X hW i_Persons rfl 0 (by decide) kf_Top_84 11 rfl rfl d_Top_submit_33 ?_
        refine lv_iload_n hx hb d_Top_submit_36 rfl (lv_at hl 1 rfl) ?_
        refine R_iald X hW (t0 := 0) rfl 12 rfl (k := x) (by omega) (by decide) d_Top_submit_37 ?_
        refine lv_istore (lv' := [(6, .int (oI (stt x))), (0, .ref (h 0)), (1, .int (nI x)), (2, .int (nI y)), (3, .int (nI t)), (4, .int (nI w)), (5, .int (bI b))]) hx hb d_Top_submit_38 hl (by decide) rfl (fun ls hl => ?_)
        refine lv_iload hx hb d_Top_submit_40 (lv_at hl 0 rfl) ?_
        refine lv_iconst (v := (-1)) hx hb d_Top_submit_42 (by decide +kernel) ?_
        refine N_icmp_eq_Om hx hb (fun n hn => by have := z12 x n (by omega) hn; omega) (tgt := 58) d_Top_submit_43 (by decide) (fun c43 => ?_) (fun c43 => ?_)
        · exfalso; rw [hs0] at c43; cases c43
        · refine lv_iload_n hx hb d_Top_submit_46 rfl (lv_at hl 4 rfl) ?_
          refine lv_iload hx hb d_Top_submit_47 (lv_at hl 0 rfl) ?_
          refine W.eq (g2 := F0 m 49 ls (.int (nI s0) :: .int (nI t) :: [])) (by rw [hs0]; first | done | rfl) ?_
          refine N_icmp_lt_NN hx hb (by omega) (by omega) (tgt := 58) d_Top_submit_49 (by decide) (fun c49 => ?_) (fun c49 => ?_)
          · exfalso; omega
          · refine lv_iload_n hx hb d_Top_submit_52 rfl (lv_at hl 4 rfl) ?_
            refine lv_ldc hx hb X.1.2.2.2.1 (X.1.2.2.2.2 _ kc_Top_79) d_Top_submit_53 ?_
            refine W.eq (g2 := F0 m 55 ls (.int (nI 1000000) :: .int (nI t) :: [])) rfl ?_
            refine N_icmp_le_NN hx hb (by omega) (by decide) (tgt := 60) d_Top_submit_55 (by decide) (fun c55 => ?_) (fun c55 => ?_)
            · refine lv_aload_n hx hb d_Top_submit_60 rfl (lv_at hl 1 rfl) ?_
              refine R_get X hW i_Top rfl 2 (by decide) kf_Top_26 0 rfl rfl d_Top_submit_61 ?_
              refine lv_iload_n hx hb d_Top_submit_64 rfl (lv_at hl 2 rfl) ?_
              refine lv_iload_n hx hb d_Top_submit_65 rfl (lv_at hl 3 rfl) ?_
              refine lv_iload_n hx hb d_Top_submit_66 rfl (lv_at hl 4 rfl) ?_
              refine lv_iload hx hb d_Top_submit_67 (lv_at hl 5 rfl) ?_
              refine lv_iload hx hb d_Top_submit_69 (lv_at hl 6 rfl) ?_
              refine R_callV (q0 := 16) (c_Submissions_add_ok l G cI cZ cJ h ns sp sq sec rt it ans x y t w b hns (fun i hi => by have := z9 i hi; omega) (fun i hi => by have := z8 i hi; omega) (by omega)) X rfl hW cw_Top_88 ki_Submissions_add ks_Submissions_add rfl rfl ⟨rfl, rfl⟩ ⟨by decide, by decide⟩ ⟨Nat.zero_le _, Nat.zero_le _⟩ [false, false, false, false, false, false, false, false, false, false, false, false, false, false, false, false, true, true, true, true, true, true, true, false, false, false, false, false] rfl (Nat.le_of_ble_eq_true rfl) rfl rfl hl.1 rfl rfl (Nat.le_of_ble_eq_true rfl) d_Top_submit_71 rfl (fun H locs hW => ?_)
              have hW : Wr G A s.heap (w_All h cI cZ cJ wr se ga tw np tot gr fa re ss sc ne stt sco tim cnt (ns + 1) (va_up sp ns x) (va_up sq ns y) (va_up sec ns t) (va_up rt ns b) (insG (ltT (va_up sec ns t)) ns ns it) (va_up ans ns w) tl un nw td) H locs := hW
              exact R_iret X Y hW rfl rfl d_Top_submit_74
            · exfalso; omega
      · exfalso; omega

set_option maxHeartbeats 4000000 in
set_option maxRecDepth 100000 in
theorem c_Top_submit_full (l : Launch) (G : va_G) (cI cZ cJ : ClassId) (h : Nat → Nat) (wr : Nat → Nat) (se : Nat → Bool) (ga : Nat → Option Nat) (tw : Nat → Option Nat) (np : Nat) (tot : Nat) (gr : Nat → Nat) (fa : Nat → Nat) (re : Nat → Bool) (ss : Nat → Nat) (sc : Nat → Nat) (ne : Nat) (stt : Nat → Option Nat) (sco : Nat → Nat) (tim : Nat → Nat) (cnt : Nat → Nat) (ns : Nat) (sp : Nat → Nat) (sq : Nat → Nat) (sec : Nat → Nat) (rt : Nat → Bool) (it : Nat → Nat) (ans : Nat → Nat) (tl : Nat) (un : Nat → Nat) (nw : Nat → Nat) (td : Nat → Nat) (x : Nat) (y : Nat) (t : Nat) (w : Nat) (b : Bool) (s0 : Nat) (hx0 : x < ne) (hy0 : y < np) (hw0 : w < 2 ^ 31) (hs0 : stt x = some s0) (hok : s0 ≤ t ∧ t ≤ 1000000) (hns : ns = 300) (hI : IS np ne ns gr nw sp sq sec it ans stt) : Ct l G (tyL cI cZ cJ) y_Top_submit b_Top_submit 7 (some .int) (rmL 2) [.ref (h 0), .int (nI x), .int (nI y), .int (nI t), .int (nI w), .int (bI b)] (w_All h cI cZ cJ wr se ga tw np tot gr fa re ss sc ne stt sco tim cnt ns sp sq sec rt it ans tl un nw td) (some (.int (-1))) (w_All h cI cZ cJ wr se ga tw np tot gr fa re ss sc ne stt sco tim cnt ns sp sq sec rt it ans tl un nw td) := by
  refine M_start (by decide) (Nat.le_of_ble_eq_true rfl) ?_
  intro p e s m args below meth c A Q ls X Y hW hl
  have hx := X.1.1
  have hb := X.1.2.1
  have hl : lv_has ls 7 [(0, .ref (h 0)), (1, .int (nI x)), (2, .int (nI y)), (3, .int (nI t)), (4, .int (nI w)), (5, .int (bI b))] := hl
  obtain ⟨z1, z2, z3, z4, z5, z6, z7, z8, z9, z10, z11, z12, z13⟩ := id hI
  have z0 := z12 x s0 (by omega) hs0
  refine lv_aload_n hx hb d_Top_submit_0 rfl (lv_at hl 0 rfl) ?_
  refine R_get X hW i_Top rfl 1 (by decide) kf_Top_19 0 rfl rfl d_Top_submit_1 ?_
  refine lv_iload_n hx hb d_Top_submit_4 rfl (lv_at hl 1 rfl) ?_
  refine R_callV (q0 := 11) (c_Persons_has l G cI cZ cJ h ne stt sco tim cnt (nI x) (by omega)) X rfl hW cw_Top_76 ki_Persons_has ks_Persons_has rfl rfl ⟨rfl, rfl⟩ ⟨by decide, by decide⟩ ⟨Nat.zero_le _, Nat.zero_le _⟩ [false, false, false, false, false, false, false, false, false, false, false, true, true, true, true, true, false, false, false, false, false, false, false, false, false, false, false, false] rfl (Nat.le_of_ble_eq_true rfl) rfl rfl hl.1 rfl rfl (Nat.le_of_ble_eq_true rfl) d_Top_submit_5 rfl (fun H locs hW => ?_)
  have hW : Wr G A s.heap (w_All h cI cZ cJ wr se ga tw np tot gr fa re ss sc ne stt sco tim cnt ns sp sq sec rt it ans tl un nw td) H locs := hW
  refine N_if_eq_B hx hb  (tgt := 27) d_Top_submit_8 (by decide) (fun c8 => ?_) (fun c8 => ?_)
  · exfalso; rw [inB_nI (by omega) (by omega)] at c8; cases c8
  · refine lv_aload_n hx hb d_Top_submit_11 rfl (lv_at hl 0 rfl) ?_
    refine R_get X hW i_Top rfl 0 (by decide) kf_Top_10 0 rfl rfl d_Top_submit_12 ?_
    refine lv_iload_n hx hb d_Top_submit_15 rfl (lv_at hl 2 rfl) ?_
    refine R_callV (q0 := 5) (c_Puzzles_has l G cI cZ cJ h np tot gr fa re ss sc (nI y) (by omega)) X rfl hW cw_Top_87 ki_Puzzles_has ks_Puzzles_has rfl rfl ⟨rfl, rfl⟩ ⟨by decide, by decide⟩ ⟨Nat.zero_le _, Nat.zero_le _⟩ [false, false, false, false, false, true, true, true, true, true, true, false, false, false, false, false, false, false, false, false, false, false, false, false, false, false, false, false] rfl (Nat.le_of_ble_eq_true rfl) rfl rfl hl.1 rfl rfl (Nat.le_of_ble_eq_true rfl) d_Top_submit_16 rfl (fun H locs hW => ?_)
    have hW : Wr G A s.heap (w_All h cI cZ cJ wr se ga tw np tot gr fa re ss sc ne stt sco tim cnt ns sp sq sec rt it ans tl un nw td) H locs := hW
    refine N_if_eq_B hx hb  (tgt := 27) d_Top_submit_19 (by decide) (fun c19 => ?_) (fun c19 => ?_)
    · exfalso; rw [inB_nI (by omega) (by omega)] at c19; cases c19
    · refine lv_iload hx hb d_Top_submit_22 (lv_at hl 4 rfl) ?_
      refine N_if_ge_N hx hb (by omega) (tgt := 29) d_Top_submit_24 (by decide) (fun c24 => ?_) (fun c24 => ?_)
      · refine lv_aload_n hx hb d_Top_submit_29 rfl (lv_at hl 0 rfl) ?_
        refine R_get X hW i_Top rfl 1 (by decide) kf_Top_19 0 rfl rfl d_Top_submit_30 ?_
        refine R_get X hW i_Persons rfl 0 (by decide) kf_Top_84 11 rfl rfl d_Top_submit_33 ?_
        refine lv_iload_n hx hb d_Top_submit_36 rfl (lv_at hl 1 rfl) ?_
        refine R_iald X hW (t0 := 0) rfl 12 rfl (k := x) (by omega) (by decide) d_Top_submit_37 ?_
        refine lv_istore (lv' := [(6, .int (oI (stt x))), (0, .ref (h 0)), (1, .int (nI x)), (2, .int (nI y)), (3, .int (nI t)), (4, .int (nI w)), (5, .int (bI b))]) hx hb d_Top_submit_38 hl (by decide) rfl (fun ls hl => ?_)
        refine lv_iload hx hb d_Top_submit_40 (lv_at hl 0 rfl) ?_
        refine lv_iconst (v := (-1)) hx hb d_Top_submit_42 (by decide +kernel) ?_
        refine N_icmp_eq_Om hx hb (fun n hn => by have := z12 x n (by omega) hn; omega) (tgt := 58) d_Top_submit_43 (by decide) (fun c43 => ?_) (fun c43 => ?_)
        · exfalso; rw [hs0] at c43; cases c43
        · refine lv_iload_n hx hb d_Top_submit_46 rfl (lv_at hl 4 rfl) ?_
          refine lv_iload hx hb d_Top_submit_47 (lv_at hl 0 rfl) ?_
          refine W.eq (g2 := F0 m 49 ls (.int (nI s0) :: .int (nI t) :: [])) (by rw [hs0]; first | done | rfl) ?_
          refine N_icmp_lt_NN hx hb (by omega) (by omega) (tgt := 58) d_Top_submit_49 (by decide) (fun c49 => ?_) (fun c49 => ?_)
          · exfalso; omega
          · refine lv_iload_n hx hb d_Top_submit_52 rfl (lv_at hl 4 rfl) ?_
            refine lv_ldc hx hb X.1.2.2.2.1 (X.1.2.2.2.2 _ kc_Top_79) d_Top_submit_53 ?_
            refine W.eq (g2 := F0 m 55 ls (.int (nI 1000000) :: .int (nI t) :: [])) rfl ?_
            refine N_icmp_le_NN hx hb (by omega) (by decide) (tgt := 60) d_Top_submit_55 (by decide) (fun c55 => ?_) (fun c55 => ?_)
            · refine lv_aload_n hx hb d_Top_submit_60 rfl (lv_at hl 1 rfl) ?_
              refine R_get X hW i_Top rfl 2 (by decide) kf_Top_26 0 rfl rfl d_Top_submit_61 ?_
              refine lv_iload_n hx hb d_Top_submit_64 rfl (lv_at hl 2 rfl) ?_
              refine lv_iload_n hx hb d_Top_submit_65 rfl (lv_at hl 3 rfl) ?_
              refine lv_iload_n hx hb d_Top_submit_66 rfl (lv_at hl 4 rfl) ?_
              refine lv_iload hx hb d_Top_submit_67 (lv_at hl 5 rfl) ?_
              refine lv_iload hx hb d_Top_submit_69 (lv_at hl 6 rfl) ?_
              refine R_callV (q0 := 16) (c_Submissions_add_full l G cI cZ cJ h ns sp sq sec rt it ans x y t w b hns) X rfl hW cw_Top_88 ki_Submissions_add ks_Submissions_add rfl rfl ⟨rfl, rfl⟩ ⟨by decide, by decide⟩ ⟨Nat.zero_le _, Nat.zero_le _⟩ [false, false, false, false, false, false, false, false, false, false, false, false, false, false, false, false, true, true, true, true, true, true, true, false, false, false, false, false] rfl (Nat.le_of_ble_eq_true rfl) rfl rfl hl.1 rfl rfl (Nat.le_of_ble_eq_true rfl) d_Top_submit_71 rfl (fun H locs hW => ?_)
              have hW : Wr G A s.heap (w_All h cI cZ cJ wr se ga tw np tot gr fa re ss sc ne stt sco tim cnt ns sp sq sec rt it ans tl un nw td) H locs := hW
              exact R_iret X Y hW rfl rfl d_Top_submit_74
            · exfalso; omega
      · exfalso; omega

theorem kb_Puzzles_setOf : Cond.code y_Puzzles_setOf b_Puzzles_setOf 6 (some .int) ∈ TBL := TBL_t (List.mem_append_right _ (List.mem_append_left _ (List.mem_of_getElem? (i := 238) rfl))) rfl
theorem km_Top_153 : Cond.methodLink "ContestRows" 153 y_Puzzles_setOf ∈ TBL := TBL_t (List.mem_append_right _ (List.mem_append_left _ (List.mem_of_getElem? (i := 235) rfl))) rfl
theorem cw_Top_153 : Cw "ContestRows" 153 y_Puzzles_setOf b_Puzzles_setOf 6 (some .int) 2 := ⟨kb_Puzzles_setOf, kn_Puzzles, km_Top_153, by decide +kernel⟩
theorem ki_Puzzles_setOf : Cond.instanceMethod y_Puzzles_setOf ∈ TBL := TBL_t (List.mem_append_right _ (List.mem_append_left _ (List.mem_of_getElem? (i := 236) rfl))) rfl
theorem ks_Puzzles_setOf : Cond.selects "ContestRows$Puzzles" y_Puzzles_setOf y_Puzzles_setOf ∈ TBL := TBL_t (List.mem_append_right _ (List.mem_append_left _ (List.mem_of_getElem? (i := 237) rfl))) rfl
set_option maxHeartbeats 4000000 in
set_option maxRecDepth 100000 in
theorem c_Top_even_ok (l : Launch) (G : va_G) (cI cZ cJ : ClassId) (h : Nat → Nat) (wr : Nat → Nat) (se : Nat → Bool) (ga : Nat → Option Nat) (tw : Nat → Option Nat) (np : Nat) (tot : Nat) (gr : Nat → Nat) (fa : Nat → Nat) (re : Nat → Bool) (ss : Nat → Nat) (sc : Nat → Nat) (ne : Nat) (stt : Nat → Option Nat) (sco : Nat → Nat) (tim : Nat → Nat) (cnt : Nat → Nat) (ns : Nat) (sp : Nat → Nat) (sq : Nat → Nat) (sec : Nat → Nat) (rt : Nat → Bool) (it : Nat → Nat) (ans : Nat → Nat) (tl : Nat) (un : Nat → Nat) (nw : Nat → Nat) (td : Nat → Nat) (k : Nat) (q : Nat) (hk : 1 ≤ k ∧ k ≤ 6) (hq : q < np) (hn : np ≤ 20) (hfa : ∀ i, i < np → fa i < 20) (hgr : ∀ i, i < 20 → gr i ≤ 100) : Ct l G (tyL cI cZ cJ) y_Top_even b_Top_even 3 (some .int) (rmL 2) [.ref (h 0), .int (nI k), .int (nI q)] (w_All h cI cZ cJ wr se ga tw np tot gr fa re ss sc ne stt sco tim cnt ns sp sq sec rt it ans tl un nw td) (some (.int (oI ((setF gr fa ss sc np k q).1)))) (w_All h cI cZ cJ wr se ga tw np tot gr fa re ((setF gr fa ss sc np k q).2.1) ((setF gr fa ss sc np k q).2.2) ne stt sco tim cnt ns sp sq sec rt it ans tl un nw td) := by
  refine M_start (by decide) (Nat.le_of_ble_eq_true rfl) ?_
  intro p e s m args below meth c A Q ls X Y hW hl
  have hx := X.1.1
  have hb := X.1.2.1
  have hl : lv_has ls 3 [(0, .ref (h 0)), (1, .int (nI k)), (2, .int (nI q))] := hl
  refine lv_iload_n hx hb d_Top_even_0 rfl (lv_at hl 1 rfl) ?_
  refine lv_iconst (v := (nI 1)) hx hb d_Top_even_1 (by decide +kernel) ?_
  refine N_icmp_lt_NN hx hb (by omega) (by decide) (tgt := 22) d_Top_even_2 (by decide) (fun c2 => ?_) (fun c2 => ?_)
  · exfalso; omega
  · refine lv_iload_n hx hb d_Top_even_5 rfl (lv_at hl 1 rfl) ?_
    refine lv_bipush (v := (nI 6)) hx hb d_Top_even_6 (by decide +kernel) ?_
    refine N_icmp_gt_NN hx hb (by omega) (by decide) (tgt := 22) d_Top_even_8 (by decide) (fun c8 => ?_) (fun c8 => ?_)
    · exfalso; omega
    · refine lv_aload_n hx hb d_Top_even_11 rfl (lv_at hl 0 rfl) ?_
      refine R_get X hW i_Top rfl 0 (by decide) kf_Top_10 0 rfl rfl d_Top_even_12 ?_
      refine lv_iload_n hx hb d_Top_even_15 rfl (lv_at hl 2 rfl) ?_
      refine R_callV (q0 := 5) (c_Puzzles_has l G cI cZ cJ h np tot gr fa re ss sc (nI q) (by omega)) X rfl hW cw_Top_87 ki_Puzzles_has ks_Puzzles_has rfl rfl ⟨rfl, rfl⟩ ⟨by decide, by decide⟩ ⟨Nat.zero_le _, Nat.zero_le _⟩ [false, false, false, false, false, true, true, true, true, true, true, false, false, false, false, false, false, false, false, false, false, false, false, false, false, false, false, false] rfl (Nat.le_of_ble_eq_true rfl) rfl rfl hl.1 rfl rfl (Nat.le_of_ble_eq_true rfl) d_Top_even_16 rfl (fun H locs hW => ?_)
      have hW : Wr G A s.heap (w_All h cI cZ cJ wr se ga tw np tot gr fa re ss sc ne stt sco tim cnt ns sp sq sec rt it ans tl un nw td) H locs := hW
      refine N_if_ne_B hx hb  (tgt := 24) d_Top_even_19 (by decide) (fun c19 => ?_) (fun c19 => ?_)
      · refine lv_aload_n hx hb d_Top_even_24 rfl (lv_at hl 0 rfl) ?_
        refine R_get X hW i_Top rfl 0 (by decide) kf_Top_10 0 rfl rfl d_Top_even_25 ?_
        refine lv_iload_n hx hb d_Top_even_28 rfl (lv_at hl 2 rfl) ?_
        refine lv_iload_n hx hb d_Top_even_29 rfl (lv_at hl 1 rfl) ?_
        refine R_callV (q0 := 5) (c_Puzzles_setOf l G cI cZ cJ h np tot gr fa re ss sc q k hk hn (by omega) hfa hgr) X rfl hW cw_Top_153 ki_Puzzles_setOf ks_Puzzles_setOf rfl rfl ⟨rfl, rfl⟩ ⟨by decide, by decide⟩ ⟨Nat.zero_le _, Nat.zero_le _⟩ [false, false, false, false, false, true, true, true, true, true, true, false, false, false, false, false, false, false, false, false, false, false, false, false, false, false, false, false] rfl (Nat.le_of_ble_eq_true rfl) rfl rfl hl.1 rfl rfl (Nat.le_of_ble_eq_true rfl) d_Top_even_30 rfl (fun H locs hW => ?_)
        have hW : Wr G A s.heap (w_All h cI cZ cJ wr se ga tw np tot gr fa re ((setF gr fa ss sc np k q).2.1) ((setF gr fa ss sc np k q).2.2) ne stt sco tim cnt ns sp sq sec rt it ans tl un nw td) H locs := hW
        exact R_iret X Y hW rfl rfl d_Top_even_33
      · exfalso; rw [inB_nI (by omega) (by omega)] at c19; cases c19
