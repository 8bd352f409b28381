theorem kb_Rules_beginTelling : Cond.code y_Rules_beginTelling b_Rules_beginTelling 1 none ∈ TBL := TBL_t (List.mem_append_left _ (List.mem_of_getElem? (i := 213) rfl)) rfl
theorem km_RuleText_17 : Cond.methodLink "ContestRows$RuleText" 17 y_Rules_beginTelling ∈ TBL := TBL_t (List.mem_append_left _ (List.mem_of_getElem? (i := 210) rfl)) rfl
theorem cw_RuleText_17 : Cw "ContestRows$RuleText" 17 y_Rules_beginTelling b_Rules_beginTelling 1 none 0 := ⟨kb_Rules_beginTelling, kn_Rules, km_RuleText_17, by decide +kernel⟩
theorem ki_Rules_beginTelling : Cond.instanceMethod y_Rules_beginTelling ∈ TBL := TBL_t (List.mem_append_left _ (List.mem_of_getElem? (i := 211) rfl)) rfl
theorem ks_Rules_beginTelling : Cond.selects "ContestRows$Rules" y_Rules_beginTelling y_Rules_beginTelling ∈ TBL := TBL_t (List.mem_append_left _ (List.mem_of_getElem? (i := 212) rfl)) rfl
theorem kb_Rules_endTelling : Cond.code y_Rules_endTelling b_Rules_endTelling 1 none ∈ TBL := TBL_t (List.mem_append_right _ (List.mem_append_left _ (List.mem_of_getElem? (i := 82) rfl))) rfl
theorem km_RuleText_44 : Cond.methodLink "ContestRows$RuleText" 44 y_Rules_endTelling ∈ TBL := TBL_t (List.mem_append_right _ (List.mem_append_left _ (List.mem_of_getElem? (i := 79) rfl))) rfl
theorem cw_RuleText_44 : Cw "ContestRows$RuleText" 44 y_Rules_endTelling b_Rules_endTelling 1 none 0 := ⟨kb_Rules_endTelling, kn_Rules, km_RuleText_44, by decide +kernel⟩
theorem ki_Rules_endTelling : Cond.instanceMethod y_Rules_endTelling ∈ TBL := TBL_t (List.mem_append_right _ (List.mem_append_left _ (List.mem_of_getElem? (i := 80) rfl))) rfl
theorem ks_Rules_endTelling : Cond.selects "ContestRows$Rules" y_Rules_endTelling y_Rules_endTelling ∈ TBL := TBL_t (List.mem_append_right _ (List.mem_append_left _ (List.mem_of_getElem? (i := 81) rfl))) rfl
theorem kb_JStr_indexOf1 : Cond.code y_JStr_indexOf1 b_JStr_indexOf1 2 (some .int) ∈ TBL := TBL_t (List.mem_append_left _ (List.mem_of_getElem? (i := 221) rfl)) rfl
theorem km_RuleText_24 : Cond.methodLink "ContestRows$RuleText" 24 y_JStr_indexOf1 ∈ TBL := TBL_t (List.mem_append_left _ (List.mem_of_getElem? (i := 218) rfl)) rfl
theorem cw_RuleText_24 : Cw "ContestRows$RuleText" 24 y_JStr_indexOf1 b_JStr_indexOf1 2 (some .int) 1 := ⟨kb_JStr_indexOf1, kn_JStr, km_RuleText_24, by decide +kernel⟩
theorem ki_JStr_indexOf1 : Cond.instanceMethod y_JStr_indexOf1 ∈ TBL := TBL_t (List.mem_append_left _ (List.mem_of_getElem? (i := 219) rfl)) rfl
theorem ks_JStr_indexOf1 : Cond.selects "java/lang/String" y_JStr_indexOf1 y_JStr_indexOf1 ∈ TBL := TBL_t (List.mem_append_left _ (List.mem_of_getElem? (i := 220) rfl)) rfl
theorem kb_RuleText_endOfDigits : Cond.code y_RuleText_endOfDigits b_RuleText_endOfDigits 3 (some .int) ∈ TBL := TBL_t (List.mem_append_right _ (List.mem_append_left _ (List.mem_of_getElem? (i := 70) rfl))) rfl
theorem km_RuleText_33 : Cond.methodLink "ContestRows$RuleText" 33 y_RuleText_endOfDigits ∈ TBL := TBL_t (List.mem_append_right _ (List.mem_append_left _ (List.mem_of_getElem? (i := 67) rfl))) rfl
theorem cw_RuleText_33 : Cw "ContestRows$RuleText" 33 y_RuleText_endOfDigits b_RuleText_endOfDigits 3 (some .int) 1 := ⟨kb_RuleText_endOfDigits, kn_RuleText, km_RuleText_33, by decide +kernel⟩
theorem ki_RuleText_endOfDigits : Cond.instanceMethod y_RuleText_endOfDigits ∈ TBL := TBL_t (List.mem_append_right _ (List.mem_append_left _ (List.mem_of_getElem? (i := 69) rfl))) rfl
theorem ks_RuleText_endOfDigits : Cond.selects "ContestRows$RuleText" y_RuleText_endOfDigits y_RuleText_endOfDigits ∈ TBL := TBL_in (List.mem_append_left _ (List.mem_map.mpr ⟨(y_RuleText_endOfDigits, 2), by decide +kernel, rfl⟩)) rfl
theorem kb_RuleText_number : Cond.code y_RuleText_number b_RuleText_number 5 (some .int) ∈ TBL := TBL_t (List.mem_append_right _ (List.mem_append_left _ (List.mem_of_getElem? (i := 74) rfl))) rfl
theorem km_RuleText_36 : Cond.methodLink "ContestRows$RuleText" 36 y_RuleText_number ∈ TBL := TBL_t (List.mem_append_right _ (List.mem_append_left _ (List.mem_of_getElem? (i := 71) rfl))) rfl
theorem cw_RuleText_36 : Cw "ContestRows$RuleText" 36 y_RuleText_number b_RuleText_number 5 (some .int) 2 := ⟨kb_RuleText_number, kn_RuleText, km_RuleText_36, by decide +kernel⟩
theorem ki_RuleText_number : Cond.instanceMethod y_RuleText_number ∈ TBL := TBL_t (List.mem_append_right _ (List.mem_append_left _ (List.mem_of_getElem? (i := 73) rfl))) rfl
theorem ks_RuleText_number : Cond.selects "ContestRows$RuleText" y_RuleText_number y_RuleText_number ∈ TBL := TBL_in (List.mem_append_left _ (List.mem_map.mpr ⟨(y_RuleText_number, 2), by decide +kernel, rfl⟩)) rfl
theorem kb_RuleText_refusal : Cond.code y_RuleText_refusal b_RuleText_refusal 1 (some .int) ∈ TBL := TBL_t (List.mem_append_right _ (List.mem_append_left _ (List.mem_of_getElem? (i := 66) rfl))) rfl
theorem km_RuleText_30 : Cond.methodLink "ContestRows$RuleText" 30 y_RuleText_refusal ∈ TBL := TBL_t (List.mem_append_right _ (List.mem_append_left _ (List.mem_of_getElem? (i := 64) rfl))) rfl
theorem cw_RuleText_30 : Cw "ContestRows$RuleText" 30 y_RuleText_refusal b_RuleText_refusal 1 (some .int) 1 := ⟨kb_RuleText_refusal, kn_RuleText, km_RuleText_30, by decide +kernel⟩
theorem kt_RuleText_refusal : Cond.static y_RuleText_refusal ∈ TBL := TBL_t (List.mem_append_right _ (List.mem_append_left _ (List.mem_of_getElem? (i := 65) rfl))) rfl
theorem kb_Rules_tell : Cond.code y_Rules_tell b_Rules_tell 3 none ∈ TBL := TBL_t (List.mem_append_right _ (List.mem_append_left _ (List.mem_of_getElem? (i := 78) rfl))) rfl
theorem km_RuleText_40 : Cond.methodLink "ContestRows$RuleText" 40 y_Rules_tell ∈ TBL := TBL_t (List.mem_append_right _ (List.mem_append_left _ (List.mem_of_getElem? (i := 75) rfl))) rfl
theorem cw_RuleText_40 : Cw "ContestRows$RuleText" 40 y_Rules_tell b_Rules_tell 3 none 2 := ⟨kb_Rules_tell, kn_Rules, km_RuleText_40, by decide +kernel⟩
theorem ki_Rules_tell : Cond.instanceMethod y_Rules_tell ∈ TBL := TBL_t (List.mem_append_right _ (List.mem_append_left _ (List.mem_of_getElem? (i := 76) rfl))) rfl
theorem ks_Rules_tell : Cond.selects "ContestRows$Rules" y_Rules_tell y_Rules_tell ∈ TBL := TBL_t (List.mem_append_right _ (List.mem_append_left _ (List.mem_of_getElem? (i := 77) rfl))) rfl
set_option maxHeartbeats 4000000 in
set_option maxRecDepth 100000 in
theorem c_RuleText_read (l : Launch) (G : va_G) (cI cZ cJ : ClassId) (h : Nat → Nat) (aK aV : Nat) (tl : Nat) (un : Nat → Nat) (nw : Nat → Nat) (td : Nat → Nat)  (htl : tl ≤ 100) (hun : ∀ i, i < 100 → un i ≤ 255) : CtX l aK aV G (tyL cI cZ cJ) y_RuleText_read b_RuleText_read 7 (some .int) (rmL 4) [.ref (h 23), .ref (h 25)] (w_TR h cI cZ cJ tl un nw td) (some (.int (rdR (rdG un tl 101 0 0 (cpyN 5 nw td)).1))) (w_TR h cI cZ cJ tl un (nwC (rdG un tl 101 0 0 (cpyN 5 nw td)) nw) ((rdG un tl 101 0 0 (cpyN 5 nw td)).2)) := by
  refine M_startX (by decide) (Nat.le_of_ble_eq_true rfl) ?_
  intro p e s m args below meth c A Q ls X Y hW hl hE
  have hx := X.1.1
  have hb := X.1.2.1
  have hl : lv_has ls 7 [(0, .ref (h 23)), (1, .ref (h 25))] := hl
  refine lv_aload_n hx hb d_RuleText_read_0 rfl (lv_at hl 1 rfl) ?_
  refine R_callV (q0 := 2) (c_Rules_beginTelling l G cI cZ cJ h nw td) X rfl hW cw_RuleText_17 ki_Rules_beginTelling ks_Rules_beginTelling rfl rfl ⟨rfl, rfl⟩ ⟨by decide, by decide⟩ ⟨Nat.zero_le _, Nat.zero_le _⟩ [false, false, true, true, true] rfl (Nat.le_of_ble_eq_true rfl) rfl rfl hl.1 rfl rfl (Nat.le_of_ble_eq_true rfl) d_RuleText_read_1 rfl (fun H locs hW => ?_)
  have hW : Wr G A s.heap (w_TR h cI cZ cJ tl un nw (cpyN 5 nw td)) H locs := hW
  refine lv_iconst (v := (nI 0)) hx hb d_RuleText_read_4 (by decide +kernel) ?_
  refine lv_istore_n (lv' := [(2, .int (nI 0)), (0, .ref (h 23)), (1, .ref (h 25))]) hx hb d_RuleText_read_5 rfl hl (by decide) rfl (fun ls hl => ?_)
  refine lv_iconst (v := (nI 0)) hx hb d_RuleText_read_6 (by decide +kernel) ?_
  refine lv_istore_n (lv' := [(3, .int (nI 0)), (2, .int (nI 0)), (0, .ref (h 23)), (1, .ref (h 25))]) hx hb d_RuleText_read_7 rfl hl (by decide) rfl (fun ls hl => ?_)
  have L8 : ∀ (n : Nat) (r : Nat) (j : Nat) (f : Nat → Nat) (hj : j ≤ 110) (hm0 : tl - j < n) (he : rdG un tl n r j f = rdG un tl 101 0 0 (cpyN 5 nw td)) (H : Heap) (locs : List Loc) (hW : Wr G A s.heap (w_TR h cI cZ cJ tl un nw f) H locs) (ls : Array Slot) (hl : lv_has ls 7 [(0, .ref (h 23)), (1, .ref (h 25)), (2, .int (nI r)), (3, .int (nI j))]), W p l e (rmL 4) s m args below meth c H locs 0 0 Q (F0 m 8 ls []) := by
    intro n
    induction n with
    | zero =>
      intro r j f hj hm0 he H locs hW ls hl
      exfalso; omega
    | succ n ih8 =>
      intro r j f hj hm0 he H locs hW ls hl
      refine lv_iload_n hx hb d_RuleText_read_8 rfl (lv_at hl 3 rfl) ?_
      refine lv_aload_n hx hb d_RuleText_read_9 rfl (lv_at hl 0 rfl) ?_
      refine R_get X hW i_RuleText rfl 1 (by decide) kf_RuleText_13 0 rfl rfl d_RuleText_read_10 ?_
      refine N_icmp_ge_NN hx hb (by omega) (by omega) (tgt := 140) d_RuleText_read_13 (by decide) (fun c13 => ?_) (fun c13 => ?_)
      · refine lv_aload_n hx hb d_RuleText_read_140 rfl (lv_at hl 1 rfl) ?_
        refine R_callV (q0 := 2) (c_Rules_endTelling l G cI cZ cJ h nw f) X rfl hW cw_RuleText_44 ki_Rules_endTelling ks_Rules_endTelling rfl rfl ⟨rfl, rfl⟩ ⟨by decide, by decide⟩ ⟨Nat.zero_le _, Nat.zero_le _⟩ [false, false, true, true, true] rfl (Nat.le_of_ble_eq_true rfl) rfl rfl hl.1 rfl rfl (Nat.le_of_ble_eq_true rfl) d_RuleText_read_141 rfl (fun H locs hW => ?_)
        have hW : Wr G A s.heap (w_TR h cI cZ cJ tl un (cpyN 5 f nw) f) H locs := hW
        refine lv_iload_n hx hb d_RuleText_read_144 rfl (lv_at hl 2 rfl) ?_
        exact R_iret X Y hW (by rw [← he, rdG, if_pos (by omega)]; rfl) (by rw [← he, rdG, if_pos (by omega)]; rfl) d_RuleText_read_145
      · have q1 := hun j (by omega)
        have y1 := eod_ge un tl (j + 1) 5 (j + 1)
        have y2 := eod_le un tl (j + 1) 5 (j + 1) (by omega)
        have y3 : eoF un tl j = eodG un tl (j + 1) 5 (j + 1) := rfl
        have y4 : nuF un tl j = numG un (eodG un tl (j + 1) 5 (j + 1) - (j + 1)) (j + 1) 0 := rfl
        have y5 : nuF un tl j ≤ 9999 := nuF_le
        have y6 := eod_tl un tl (j + 1) 5 (j + 1) (by omega)
        refine va_ldcS hx hb X.1.2.2.2.1 hE.1 d_RuleText_read_16 ?_
        refine lv_aload_n hx hb d_RuleText_read_18 rfl (lv_at hl 0 rfl) ?_
        refine R_get X hW i_RuleText rfl 0 (by decide) kf_RuleText_9 0 rfl rfl d_RuleText_read_19 ?_
        refine lv_iload_n hx hb d_RuleText_read_22 rfl (lv_at hl 3 rfl) ?_
        refine R_iald X hW (t0 := 0) rfl 1 rfl (k := j) (by omega) (by decide) d_RuleText_read_23 ?_
        refine lv_i2c (v := (nI (un j))) hx hb d_RuleText_read_24 (i2c_u (by omega)) ?_
        refine R_callVX (j_JStr_indexOf1 l G cI cZ cJ aK aV (un j) q1) X hE hW cw_RuleText_24 ki_JStr_indexOf1 ks_JStr_indexOf1 (vk_recv hE.2.1 (i := 0) (by decide) hW.2.2) ⟨rfl, rfl⟩ ⟨by decide, by decide⟩ ⟨Nat.zero_le _, Nat.zero_le _⟩ [false, false, false, false, false] rfl (Nat.le_of_ble_eq_true rfl) rfl rfl hl.1 rfl rfl (Nat.le_of_ble_eq_true rfl) d_RuleText_read_25 rfl (fun H locs hW => ?_)
        have hW : Wr G A s.heap (w_TR h cI cZ cJ tl un nw f) H locs := hW
        refine lv_istore (lv' := [(4, .int (oI (letF (un j)))), (0, .ref (h 23)), (1, .ref (h 25)), (2, .int (nI r)), (3, .int (nI j))]) hx hb d_RuleText_read_28 hl (by decide) rfl (fun ls hl => ?_)
        refine lv_iload hx hb d_RuleText_read_30 (lv_at hl 0 rfl) ?_
        refine N_if_ge_O hx hb (fun z hz => by have := let_lt hz; omega) (tgt := 40) d_RuleText_read_32 (by decide) (fun c32 => ?_) (fun c32 => ?_)
        · obtain ⟨z, hz⟩ : ∃ z, letF (un j) = some z := by cases hq : letF (un j) with | none => exact absurd hq c32 | some z => exact ⟨z, rfl⟩
          have hz5 := let_lt hz
          refine lv_aload_n hx hb d_RuleText_read_40 rfl (lv_at hl 1 rfl) ?_
          refine lv_iload_n hx hb d_RuleText_read_41 rfl (lv_at hl 4 rfl) ?_
          refine lv_iconst (v := (nI 1)) hx hb d_RuleText_read_42 (by decide +kernel) ?_
          refine N_iadd hx hb d_RuleText_read_43 ?_
          refine R_callV (q0 := 0) (c_RuleText_endOfDigits l G cI cZ cJ h tl un (j + 1) (by omega) htl hun) X rfl hW cw_RuleText_33 ki_RuleText_endOfDigits ks_RuleText_endOfDigits rfl rfl ⟨rfl, rfl⟩ ⟨by decide, by decide⟩ ⟨Nat.zero_le _, Nat.zero_le _⟩ [true, true, false, false, false] rfl (Nat.le_of_ble_eq_true rfl) rfl rfl hl.1 rfl rfl (Nat.le_of_ble_eq_true rfl) d_RuleText_read_44 rfl (fun H locs hW => ?_)
          have hW : Wr G A s.heap (w_TR h cI cZ cJ tl un nw f) H locs := hW
          refine lv_istore (lv' := [(5, .int (nI (eodG un tl (j + 1) 5 (j + 1)))), (4, .int (oI (letF (un j)))), (0, .ref (h 23)), (1, .ref (h 25)), (2, .int (nI r)), (3, .int (nI j))]) hx hb d_RuleText_read_47 hl (by decide) rfl (fun ls hl => ?_)
          refine lv_iload hx hb d_RuleText_read_49 (lv_at hl 0 rfl) ?_
          refine lv_iload_n hx hb d_RuleText_read_51 rfl (lv_at hl 5 rfl) ?_
          refine lv_iconst (v := (nI 1)) hx hb d_RuleText_read_52 (by decide +kernel) ?_
          refine N_iadd hx hb d_RuleText_read_53 ?_
          refine N_icmp_ne_NN hx hb (by omega) (by omega) (tgt := 63) d_RuleText_read_54 (by decide) (fun c54 => ?_) (fun c54 => ?_)
          · refine lv_aload_n hx hb d_RuleText_read_63 rfl (lv_at hl 2 rfl) ?_
            refine lv_iload_n hx hb d_RuleText_read_64 rfl (lv_at hl 5 rfl) ?_
            refine lv_iconst (v := (nI 1)) hx hb d_RuleText_read_65 (by decide +kernel) ?_
            refine N_iadd hx hb d_RuleText_read_66 ?_
            refine lv_iload hx hb d_RuleText_read_67 (lv_at hl 0 rfl) ?_
            refine R_callV (q0 := 0) (c_RuleText_number l G cI cZ cJ h tl un (j + 1) (eodG un tl (j + 1) 5 (j + 1)) (⟨by omega, by omega⟩) (fun i h1 h2 => (eod_dig un tl (j + 1) 5 (j + 1) i h1 h2).2.1)) X rfl hW cw_RuleText_36 ki_RuleText_number ks_RuleText_number rfl rfl ⟨rfl, rfl⟩ ⟨by decide, by decide⟩ ⟨Nat.zero_le _, Nat.zero_le _⟩ [true, true, false, false, false] rfl (Nat.le_of_ble_eq_true rfl) rfl rfl hl.1 rfl rfl (Nat.le_of_ble_eq_true rfl) d_RuleText_read_69 rfl (fun H locs hW => ?_)
            have hW : Wr G A s.heap (w_TR h cI cZ cJ tl un nw f) H locs := hW
            refine lv_istore (lv' := [(6, .int (nI (numG un ((eodG un tl (j + 1) 5 (j + 1)) - (j + 1)) (j + 1) 0))), (5, .int (nI (eodG un tl (j + 1) 5 (j + 1)))), (4, .int (oI (letF (un j)))), (0, .ref (h 23)), (1, .ref (h 25)), (2, .int (nI r)), (3, .int (nI j))]) hx hb d_RuleText_read_72 hl (by decide) rfl (fun ls hl => ?_)
            refine lv_iload hx hb d_RuleText_read_74 (lv_at hl 2 rfl) ?_
            refine lv_iconst (v := (nI 4)) hx hb d_RuleText_read_76 (by decide +kernel) ?_
            refine W.eq (g2 := F0 m 77 ls (.int (nI 4) :: .int (nI z) :: [])) (by rw [hz]; first | done | rfl) ?_
            refine N_icmp_ne_NN hx hb (by omega) (by decide) (tgt := 94) d_RuleText_read_77 (by decide) (fun c77 => ?_) (fun c77 => ?_)
            · refine lv_iload hx hb d_RuleText_read_94 (lv_at hl 1 rfl) ?_
              refine lv_aload_n hx hb d_RuleText_read_96 rfl (lv_at hl 3 rfl) ?_
              refine R_get X hW i_RuleText rfl 1 (by decide) kf_RuleText_13 0 rfl rfl d_RuleText_read_97 ?_
              refine N_icmp_ge_NN hx hb (by omega) (by omega) (tgt := 115) d_RuleText_read_100 (by decide) (fun c100 => ?_) (fun c100 => ?_)
              · refine lv_iload hx hb d_RuleText_read_115 (lv_at hl 1 rfl) ?_
                refine R_callS (c_RuleText_refusal l G cI cZ cJ h (eodG un tl (j + 1) 5 (j + 1))) X rfl hW cw_RuleText_30 kt_RuleText_refusal ⟨rfl, rfl⟩ ⟨by decide, by decide⟩ ⟨Nat.zero_le _, Nat.zero_le _⟩ [false, false, false, false, false] rfl (Nat.le_of_ble_eq_true rfl) rfl rfl hl.1 rfl rfl (Nat.le_of_ble_eq_true rfl) d_RuleText_read_117 rfl (fun H locs hW => ?_)
                have hW : Wr G A s.heap (w_TR h cI cZ cJ tl un nw f) H locs := hW
                exact R_iret X Y hW (by rw [← he, rdG, if_neg (by omega), hz]; dsimp only; rw [if_neg (by rw [y3]; omega), if_neg (by rw [y4]; omega), if_pos (by rw [y3]; first | (left; omega) | (right; exact c112))]; rfl) (by rw [← he, rdG, if_neg (by omega), hz]; dsimp only; rw [if_neg (by rw [y3]; omega), if_neg (by rw [y4]; omega), if_pos (by rw [y3]; first | (left; omega) | (right; exact c112)), y3]; rfl) d_RuleText_read_120
              · have q2 := hun (eodG un tl (j + 1) 5 (j + 1)) (by omega)
                refine lv_aload_n hx hb d_RuleText_read_103 rfl (lv_at hl 3 rfl) ?_
                refine R_get X hW i_RuleText rfl 0 (by decide) kf_RuleText_9 0 rfl rfl d_RuleText_read_104 ?_
                refine lv_iload hx hb d_RuleText_read_107 (lv_at hl 1 rfl) ?_
                refine R_iald X hW (t0 := 0) rfl 1 rfl (k := (eodG un tl (j + 1) 5 (j + 1))) (by omega) (by decide) d_RuleText_read_109 ?_
                refine lv_bipush (v := (nI 59)) hx hb d_RuleText_read_110 (by decide +kernel) ?_
                refine N_icmp_eq_NN hx hb (by omega) (by decide) (tgt := 121) d_RuleText_read_112 (by decide) (fun c112 => ?_) (fun c112 => ?_)
                · refine lv_aload_n hx hb d_RuleText_read_121 rfl (lv_at hl 4 rfl) ?_
                  refine lv_iload hx hb d_RuleText_read_122 (lv_at hl 2 rfl) ?_
                  refine lv_iload hx hb d_RuleText_read_124 (lv_at hl 0 rfl) ?_
                  refine W.eq (g2 := F0 m 126 ls (.int (nI (numG un ((eodG un tl (j + 1) 5 (j + 1)) - (j + 1)) (j + 1) 0)) :: .int (nI z) :: .ref (h 25) :: [])) (by rw [hz]; first | done | rfl) ?_
                  refine R_callV (q0 := 2) (c_Rules_tell l G cI cZ cJ h nw f z (numG un ((eodG un tl (j + 1) 5 (j + 1)) - (j + 1)) (j + 1) 0) (by omega)) X rfl hW cw_RuleText_40 ki_Rules_tell ks_Rules_tell rfl rfl ⟨rfl, rfl⟩ ⟨by decide, by decide⟩ ⟨Nat.zero_le _, Nat.zero_le _⟩ [false, false, true, true, true] rfl (Nat.le_of_ble_eq_true rfl) rfl rfl hl.1 rfl rfl (Nat.le_of_ble_eq_true rfl) d_RuleText_read_126 rfl (fun H locs hW => ?_)
                  have hW : Wr G A s.heap (w_TR h cI cZ cJ tl un nw (va_up f z (numG un ((eodG un tl (j + 1) 5 (j + 1)) - (j + 1)) (j + 1) 0))) H locs := hW
                  refine lv_iinc (v := (nI (r + 1))) (lv' := [(2, .int (nI (r + 1))), (6, .int (nI (numG un ((eodG un tl (j + 1) 5 (j + 1)) - (j + 1)) (j + 1) 0))), (5, .int (nI (eodG un tl (j + 1) 5 (j + 1)))), (4, .int (oI (letF (un j)))), (0, .ref (h 23)), (1, .ref (h 25)), (3, .int (nI j))]) hx hb d_RuleText_read_129 hl (k := 5) rfl (N_inc r) (by decide) rfl (fun ls hl => ?_)
                  refine lv_iload hx hb d_RuleText_read_132 (lv_at hl 2 rfl) ?_
                  refine lv_iconst (v := (nI 1)) hx hb d_RuleText_read_134 (by decide +kernel) ?_
                  refine N_iadd hx hb d_RuleText_read_135 ?_
                  refine lv_istore_n (lv' := [(3, .int (nI ((eodG un tl (j + 1) 5 (j + 1)) + 1))), (2, .int (nI (r + 1))), (6, .int (nI (numG un ((eodG un tl (j + 1) 5 (j + 1)) - (j + 1)) (j + 1) 0))), (5, .int (nI (eodG un tl (j + 1) 5 (j + 1)))), (4, .int (oI (letF (un j)))), (0, .ref (h 23)), (1, .ref (h 25))]) hx hb d_RuleText_read_136 rfl hl (by decide) rfl (fun ls hl => ?_)
                  refine lv_goto (tgt := 8) hx hb d_RuleText_read_137 (by decide) ?_
                  exact ih8 (r + 1) ((eodG un tl (j + 1) 5 (j + 1)) + 1) (va_up f z (numG un ((eodG un tl (j + 1) 5 (j + 1)) - (j + 1)) (j + 1) 0)) (by omega) (by omega) (by rw [← he, rdG, if_neg (by omega), hz]; dsimp only; rw [if_neg (by rw [y3]; omega), if_neg (by rw [y4]; omega), if_neg (by rw [y3]; omega), y3, y4]) _ _ hW ls (lv_sub hl [5, 6, 1, 0] rfl)
                · refine lv_iload hx hb d_RuleText_read_115 (lv_at hl 1 rfl) ?_
                  refine R_callS (c_RuleText_refusal l G cI cZ cJ h (eodG un tl (j + 1) 5 (j + 1))) X rfl hW cw_RuleText_30 kt_RuleText_refusal ⟨rfl, rfl⟩ ⟨by decide, by decide⟩ ⟨Nat.zero_le _, Nat.zero_le _⟩ [false, false, false, false, false] rfl (Nat.le_of_ble_eq_true rfl) rfl rfl hl.1 rfl rfl (Nat.le_of_ble_eq_true rfl) d_RuleText_read_117 rfl (fun H locs hW => ?_)
                  have hW : Wr G A s.heap (w_TR h cI cZ cJ tl un nw f) H locs := hW
                  exact R_iret X Y hW (by rw [← he, rdG, if_neg (by omega), hz]; dsimp only; rw [if_neg (by rw [y3]; omega), if_neg (by rw [y4]; omega), if_pos (by rw [y3]; first | (left; omega) | (right; exact c112))]; rfl) (by rw [← he, rdG, if_neg (by omega), hz]; dsimp only; rw [if_neg (by rw [y3]; omega), if_neg (by rw [y4]; omega), if_pos (by rw [y3]; first | (left; omega) | (right; exact c112)), y3]; rfl) d_RuleText_read_120
            · refine lv_iload hx hb d_RuleText_read_80 (lv_at hl 0 rfl) ?_
              refine lv_iconst (v := (nI 1)) hx hb d_RuleText_read_82 (by decide +kernel) ?_
              refine N_icmp_le_NN hx hb (by omega) (by decide) (tgt := 94) d_RuleText_read_83 (by decide) (fun c83 => ?_) (fun c83 => ?_)
              · refine lv_iload hx hb d_RuleText_read_94 (lv_at hl 1 rfl) ?_
                refine lv_aload_n hx hb d_RuleText_read_96 rfl (lv_at hl 3 rfl) ?_
                refine R_get X hW i_RuleText rfl 1 (by decide) kf_RuleText_13 0 rfl rfl d_RuleText_read_97 ?_
                refine N_icmp_ge_NN hx hb (by omega) (by omega) (tgt := 115) d_RuleText_read_100 (by decide) (fun c100 => ?_) (fun c100 => ?_)
                · refine lv_iload hx hb d_RuleText_read_115 (lv_at hl 1 rfl) ?_
                  refine R_callS (c_RuleText_refusal l G cI cZ cJ h (eodG un tl (j + 1) 5 (j + 1))) X rfl hW cw_RuleText_30 kt_RuleText_refusal ⟨rfl, rfl⟩ ⟨by decide, by decide⟩ ⟨Nat.zero_le _, Nat.zero_le _⟩ [false, false, false, false, false] rfl (Nat.le_of_ble_eq_true rfl) rfl rfl hl.1 rfl rfl (Nat.le_of_ble_eq_true rfl) d_RuleText_read_117 rfl (fun H locs hW => ?_)
                  have hW : Wr G A s.heap (w_TR h cI cZ cJ tl un nw f) H locs := hW
                  exact R_iret X Y hW (by rw [← he, rdG, if_neg (by omega), hz]; dsimp only; rw [if_neg (by rw [y3]; omega), if_neg (by rw [y4]; omega), if_pos (by rw [y3]; first | (left; omega) | (right; exact c112))]; rfl) (by rw [← he, rdG, if_neg (by omega), hz]; dsimp only; rw [if_neg (by rw [y3]; omega), if_neg (by rw [y4]; omega), if_pos (by rw [y3]; first | (left; omega) | (right; exact c112)), y3]; rfl) d_RuleText_read_120
                · have q2 := hun (eodG un tl (j + 1) 5 (j + 1)) (by omega)
                  refine lv_aload_n hx hb d_RuleText_read_103 rfl (lv_at hl 3 rfl) ?_
                  refine R_get X hW i_RuleText rfl 0 (by decide) kf_RuleText_9 0 rfl rfl d_RuleText_read_104 ?_
                  refine lv_iload hx hb d_RuleText_read_107 (lv_at hl 1 rfl) ?_
                  refine R_iald X hW (t0 := 0) rfl 1 rfl (k := (eodG un tl (j + 1) 5 (j + 1))) (by omega) (by decide) d_RuleText_read_109 ?_
                  refine lv_bipush (v := (nI 59)) hx hb d_RuleText_read_110 (by decide +kernel) ?_
                  refine N_icmp_eq_NN hx hb (by omega) (by decide) (tgt := 121) d_RuleText_read_112 (by decide) (fun c112 => ?_) (fun c112 => ?_)
                  · refine lv_aload_n hx hb d_RuleText_read_121 rfl (lv_at hl 4 rfl) ?_
                    refine lv_iload hx hb d_RuleText_read_122 (lv_at hl 2 rfl) ?_
                    refine lv_iload hx hb d_RuleText_read_124 (lv_at hl 0 rfl) ?_
                    refine W.eq (g2 := F0 m 126 ls (.int (nI (numG un ((eodG un tl (j + 1) 5 (j + 1)) - (j + 1)) (j + 1) 0)) :: .int (nI z) :: .ref (h 25) :: [])) (by rw [hz]; first | done | rfl) ?_
                    refine R_callV (q0 := 2) (c_Rules_tell l G cI cZ cJ h nw f z (numG un ((eodG un tl (j + 1) 5 (j + 1)) - (j + 1)) (j + 1) 0) (by omega)) X rfl hW cw_RuleText_40 ki_Rules_tell ks_Rules_tell rfl rfl ⟨rfl, rfl⟩ ⟨by decide, by decide⟩ ⟨Nat.zero_le _, Nat.zero_le _⟩ [false, false, true, true, true] rfl (Nat.le_of_ble_eq_true rfl) rfl rfl hl.1 rfl rfl (Nat.le_of_ble_eq_true rfl) d_RuleText_read_126 rfl (fun H locs hW => ?_)
                    have hW : Wr G A s.heap (w_TR h cI cZ cJ tl un nw (va_up f z (numG un ((eodG un tl (j + 1) 5 (j + 1)) - (j + 1)) (j + 1) 0))) H locs := hW
                    refine lv_iinc (v := (nI (r + 1))) (lv' := [(2, .int (nI (r + 1))), (6, .int (nI (numG un ((eodG un tl (j + 1) 5 (j + 1)) - (j + 1)) (j + 1) 0))), (5, .int (nI (eodG un tl (j + 1) 5 (j + 1)))), (4, .int (oI (letF (un j)))), (0, .ref (h 23)), (1, .ref (h 25)), (3, .int (nI j))]) hx hb d_RuleText_read_129 hl (k := 5) rfl (N_inc r) (by decide) rfl (fun ls hl => ?_)
                    refine lv_iload hx hb d_RuleText_read_132 (lv_at hl 2 rfl) ?_
                    refine lv_iconst (v := (nI 1)) hx hb d_RuleText_read_134 (by decide +kernel) ?_
                    refine N_iadd hx hb d_RuleText_read_135 ?_
                    refine lv_istore_n (lv' := [(3, .int (nI ((eodG un tl (j + 1) 5 (j + 1)) + 1))), (2, .int (nI (r + 1))), (6, .int (nI (numG un ((eodG un tl (j + 1) 5 (j + 1)) - (j + 1)) (j + 1) 0))), (5, .int (nI (eodG un tl (j + 1) 5 (j + 1)))), (4, .int (oI (letF (un j)))), (0, .ref (h 23)), (1, .ref (h 25))]) hx hb d_RuleText_read_136 rfl hl (by decide) rfl (fun ls hl => ?_)
                    refine lv_goto (tgt := 8) hx hb d_RuleText_read_137 (by decide) ?_
                    exact ih8 (r + 1) ((eodG un tl (j + 1) 5 (j + 1)) + 1) (va_up f z (numG un ((eodG un tl (j + 1) 5 (j + 1)) - (j + 1)) (j + 1) 0)) (by omega) (by omega) (by rw [← he, rdG, if_neg (by omega), hz]; dsimp only; rw [if_neg (by rw [y3]; omega), if_neg (by rw [y4]; omega), if_neg (by rw [y3]; omega), y3, y4]) _ _ hW ls (lv_sub hl [5, 6, 1, 0] rfl)
                  · refine lv_iload hx hb d_RuleText_read_115 (lv_at hl 1 rfl) ?_
                    refine R_callS (c_RuleText_refusal l G cI cZ cJ h (eodG un tl (j + 1) 5 (j + 1))) X rfl hW cw_RuleText_30 kt_RuleText_refusal ⟨rfl, rfl⟩ ⟨by decide, by decide⟩ ⟨Nat.zero_le _, Nat.zero_le _⟩ [false, false, false, false, false] rfl (Nat.le_of_ble_eq_true rfl) rfl rfl hl.1 rfl rfl (Nat.le_of_ble_eq_true rfl) d_RuleText_read_117 rfl (fun H locs hW => ?_)
                    have hW : Wr G A s.heap (w_TR h cI cZ cJ tl un nw f) H locs := hW
                    exact R_iret X Y hW (by rw [← he, rdG, if_neg (by omega), hz]; dsimp only; rw [if_neg (by rw [y3]; omega), if_neg (by rw [y4]; omega), if_pos (by rw [y3]; first | (left; omega) | (right; exact c112))]; rfl) (by rw [← he, rdG, if_neg (by omega), hz]; dsimp only; rw [if_neg (by rw [y3]; omega), if_neg (by rw [y4]; omega), if_pos (by rw [y3]; first | (left; omega) | (right; exact c112)), y3]; rfl) d_RuleText_read_120
              · refine lv_iload hx hb d_RuleText_read_86 (lv_at hl 1 rfl) ?_
                refine lv_iconst (v := (nI 1)) hx hb d_RuleText_read_88 (by decide +kernel) ?_
                refine N_isub (r := (eodG un tl (j + 1) 5 (j + 1)) - 1) hx hb (by omega) (by omega) d_RuleText_read_89 ?_
                refine R_callS (c_RuleText_refusal l G cI cZ cJ h ((eodG un tl (j + 1) 5 (j + 1)) - 1)) X rfl hW cw_RuleText_30 kt_RuleText_refusal ⟨rfl, rfl⟩ ⟨by decide, by decide⟩ ⟨Nat.zero_le _, Nat.zero_le _⟩ [false, false, false, false, false] rfl (Nat.le_of_ble_eq_true rfl) rfl rfl hl.1 rfl rfl (Nat.le_of_ble_eq_true rfl) d_RuleText_read_90 rfl (fun H locs hW => ?_)
                have hW : Wr G A s.heap (w_TR h cI cZ cJ tl un nw f) H locs := hW
                exact R_iret X Y hW (by rw [← he, rdG, if_neg (by omega), hz]; dsimp only; rw [if_neg (by rw [y3]; omega), if_pos (by rw [y4]; omega)]; rfl) (by rw [← he, rdG, if_neg (by omega), hz]; dsimp only; rw [if_neg (by rw [y3]; omega), if_pos (by rw [y4]; omega), y3]; rfl) d_RuleText_read_93
          · refine lv_iload hx hb d_RuleText_read_57 (lv_at hl 0 rfl) ?_
            refine R_callS (c_RuleText_refusal l G cI cZ cJ h (eodG un tl (j + 1) 5 (j + 1))) X rfl hW cw_RuleText_30 kt_RuleText_refusal ⟨rfl, rfl⟩ ⟨by decide, by decide⟩ ⟨Nat.zero_le _, Nat.zero_le _⟩ [false, false, false, false, false] rfl (Nat.le_of_ble_eq_true rfl) rfl rfl hl.1 rfl rfl (Nat.le_of_ble_eq_true rfl) d_RuleText_read_59 rfl (fun H locs hW => ?_)
            have hW : Wr G A s.heap (w_TR h cI cZ cJ tl un nw f) H locs := hW
            exact R_iret X Y hW (by rw [← he, rdG, if_neg (by omega), hz]; dsimp only; rw [if_pos (by rw [y3]; omega)]; rfl) (by rw [← he, rdG, if_neg (by omega), hz]; dsimp only; rw [if_pos (by rw [y3]; omega), c54]; rfl) d_RuleText_read_62
        · refine lv_iload_n hx hb d_RuleText_read_35 rfl (lv_at hl 4 rfl) ?_
          refine R_callS (c_RuleText_refusal l G cI cZ cJ h j) X rfl hW cw_RuleText_30 kt_RuleText_refusal ⟨rfl, rfl⟩ ⟨by decide, by decide⟩ ⟨Nat.zero_le _, Nat.zero_le _⟩ [false, false, false, false, false] rfl (Nat.le_of_ble_eq_true rfl) rfl rfl hl.1 rfl rfl (Nat.le_of_ble_eq_true rfl) d_RuleText_read_36 rfl (fun H locs hW => ?_)
          have hW : Wr G A s.heap (w_TR h cI cZ cJ tl un nw f) H locs := hW
          exact R_iret X Y hW (by rw [← he, rdG, if_neg (by omega), c32]; rfl) (by rw [← he, rdG, if_neg (by omega), c32]; rfl) d_RuleText_read_39
  exact L8 101 0 0 (cpyN 5 nw td) (by omega) (by omega) rfl _ _ hW ls (lv_sub hl [2, 3, 1, 0] rfl)

theorem kb_RuleText_read : Cond.code y_RuleText_read b_RuleText_read 7 (some .int) ∈ TBL := TBL_t (List.mem_append_left _ (List.mem_of_getElem? (i := 209) rfl)) rfl
theorem km_Top_69 : Cond.methodLink "ContestRows" 69 y_RuleText_read ∈ TBL := TBL_t (List.mem_append_left _ (List.mem_of_getElem? (i := 206) rfl)) rfl
theorem cw_Top_69 : Cw "ContestRows" 69 y_RuleText_read b_RuleText_read 7 (some .int) 1 := ⟨kb_RuleText_read, kn_RuleText, km_Top_69, by decide +kernel⟩
theorem ki_RuleText_read : Cond.instanceMethod y_RuleText_read ∈ TBL := TBL_t (List.mem_append_left _ (List.mem_of_getElem? (i := 207) rfl)) rfl
theorem ks_RuleText_read : Cond.selects "ContestRows$RuleText" y_RuleText_read y_RuleText_read ∈ TBL := TBL_t (List.mem_append_left _ (List.mem_of_getElem? (i := 208) rfl)) rfl
theorem kb_RuleText_clear : Cond.code y_RuleText_clear b_RuleText_clear 1 none ∈ TBL := TBL_t (List.mem_append_right _ (List.mem_append_left _ (List.mem_of_getElem? (i := 86) rfl))) rfl
theorem km_Top_73 : Cond.methodLink "ContestRows" 73 y_RuleText_clear ∈ TBL := TBL_t (List.mem_append_right _ (List.mem_append_left _ (List.mem_of_getElem? (i := 83) rfl))) rfl
theorem cw_Top_73 : Cw "ContestRows" 73 y_RuleText_clear b_RuleText_clear 1 none 0 := ⟨kb_RuleText_clear, kn_RuleText, km_Top_73, by decide +kernel⟩
theorem ki_RuleText_clear : Cond.instanceMethod y_RuleText_clear ∈ TBL := TBL_t (List.mem_append_right _ (List.mem_append_left _ (List.mem_of_getElem? (i := 84) rfl))) rfl
theorem ks_RuleText_clear : Cond.selects "ContestRows$RuleText" y_RuleText_clear y_RuleText_clear ∈ TBL := TBL_t (List.mem_append_right _ (List.mem_append_left _ (List.mem_of_getElem? (i := 85) rfl))) rfl
set_option maxHeartbeats 4000000 in
set_option maxRecDepth 100000 in
theorem c_Top_rules (l : Launch) (G : va_G) (cI cZ cJ : ClassId) (h : Nat → Nat) (aK aV : Nat) (wr : Nat → Nat) (se : Nat → Bool) (ga : Nat → Option Nat) (tw : Nat → Option Nat) (np : Nat) (tot : Nat) (gr : Nat → Nat) (fa : Nat → Nat) (re : Nat → Bool) (ss : Nat → Nat) (sc : Nat → Nat) (ne : Nat) (stt : Nat → Option Nat) (sco : Nat → Nat) (tim : Nat → Nat) (cnt : Nat → Nat) (ns : Nat) (sp : Nat → Nat) (sq : Nat → Nat) (sec : Nat → Nat) (rt : Nat → Bool) (it : Nat → Nat) (ans : Nat → Nat) (tl : Nat) (un : Nat → Nat) (nw : Nat → Nat) (td : Nat → Nat)  (htl : tl ≤ 100) (hun : ∀ i, i < 100 → un i ≤ 255) : CtX l aK aV G (tyL cI cZ cJ) y_Top_rules b_Top_rules 2 (some .int) (rmL 5) [.ref (h 0)] (w_All h cI cZ cJ wr se ga tw np tot gr fa re ss sc ne stt sco tim cnt ns sp sq sec rt it ans tl un nw td) (some (.int (rdR (rdG un tl 101 0 0 (cpyN 5 nw td)).1))) (w_All h cI cZ cJ wr se ga tw np tot gr fa re ss sc ne stt sco tim cnt ns sp sq sec rt it ans 0 un (nwC (rdG un tl 101 0 0 (cpyN 5 nw td)) nw) ((rdG un tl 101 0 0 (cpyN 5 nw td)).2)) := by
  refine M_startX (by decide) (Nat.le_of_ble_eq_true rfl) ?_
  intro p e s m args below meth c A Q ls X Y hW hl hE
  have hx := X.1.1
  have hb := X.1.2.1
  have hl : lv_has ls 2 [(0, .ref (h 0))] := hl
  refine lv_aload_n hx hb d_Top_rules_0 rfl (lv_at hl 0 rfl) ?_
  refine R_get X hW i_Top rfl 3 (by decide) kf_Top_33 0 rfl rfl d_Top_rules_1 ?_
  refine lv_aload_n hx hb d_Top_rules_4 rfl (lv_at hl 0 rfl) ?_
  refine R_get X hW i_Top rfl 4 (by decide) kf_Top_40 0 rfl rfl d_Top_rules_5 ?_
  refine R_callVX (c_RuleText_read l G cI cZ cJ h aK aV tl un nw td htl hun) X hE hW cw_Top_69 ki_RuleText_read ks_RuleText_read (va_recv X.2.1 hW.1 (q0 := 23) rfl rfl) ⟨rfl, rfl⟩ ⟨by decide, by decide⟩ ⟨Nat.zero_le _, Nat.zero_le _⟩ [false, false, false, false, false, false, false, false, false, false, false, false, false, false, false, false, false, false, false, false, false, false, false, true, true, true, true, true] rfl (Nat.le_of_ble_eq_true rfl) rfl rfl hl.1 rfl rfl (Nat.le_of_ble_eq_true rfl) d_Top_rules_8 rfl (fun H locs hW => ?_)
  have hW : Wr G A s.heap (w_All h cI cZ cJ wr se ga tw np tot gr fa re ss sc ne stt sco tim cnt ns sp sq sec rt it ans tl un (nwC (rdG un tl 101 0 0 (cpyN 5 nw td)) nw) ((rdG un tl 101 0 0 (cpyN 5 nw td)).2)) H locs := hW
  refine lv_istore_n (lv' := [(1, .int (rdR (rdG un tl 101 0 0 (cpyN 5 nw td)).1)), (0, .ref (h 0))]) hx hb d_Top_rules_11 rfl hl (by decide) rfl (fun ls hl => ?_)
  refine lv_aload_n hx hb d_Top_rules_12 rfl (lv_at hl 1 rfl) ?_
  refine R_get X hW i_Top rfl 3 (by decide) kf_Top_33 0 rfl rfl d_Top_rules_13 ?_
  refine R_callV (q0 := 23) (c_RuleText_clear l G cI cZ cJ h tl un) X rfl hW cw_Top_73 ki_RuleText_clear ks_RuleText_clear rfl rfl ⟨rfl, rfl⟩ ⟨by decide, by decide⟩ ⟨Nat.zero_le _, Nat.zero_le _⟩ [false, false, false, false, false, false, false, false, false, false, false, false, false, false, false, false, false, false, false, false, false, false, false, true, true, false, false, false] rfl (Nat.le_of_ble_eq_true rfl) rfl rfl hl.1 rfl rfl (Nat.le_of_ble_eq_true rfl) d_Top_rules_16 rfl (fun H locs hW => ?_)
  have hW : Wr G A s.heap (w_All h cI cZ cJ wr se ga tw np tot gr fa re ss sc ne stt sco tim cnt ns sp sq sec rt it ans 0 un (nwC (rdG un tl 101 0 0 (cpyN 5 nw td)) nw) ((rdG un tl 101 0 0 (cpyN 5 nw td)).2)) H locs := hW
  refine lv_iload_n hx hb d_Top_rules_19 rfl (lv_at hl 0 rfl) ?_
  exact R_iret X Y hW rfl rfl d_Top_rules_20
