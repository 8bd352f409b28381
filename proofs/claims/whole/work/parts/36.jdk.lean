theorem kf_JStr_38 : Cond.fieldLink "java/lang/String" 38 "java/lang/String" "COMPACT_STRINGS" "Z" ∈ TBL := TBL_t (List.mem_append_left _ (List.mem_of_getElem? (i := 230) rfl)) rfl
theorem kf_JStr_15 : Cond.fieldLink "java/lang/String" 15 "java/lang/String" "coder" "B" ∈ TBL := TBL_t (List.mem_append_right _ (List.mem_append_right _ (List.mem_of_getElem? (i := 229) rfl))) rfl
set_option maxHeartbeats 4000000 in
set_option maxRecDepth 100000 in
theorem j_JStr_coder (l : Launch) (G : va_G) (cI cZ cJ : ClassId) (aK aV : Nat)    : CtX l aK aV G (tyL cI cZ cJ) y_JStr_coder b_JStr_coder 1 (some .byte) (rmL 0) [.ref aK] (w_NilJ) (some (.int (nI 0))) (w_NilJ) := by
  refine M_startX (by decide) (Nat.le_of_ble_eq_true rfl) ?_
  intro p e s m args below meth c A Q ls X Y hW hl hE
  have hx := X.1.1
  have hb := X.1.2.1
  have hl : lv_has ls 1 [(0, .ref aK)] := hl
  refine va_gets hx hb hE.2.2 hW.2.2 X.1.2.2.2.1 (X.1.2.2.2.2 _ kf_JStr_38) (fun _ h => h) d_JStr_coder_0 ?_
  refine W.eq (g2 := F0 m 3 ls (.int (nI 1) :: [])) rfl ?_
  refine N_if_eq_N hx hb (by omega) (tgt := 13) d_JStr_coder_3 (by decide) (fun c3 => ?_) (fun c3 => ?_)
  · exfalso; omega
  · refine lv_aload_n hx hb d_JStr_coder_6 rfl (lv_at hl 0 rfl) ?_
    refine vk_getf hx hb (hE.2.1.1 0 (by decide)).2.1 hW.2.2 X.1.2.2.2.1 (X.1.2.2.2.2 _ kf_JStr_15) (fun _ h => h) d_JStr_coder_7 ?_
    refine W.eq (g2 := F0 m 10 ls (.int (nI 0) :: [])) rfl ?_
    refine lv_goto (tgt := 14) hx hb d_JStr_coder_10 (by decide) ?_
    exact R_bret X Y hW rfl (by decide +kernel) rfl d_JStr_coder_14

set_option maxHeartbeats 4000000 in
set_option maxRecDepth 100000 in
theorem j_JStr_isLatin1 (l : Launch) (G : va_G) (cI cZ cJ : ClassId) (aK aV : Nat)    : CtX l aK aV G (tyL cI cZ cJ) y_JStr_isLatin1 b_JStr_isLatin1 1 (some .boolean) (rmL 0) [.ref aK] (w_NilJ) (some (.int (bI true))) (w_NilJ) := by
  refine M_startX (by decide) (Nat.le_of_ble_eq_true rfl) ?_
  intro p e s m args below meth c A Q ls X Y hW hl hE
  have hx := X.1.1
  have hb := X.1.2.1
  have hl : lv_has ls 1 [(0, .ref aK)] := hl
  refine va_gets hx hb hE.2.2 hW.2.2 X.1.2.2.2.1 (X.1.2.2.2.2 _ kf_JStr_38) (fun _ h => h) d_JStr_isLatin1_0 ?_
  refine W.eq (g2 := F0 m 3 ls (.int (nI 1) :: [])) rfl ?_
  refine N_if_eq_N hx hb (by omega) (tgt := 17) d_JStr_isLatin1_3 (by decide) (fun c3 => ?_) (fun c3 => ?_)
  · exfalso; omega
  · refine lv_aload_n hx hb d_JStr_isLatin1_6 rfl (lv_at hl 0 rfl) ?_
    refine vk_getf hx hb (hE.2.1.1 0 (by decide)).2.1 hW.2.2 X.1.2.2.2.1 (X.1.2.2.2.2 _ kf_JStr_15) (fun _ h => h) d_JStr_isLatin1_7 ?_
    refine W.eq (g2 := F0 m 10 ls (.int (nI 0) :: [])) rfl ?_
    refine N_if_ne_N hx hb (by omega) (tgt := 17) d_JStr_isLatin1_10 (by decide) (fun c10 => ?_) (fun c10 => ?_)
    · exfalso; omega
    · refine lv_iconst (v := (nI 1)) hx hb d_JStr_isLatin1_13 (by decide +kernel) ?_
      refine lv_goto (tgt := 18) hx hb d_JStr_isLatin1_14 (by decide) ?_
      exact R_zret X Y hW rfl true (by decide +kernel) rfl d_JStr_isLatin1_18

set_option maxHeartbeats 4000000 in
set_option maxRecDepth 100000 in
theorem j_JLat_canEncode (l : Launch) (G : va_G) (cI cZ cJ : ClassId) (aK aV : Nat)  (u : Nat) (hu : u ≤ 255) : CtX l aK aV G (tyL cI cZ cJ) y_JLat_canEncode b_JLat_canEncode 1 (some .boolean) (rmL 0) [.int (nI u)] (w_NilJ) (some (.int (bI true))) (w_NilJ) := by
  refine M_startX (by decide) (Nat.le_of_ble_eq_true rfl) ?_
  intro p e s m args below meth c A Q ls X Y hW hl hE
  have hx := X.1.1
  have hb := X.1.2.1
  have hl : lv_has ls 1 [(0, .int (nI u))] := hl
  refine lv_iload_n hx hb d_JLat_canEncode_0 rfl (lv_at hl 0 rfl) ?_
  refine N_if_lt_N hx hb (by omega) (tgt := 15) d_JLat_canEncode_1 (by decide) (fun c1 => ?_) (fun c1 => ?_)
  · exfalso; omega
  · refine lv_iload_n hx hb d_JLat_canEncode_4 rfl (lv_at hl 0 rfl) ?_
    refine lv_sipush (v := (nI 255)) hx hb d_JLat_canEncode_5 (by decide +kernel) ?_
    refine N_icmp_gt_NN hx hb (by omega) (by decide) (tgt := 15) d_JLat_canEncode_8 (by decide) (fun c8 => ?_) (fun c8 => ?_)
    · exfalso; omega
    · refine lv_iconst (v := (nI 1)) hx hb d_JLat_canEncode_11 (by decide +kernel) ?_
      refine lv_goto (tgt := 16) hx hb d_JLat_canEncode_12 (by decide) ?_
      exact R_zret X Y hW rfl true (by decide +kernel) rfl d_JLat_canEncode_16

set_option maxHeartbeats 4000000 in
set_option maxRecDepth 100000 in
theorem j_JLat_indexOfChar (l : Launch) (G : va_G) (cI cZ cJ : ClassId) (aK aV : Nat)  (u : Nat) (x : Nat) (y : Nat) (hu : u ≤ 255) (hx0 : x = 0) (hy0 : y = 5) : CtX l aK aV G (tyL cI cZ cJ) y_JLat_indexOfChar b_JLat_indexOfChar 6 (some .int) (rmL 0) [.ref aV, .int (nI u), .int (nI x), .int (nI y)] (w_NilJ) (some (.int (oI (letF u)))) (w_NilJ) := by
  refine M_startX (by decide) (Nat.le_of_ble_eq_true rfl) ?_
  intro p e s m args below meth c A Q ls X Y hW hl hE
  have hx := X.1.1
  have hb := X.1.2.1
  have hl : lv_has ls 6 [(0, .ref aV), (1, .int (nI u)), (2, .int (nI x)), (3, .int (nI y))] := hl
  rcases (show u = 80 ∨ u = 70 ∨ u = 87 ∨ u = 68 ∨ u = 84 ∨ (u ≠ 80 ∧ u ≠ 70 ∧ u ≠ 87 ∧ u ≠ 68 ∧ u ≠ 84) by omega) with h9 | h9 | h9 | h9 | h9 | h9
  · subst h9
    subst hx0
    subst hy0
    refine lv_iload_n hx hb d_JLat_indexOfChar_0 rfl (lv_at hl 1 rfl) ?_
    refine lv_i2b (v := (nI 80)) hx hb d_JLat_indexOfChar_1 (by decide +kernel) ?_
    refine lv_istore (lv' := [(4, .int (nI 80)), (0, .ref aV), (1, .int (nI 80)), (2, .int (nI 0)), (3, .int (nI 5))]) hx hb d_JLat_indexOfChar_2 hl (by decide) rfl (fun ls hl => ?_)
    refine lv_iload_n hx hb d_JLat_indexOfChar_4 rfl (lv_at hl 3 rfl) ?_
    refine lv_istore (lv' := [(5, .int (nI 0)), (4, .int (nI 80)), (0, .ref aV), (1, .int (nI 80)), (2, .int (nI 0)), (3, .int (nI 5))]) hx hb d_JLat_indexOfChar_5 hl (by decide) rfl (fun ls hl => ?_)
    refine lv_iload hx hb d_JLat_indexOfChar_7 (lv_at hl 0 rfl) ?_
    refine lv_iload_n hx hb d_JLat_indexOfChar_9 rfl (lv_at hl 5 rfl) ?_
    refine N_icmp_ge_NN hx hb (by decide) (by decide) (tgt := 31) d_JLat_indexOfChar_10 (by decide) (fun c10 => ?_) (fun c10 => ?_)
    · exfalso; omega
    · refine lv_aload_n hx hb d_JLat_indexOfChar_13 rfl (lv_at hl 2 rfl) ?_
      refine lv_iload hx hb d_JLat_indexOfChar_14 (lv_at hl 0 rfl) ?_
      refine va_tb (v := .int (nI 80)) hx hb (hE.2.1.1 0 (by decide)).2.2.2 hW.2.2 (vp_in_nI (by decide) (by decide)) (by decide +kernel) d_JLat_indexOfChar_16 ?_
      refine lv_iload hx hb d_JLat_indexOfChar_17 (lv_at hl 1 rfl) ?_
      refine N_icmp_ne_NN hx hb (by decide) (by decide) (tgt := 25) d_JLat_indexOfChar_19 (by decide) (fun c19 => ?_) (fun c19 => ?_)
      · exfalso; omega
      · refine lv_iload hx hb d_JLat_indexOfChar_22 (lv_at hl 0 rfl) ?_
        exact R_iret X Y hW rfl rfl d_JLat_indexOfChar_24
  · subst h9
    subst hx0
    subst hy0
    refine lv_iload_n hx hb d_JLat_indexOfChar_0 rfl (lv_at hl 1 rfl) ?_
    refine lv_i2b (v := (nI 70)) hx hb d_JLat_indexOfChar_1 (by decide +kernel) ?_
    refine lv_istore (lv' := [(4, .int (nI 70)), (0, .ref aV), (1, .int (nI 70)), (2, .int (nI 0)), (3, .int (nI 5))]) hx hb d_JLat_indexOfChar_2 hl (by decide) rfl (fun ls hl => ?_)
    refine lv_iload_n hx hb d_JLat_indexOfChar_4 rfl (lv_at hl 3 rfl) ?_
    refine lv_istore (lv' := [(5, .int (nI 0)), (4, .int (nI 70)), (0, .ref aV), (1, .int (nI 70)), (2, .int (nI 0)), (3, .int (nI 5))]) hx hb d_JLat_indexOfChar_5 hl (by decide) rfl (fun ls hl => ?_)
    refine lv_iload hx hb d_JLat_indexOfChar_7 (lv_at hl 0 rfl) ?_
    refine lv_iload_n hx hb d_JLat_indexOfChar_9 rfl (lv_at hl 5 rfl) ?_
    refine N_icmp_ge_NN hx hb (by decide) (by decide) (tgt := 31) d_JLat_indexOfChar_10 (by decide) (fun c10 => ?_) (fun c10 => ?_)
    · exfalso; omega
    · refine lv_aload_n hx hb d_JLat_indexOfChar_13 rfl (lv_at hl 2 rfl) ?_
      refine lv_iload hx hb d_JLat_indexOfChar_14 (lv_at hl 0 rfl) ?_
      refine va_tb (v := .int (nI 80)) hx hb (hE.2.1.1 0 (by decide)).2.2.2 hW.2.2 (vp_in_nI (by decide) (by decide)) (by decide +kernel) d_JLat_indexOfChar_16 ?_
      refine lv_iload hx hb d_JLat_indexOfChar_17 (lv_at hl 1 rfl) ?_
      refine N_icmp_ne_NN hx hb (by decide) (by decide) (tgt := 25) d_JLat_indexOfChar_19 (by decide) (fun c19 => ?_) (fun c19 => ?_)
      · refine lv_iinc (v := (nI 1)) (lv' := [(5, .int (nI 1)), (4, .int (nI 70)), (0, .ref aV), (1, .int (nI 70)), (2, .int (nI 0)), (3, .int (nI 5))]) hx hb d_JLat_indexOfChar_25 hl (k := 0) rfl (N_inc 0) (by decide) rfl (fun ls hl => ?_)
        refine lv_goto (tgt := 7) hx hb d_JLat_indexOfChar_28 (by decide) ?_
        refine lv_iload hx hb d_JLat_indexOfChar_7 (lv_at hl 0 rfl) ?_
        refine lv_iload_n hx hb d_JLat_indexOfChar_9 rfl (lv_at hl 5 rfl) ?_
        refine N_icmp_ge_NN hx hb (by decide) (by decide) (tgt := 31) d_JLat_indexOfChar_10 (by decide) (fun c10 => ?_) (fun c10 => ?_)
        · exfalso; omega
        · refine lv_aload_n hx hb d_JLat_indexOfChar_13 rfl (lv_at hl 2 rfl) ?_
          refine lv_iload hx hb d_JLat_indexOfChar_14 (lv_at hl 0 rfl) ?_
          refine va_tb (v := .int (nI 70)) hx hb (hE.2.1.1 0 (by decide)).2.2.2 hW.2.2 (vp_in_nI (by decide) (by decide)) (by decide +kernel) d_JLat_indexOfChar_16 ?_
          refine lv_iload hx hb d_JLat_indexOfChar_17 (lv_at hl 1 rfl) ?_
          refine N_icmp_ne_NN hx hb (by decide) (by decide) (tgt := 25) d_JLat_indexOfChar_19 (by decide) (fun c19 => ?_) (fun c19 => ?_)
          · exfalso; omega
          · refine lv_iload hx hb d_JLat_indexOfChar_22 (lv_at hl 0 rfl) ?_
            exact R_iret X Y hW rfl rfl d_JLat_indexOfChar_24
      · exfalso; omega
  · subst h9
    subst hx0
    subst hy0
    refine lv_iload_n hx hb d_JLat_indexOfChar_0 rfl (lv_at hl 1 rfl) ?_
    refine lv_i2b (v := (nI 87)) hx hb d_JLat_indexOfChar_1 (by decide +kernel) ?_
    refine lv_istore (lv' := [(4, .int (nI 87)), (0, .ref aV), (1, .int (nI 87)), (2, .int (nI 0)), (3, .int (nI 5))]) hx hb d_JLat_indexOfChar_2 hl (by decide) rfl (fun ls hl => ?_)
    refine lv_iload_n hx hb d_JLat_indexOfChar_4 rfl (lv_at hl 3 rfl) ?_
    refine lv_istore (lv' := [(5, .int (nI 0)), (4, .int (nI 87)), (0, .ref aV), (1, .int (nI 87)), (2, .int (nI 0)), (3, .int (nI 5))]) hx hb d_JLat_indexOfChar_5 hl (by decide) rfl (fun ls hl => ?_)
    refine lv_iload hx hb d_JLat_indexOfChar_7 (lv_at hl 0 rfl) ?_
    refine lv_iload_n hx hb d_JLat_indexOfChar_9 rfl (lv_at hl 5 rfl) ?_
    refine N_icmp_ge_NN hx hb (by decide) (by decide) (tgt := 31) d_JLat_indexOfChar_10 (by decide) (fun c10 => ?_) (fun c10 => ?_)
    · exfalso; omega
    · refine lv_aload_n hx hb d_JLat_indexOfChar_13 rfl (lv_at hl 2 rfl) ?_
      refine lv_iload hx hb d_JLat_indexOfChar_14 (lv_at hl 0 rfl) ?_
      refine va_tb (v := .int (nI 80)) hx hb (hE.2.1.1 0 (by decide)).2.2.2 hW.2.2 (vp_in_nI (by decide) (by decide)) (by decide +kernel) d_JLat_indexOfChar_16 ?_
      refine lv_iload hx hb d_JLat_indexOfChar_17 (lv_at hl 1 rfl) ?_
      refine N_icmp_ne_NN hx hb (by decide) (by decide) (tgt := 25) d_JLat_indexOfChar_19 (by decide) (fun c19 => ?_) (fun c19 => ?_)
      · refine lv_iinc (v := (nI 1)) (lv' := [(5, .int (nI 1)), (4, .int (nI 87)), (0, .ref aV), (1, .int (nI 87)), (2, .int (nI 0)), (3, .int (nI 5))]) hx hb d_JLat_indexOfChar_25 hl (k := 0) rfl (N_inc 0) (by decide) rfl (fun ls hl => ?_)
        refine lv_goto (tgt := 7) hx hb d_JLat_indexOfChar_28 (by decide) ?_
        refine lv_iload hx hb d_JLat_indexOfChar_7 (lv_at hl 0 rfl) ?_
        refine lv_iload_n hx hb d_JLat_indexOfChar_9 rfl (lv_at hl 5 rfl) ?_
        refine N_icmp_ge_NN hx hb (by decide) (by decide) (tgt := 31) d_JLat_indexOfChar_10 (by decide) (fun c10 => ?_) (fun c10 => ?_)
        · exfalso; omega
        · refine lv_aload_n hx hb d_JLat_indexOfChar_13 rfl (lv_at hl 2 rfl) ?_
          refine lv_iload hx hb d_JLat_indexOfChar_14 (lv_at hl 0 rfl) ?_
          refine va_tb (v := .int (nI 70)) hx hb (hE.2.1.1 0 (by decide)).2.2.2 hW.2.2 (vp_in_nI (by decide) (by decide)) (by decide +kernel) d_JLat_indexOfChar_16 ?_
          refine lv_iload hx hb d_JLat_indexOfChar_17 (lv_at hl 1 rfl) ?_
          refine N_icmp_ne_NN hx hb (by decide) (by decide) (tgt := 25) d_JLat_indexOfChar_19 (by decide) (fun c19 => ?_) (fun c19 => ?_)
          · refine lv_iinc (v := (nI 2)) (lv' := [(5, .int (nI 2)), (4, .int (nI 87)), (0, .ref aV), (1, .int (nI 87)), (2, .int (nI 0)), (3, .int (nI 5))]) hx hb d_JLat_indexOfChar_25 hl (k := 0) rfl (N_inc 1) (by decide) rfl (fun ls hl => ?_)
            refine lv_goto (tgt := 7) hx hb d_JLat_indexOfChar_28 (by decide) ?_
            refine lv_iload hx hb d_JLat_indexOfChar_7 (lv_at hl 0 rfl) ?_
            refine lv_iload_n hx hb d_JLat_indexOfChar_9 rfl (lv_at hl 5 rfl) ?_
            refine N_icmp_ge_NN hx hb (by decide) (by decide) (tgt := 31) d_JLat_indexOfChar_10 (by decide) (fun c10 => ?_) (fun c10 => ?_)
            · exfalso; omega
            · refine lv_aload_n hx hb d_JLat_indexOfChar_13 rfl (lv_at hl 2 rfl) ?_
              refine lv_iload hx hb d_JLat_indexOfChar_14 (lv_at hl 0 rfl) ?_
              refine va_tb (v := .int (nI 87)) hx hb (hE.2.1.1 0 (by decide)).2.2.2 hW.2.2 (vp_in_nI (by decide) (by decide)) (by decide +kernel) d_JLat_indexOfChar_16 ?_
              refine lv_iload hx hb d_JLat_indexOfChar_17 (lv_at hl 1 rfl) ?_
              refine N_icmp_ne_NN hx hb (by decide) (by decide) (tgt := 25) d_JLat_indexOfChar_19 (by decide) (fun c19 => ?_) (fun c19 => ?_)
              · exfalso; omega
              · refine lv_iload hx hb d_JLat_indexOfChar_22 (lv_at hl 0 rfl) ?_
                exact R_iret X Y hW rfl rfl d_JLat_indexOfChar_24
          · exfalso; omega
      · exfalso; omega
  · subst h9
    subst hx0
    subst hy0
    refine lv_iload_n hx hb d_JLat_indexOfChar_0 rfl (lv_at hl 1 rfl) ?_
    refine lv_i2b (v := (nI 68)) hx hb d_JLat_indexOfChar_1 (by decide +kernel) ?_
    refine lv_istore (lv' := [(4, .int (nI 68)), (0, .ref aV), (1, .int (nI 68)), (2, .int (nI 0)), (3, .int (nI 5))]) hx hb d_JLat_indexOfChar_2 hl (by decide) rfl (fun ls hl => ?_)
    refine lv_iload_n hx hb d_JLat_indexOfChar_4 rfl (lv_at hl 3 rfl) ?_
    refine lv_istore (lv' := [(5, .int (nI 0)), (4, .int (nI 68)), (0, .ref aV), (1, .int (nI 68)), (2, .int (nI 0)), (3, .int (nI 5))]) hx hb d_JLat_indexOfChar_5 hl (by decide) rfl (fun ls hl => ?_)
    refine lv_iload hx hb d_JLat_indexOfChar_7 (lv_at hl 0 rfl) ?_
    refine lv_iload_n hx hb d_JLat_indexOfChar_9 rfl (lv_at hl 5 rfl) ?_
    refine N_icmp_ge_NN hx hb (by decide) (by decide) (tgt := 31) d_JLat_indexOfChar_10 (by decide) (fun c10 => ?_) (fun c10 => ?_)
    · exfalso; omega
    · refine lv_aload_n hx hb d_JLat_indexOfChar_13 rfl (lv_at hl 2 rfl) ?_
      refine lv_iload hx hb d_JLat_indexOfChar_14 (lv_at hl 0 rfl) ?_
      refine va_tb (v := .int (nI 80)) hx hb (hE.2.1.1 0 (by decide)).2.2.2 hW.2.2 (vp_in_nI (by decide) (by decide)) (by decide +kernel) d_JLat_indexOfChar_16 ?_
      refine lv_iload hx hb d_JLat_indexOfChar_17 (lv_at hl 1 rfl) ?_
      refine N_icmp_ne_NN hx hb (by decide) (by decide) (tgt := 25) d_JLat_indexOfChar_19 (by decide) (fun c19 => ?_) (fun c19 => ?_)
      · refine lv_iinc (v := (nI 1)) (lv' := [(5, .int (nI 1)), (4, .int (nI 68)), (0, .ref aV), (1, .int (nI 68)), (2, .int (nI 0)), (3, .int (nI 5))]) hx hb d_JLat_indexOfChar_25 hl (k := 0) rfl (N_inc 0) (by decide) rfl (fun ls hl => ?_)
        refine lv_goto (tgt := 7) hx hb d_JLat_indexOfChar_28 (by decide) ?_
        refine lv_iload hx hb d_JLat_indexOfChar_7 (lv_at hl 0 rfl) ?_
        refine lv_iload_n hx hb d_JLat_indexOfChar_9 rfl (lv_at hl 5 rfl) ?_
        refine N_icmp_ge_NN hx hb (by decide) (by decide) (tgt := 31) d_JLat_indexOfChar_10 (by decide) (fun c10 => ?_) (fun c10 => ?_)
        · exfalso; omega
        · refine lv_aload_n hx hb d_JLat_indexOfChar_13 rfl (lv_at hl 2 rfl) ?_
          refine lv_iload hx hb d_JLat_indexOfChar_14 (lv_at hl 0 rfl) ?_
          refine va_tb (v := .int (nI 70)) hx hb (hE.2.1.1 0 (by decide)).2.2.2 hW.2.2 (vp_in_nI (by decide) (by decide)) (by decide +kernel) d_JLat_indexOfChar_16 ?_
          refine lv_iload hx hb d_JLat_indexOfChar_17 (lv_at hl 1 rfl) ?_
          refine N_icmp_ne_NN hx hb (by decide) (by decide) (tgt := 25) d_JLat_indexOfChar_19 (by decide) (fun c19 => ?_) (fun c19 => ?_)
          · refine lv_iinc (v := (nI 2)) (lv' := [(5, .int (nI 2)), (4, .int (nI 68)), (0, .ref aV), (1, .int (nI 68)), (2, .int (nI 0)), (3, .int (nI 5))]) hx hb d_JLat_indexOfChar_25 hl (k := 0) rfl (N_inc 1) (by decide) rfl (fun ls hl => ?_)
            refine lv_goto (tgt := 7) hx hb d_JLat_indexOfChar_28 (by decide) ?_
            refine lv_iload hx hb d_JLat_indexOfChar_7 (lv_at hl 0 rfl) ?_
            refine lv_iload_n hx hb d_JLat_indexOfChar_9 rfl (lv_at hl 5 rfl) ?_
            refine N_icmp_ge_NN hx hb (by decide) (by decide) (tgt := 31) d_JLat_indexOfChar_10 (by decide) (fun c10 => ?_) (fun c10 => ?_)
            · exfalso; omega
            · refine lv_aload_n hx hb d_JLat_indexOfChar_13 rfl (lv_at hl 2 rfl) ?_
              refine lv_iload hx hb d_JLat_indexOfChar_14 (lv_at hl 0 rfl) ?_
              refine va_tb (v := .int (nI 87)) hx hb (hE.2.1.1 0 (by decide)).2.2.2 hW.2.2 (vp_in_nI (by decide) (by decide)) (by decide +kernel) d_JLat_indexOfChar_16 ?_
              refine lv_iload hx hb d_JLat_indexOfChar_17 (lv_at hl 1 rfl) ?_
              refine N_icmp_ne_NN hx hb (by decide) (by decide) (tgt := 25) d_JLat_indexOfChar_19 (by decide) (fun c19 => ?_) (fun c19 => ?_)
              · refine lv_iinc (v := (nI 3)) (lv' := [(5, .int (nI 3)), (4, .int (nI 68)), (0, .ref aV), (1, .int (nI 68)), (2, .int (nI 0)), (3, .int (nI 5))]) hx hb d_JLat_indexOfChar_25 hl (k := 0) rfl (N_inc 2) (by decide) rfl (fun ls hl => ?_)
                refine lv_goto (tgt := 7) hx hb d_JLat_indexOfChar_28 (by decide) ?_
                refine lv_iload hx hb d_JLat_indexOfChar_7 (lv_at hl 0 rfl) ?_
                refine lv_iload_n hx hb d_JLat_indexOfChar_9 rfl (lv_at hl 5 rfl) ?_
                refine N_icmp_ge_NN hx hb (by decide) (by decide) (tgt := 31) d_JLat_indexOfChar_10 (by decide) (fun c10 => ?_) (fun c10 => ?_)
                · exfalso; omega
                · refine lv_aload_n hx hb d_JLat_indexOfChar_13 rfl (lv_at hl 2 rfl) ?_
                  refine lv_iload hx hb d_JLat_indexOfChar_14 (lv_at hl 0 rfl) ?_
                  refine va_tb (v := .int (nI 68)) hx hb (hE.2.1.1 0 (by decide)).2.2.2 hW.2.2 (vp_in_nI (by decide) (by decide)) (by decide +kernel) d_JLat_indexOfChar_16 ?_
                  refine lv_iload hx hb d_JLat_indexOfChar_17 (lv_at hl 1 rfl) ?_
                  refine N_icmp_ne_NN hx hb (by decide) (by decide) (tgt := 25) d_JLat_indexOfChar_19 (by decide) (fun c19 => ?_) (fun c19 => ?_)
                  · exfalso; omega
                  · refine lv_iload hx hb d_JLat_indexOfChar_22 (lv_at hl 0 rfl) ?_
                    exact R_iret X Y hW rfl rfl d_JLat_indexOfChar_24
              · exfalso; omega
          · exfalso; omega
      · exfalso; omega
  · subst h9
    subst hx0
    subst hy0
    refine lv_iload_n hx hb d_JLat_indexOfChar_0 rfl (lv_at hl 1 rfl) ?_
    refine lv_i2b (v := (nI 84)) hx hb d_JLat_indexOfChar_1 (by decide +kernel) ?_
    refine lv_istore (lv' := [(4, .int (nI 84)), (0, .ref aV), (1, .int (nI 84)), (2, .int (nI 0)), (3, .int (nI 5))]) hx hb d_JLat_indexOfChar_2 hl (by decide) rfl (fun ls hl => ?_)
    refine lv_iload_n hx hb d_JLat_indexOfChar_4 rfl (lv_at hl 3 rfl) ?_
    refine lv_istore (lv' := [(5, .int (nI 0)), (4, .int (nI 84)), (0, .ref aV), (1, .int (nI 84)), (2, .int (nI 0)), (3, .int (nI 5))]) hx hb d_JLat_indexOfChar_5 hl (by decide) rfl (fun ls hl => ?_)
    refine lv_iload hx hb d_JLat_indexOfChar_7 (lv_at hl 0 rfl) ?_
    refine lv_iload_n hx hb d_JLat_indexOfChar_9 rfl (lv_at hl 5 rfl) ?_
    refine N_icmp_ge_NN hx hb (by decide) (by decide) (tgt := 31) d_JLat_indexOfChar_10 (by decide) (fun c10 => ?_) (fun c10 => ?_)
    · exfalso; omega
    · refine lv_aload_n hx hb d_JLat_indexOfChar_13 rfl (lv_at hl 2 rfl) ?_
      refine lv_iload hx hb d_JLat_indexOfChar_14 (lv_at hl 0 rfl) ?_
      refine va_tb (v := .int (nI 80)) hx hb (hE.2.1.1 0 (by decide)).2.2.2 hW.2.2 (vp_in_nI (by decide) (by decide)) (by decide +kernel) d_JLat_indexOfChar_16 ?_
      refine lv_iload hx hb d_JLat_indexOfChar_17 (lv_at hl 1 rfl) ?_
      refine N_icmp_ne_NN hx hb (by decide) (by decide) (tgt := 25) d_JLat_indexOfChar_19 (by decide) (fun c19 => ?_) (fun c19 => ?_)
      · refine lv_iinc (v := (nI 1)) (lv' := [(5, .int (nI 1)), (4, .int (nI 84)), (0, .ref aV), (1, .int (nI 84)), (2, .int (nI 0)), (3, .int (nI 5))]) hx hb d_JLat_indexOfChar_25 hl (k := 0) rfl (N_inc 0) (by decide) rfl (fun ls hl => ?_)
        refine lv_goto (tgt := 7) hx hb d_JLat_indexOfChar_28 (by decide) ?_
        refine lv_iload hx hb d_JLat_indexOfChar_7 (lv_at hl 0 rfl) ?_
        refine lv_iload_n hx hb d_JLat_indexOfChar_9 rfl (lv_at hl 5 rfl) ?_
        refine N_icmp_ge_NN hx hb (by decide) (by decide) (tgt := 31) d_JLat_indexOfChar_10 (by decide) (fun c10 => ?_) (fun c10 => ?_)
        · exfalso; omega
        · refine lv_aload_n hx hb d_JLat_indexOfChar_13 rfl (lv_at hl 2 rfl) ?_
          refine lv_iload hx hb d_JLat_indexOfChar_14 (lv_at hl 0 rfl) ?_
          refine va_tb (v := .int (nI 70)) hx hb (hE.2.1.1 0 (by decide)).2.2.2 hW.2.2 (vp_in_nI (by decide) (by decide)) (by decide +kernel) d_JLat_indexOfChar_16 ?_
          refine lv_iload hx hb d_JLat_indexOfChar_17 (lv_at hl 1 rfl) ?_
          refine N_icmp_ne_NN hx hb (by decide) (by decide) (tgt := 25) d_JLat_indexOfChar_19 (by decide) (fun c19 => ?_) (fun c19 => ?_)
          · refine lv_iinc (v := (nI 2)) (lv' := [(5, .int (nI 2)), (4, .int (nI 84)), (0, .ref aV), (1, .int (nI 84)), (2, .int (nI 0)), (3, .int (nI 5))]) hx hb d_JLat_indexOfChar_25 hl (k := 0) rfl (N_inc 1) (by decide) rfl (fun ls hl => ?_)
            refine lv_goto (tgt := 7) hx hb d_JLat_indexOfChar_28 (by decide) ?_
            refine lv_iload hx hb d_JLat_indexOfChar_7 (lv_at hl 0 rfl) ?_
            refine lv_iload_n hx hb d_JLat_indexOfChar_9 rfl (lv_at hl 5 rfl) ?_
            refine N_icmp_ge_NN hx hb (by decide) (by decide) (tgt := 31) d_JLat_indexOfChar_10 (by decide) (fun c10 => ?_) (fun c10 => ?_)
            · exfalso; omega
            · refine lv_aload_n hx hb d_JLat_indexOfChar_13 rfl (lv_at hl 2 rfl) ?_
              refine lv_iload hx hb d_JLat_indexOfChar_14 (lv_at hl 0 rfl) ?_
              refine va_tb (v := .int (nI 87)) hx hb (hE.2.1.1 0 (by decide)).2.2.2 hW.2.2 (vp_in_nI (by decide) (by decide)) (by decide +kernel) d_JLat_indexOfChar_16 ?_
              refine lv_iload hx hb d_JLat_indexOfChar_17 (lv_at hl 1 rfl) ?_
              refine N_icmp_ne_NN hx hb (by decide) (by decide) (tgt := 25) d_JLat_indexOfChar_19 (by decide) (fun c19 => ?_) (fun c19 => ?_)
              · refine lv_iinc (v := (nI 3)) (lv' := [(5, .int (nI 3)), (4, .int (nI 84)), (0, .ref aV), (1, .int (nI 84)), (2, .int (nI 0)), (3, .int (nI 5))]) hx hb d_JLat_indexOfChar_25 hl (k := 0) rfl (N_inc 2) (by decide) rfl (fun ls hl => ?_)
                refine lv_goto (tgt := 7) hx hb d_JLat_indexOfChar_28 (by decide) ?_
                refine lv_iload hx hb d_JLat_indexOfChar_7 (lv_at hl 0 rfl) ?_
                refine lv_iload_n hx hb d_JLat_indexOfChar_9 rfl (lv_at hl 5 rfl) ?_
                refine N_icmp_ge_NN hx hb (by decide) (by decide) (tgt := 31) d_JLat_indexOfChar_10 (by decide) (fun c10 => ?_) (fun c10 => ?_)
                · exfalso; omega
                · refine lv_aload_n hx hb d_JLat_indexOfChar_13 rfl (lv_at hl 2 rfl) ?_
                  refine lv_iload hx hb d_JLat_indexOfChar_14 (lv_at hl 0 rfl) ?_
                  refine va_tb (v := .int (nI 68)) hx hb (hE.2.1.1 0 (by decide)).2.2.2 hW.2.2 (vp_in_nI (by decide) (by decide)) (by decide +kernel) d_JLat_indexOfChar_16 ?_
                  refine lv_iload hx hb d_JLat_indexOfChar_17 (lv_at hl 1 rfl) ?_
                  refine N_icmp_ne_NN hx hb (by decide) (by decide) (tgt := 25) d_JLat_indexOfChar_19 (by decide) (fun c19 => ?_) (fun c19 => ?_)
                  · refine lv_iinc (v := (nI 4)) (lv' := [(5, .int (nI 4)), (4, .int (nI 84)), (0, .ref aV), (1, .int (nI 84)), (2, .int (nI 0)), (3, .int (nI 5))]) hx hb d_JLat_indexOfChar_25 hl (k := 0) rfl (N_inc 3) (by decide) rfl (fun ls hl => ?_)
                    refine lv_goto (tgt := 7) hx hb d_JLat_indexOfChar_28 (by decide) ?_
                    refine lv_iload hx hb d_JLat_indexOfChar_7 (lv_at hl 0 rfl) ?_
                    refine lv_iload_n hx hb d_JLat_indexOfChar_9 rfl (lv_at hl 5 rfl) ?_
                    refine N_icmp_ge_NN hx hb (by decide) (by decide) (tgt := 31) d_JLat_indexOfChar_10 (by decide) (fun c10 => ?_) (fun c10 => ?_)
                    · exfalso; omega
                    · refine lv_aload_n hx hb d_JLat_indexOfChar_13 rfl (lv_at hl 2 rfl) ?_
                      refine lv_iload hx hb d_JLat_indexOfChar_14 (lv_at hl 0 rfl) ?_
                      refine va_tb (v := .int (nI 84)) hx hb (hE.2.1.1 0 (by decide)).2.2.2 hW.2.2 (vp_in_nI (by decide) (by decide)) (by decide +kernel) d_JLat_indexOfChar_16 ?_
                      refine lv_iload hx hb d_JLat_indexOfChar_17 (lv_at hl 1 rfl) ?_
                      refine N_icmp_ne_NN hx hb (by decide) (by decide) (tgt := 25) d_JLat_indexOfChar_19 (by decide) (fun c19 => ?_) (fun c19 => ?_)
                      · exfalso; omega
                      · refine lv_iload hx hb d_JLat_indexOfChar_22 (lv_at hl 0 rfl) ?_
                        exact R_iret X Y hW rfl rfl d_JLat_indexOfChar_24
                  · exfalso; omega
              · exfalso; omega
          · exfalso; omega
      · exfalso; omega
  · subst hx0
    subst hy0
    refine lv_iload_n hx hb d_JLat_indexOfChar_0 rfl (lv_at hl 1 rfl) ?_
    refine lv_i2b hx hb d_JLat_indexOfChar_1 rfl ?_
    refine lv_istore (lv' := [(4, .int ((nI u).toInt8.toInt32)), (0, .ref aV), (1, .int (nI u)), (2, .int (nI 0)), (3, .int (nI 5))]) hx hb d_JLat_indexOfChar_2 hl (by decide) rfl (fun ls hl => ?_)
    refine lv_iload_n hx hb d_JLat_indexOfChar_4 rfl (lv_at hl 3 rfl) ?_
    refine lv_istore (lv' := [(5, .int (nI 0)), (4, .int ((nI u).toInt8.toInt32)), (0, .ref aV), (1, .int (nI u)), (2, .int (nI 0)), (3, .int (nI 5))]) hx hb d_JLat_indexOfChar_5 hl (by decide) rfl (fun ls hl => ?_)
    refine lv_iload hx hb d_JLat_indexOfChar_7 (lv_at hl 0 rfl) ?_
    refine lv_iload_n hx hb d_JLat_indexOfChar_9 rfl (lv_at hl 5 rfl) ?_
    refine N_icmp_ge_NN hx hb (by decide) (by decide) (tgt := 31) d_JLat_indexOfChar_10 (by decide) (fun c10 => ?_) (fun c10 => ?_)
    · exfalso; omega
    · refine lv_aload_n hx hb d_JLat_indexOfChar_13 rfl (lv_at hl 2 rfl) ?_
      refine lv_iload hx hb d_JLat_indexOfChar_14 (lv_at hl 0 rfl) ?_
      refine va_tb (v := .int (nI 80)) hx hb (hE.2.1.1 0 (by decide)).2.2.2 hW.2.2 (vp_in_nI (by decide) (by decide)) (by decide +kernel) d_JLat_indexOfChar_16 ?_
      refine lv_iload hx hb d_JLat_indexOfChar_17 (lv_at hl 1 rfl) ?_
      refine N_icmp_ne_NR hx hb (by decide) (tgt := 25) d_JLat_indexOfChar_19 (by decide) (fun c19 => ?_) (fun c19 => ?_)
      · refine lv_iinc (v := (nI 1)) (lv' := [(5, .int (nI 1)), (4, .int ((nI u).toInt8.toInt32)), (0, .ref aV), (1, .int (nI u)), (2, .int (nI 0)), (3, .int (nI 5))]) hx hb d_JLat_indexOfChar_25 hl (k := 0) rfl (N_inc 0) (by decide) rfl (fun ls hl => ?_)
        refine lv_goto (tgt := 7) hx hb d_JLat_indexOfChar_28 (by decide) ?_
        refine lv_iload hx hb d_JLat_indexOfChar_7 (lv_at hl 0 rfl) ?_
        refine lv_iload_n hx hb d_JLat_indexOfChar_9 rfl (lv_at hl 5 rfl) ?_
        refine N_icmp_ge_NN hx hb (by decide) (by decide) (tgt := 31) d_JLat_indexOfChar_10 (by decide) (fun c10 => ?_) (fun c10 => ?_)
        · exfalso; omega
        · refine lv_aload_n hx hb d_JLat_indexOfChar_13 rfl (lv_at hl 2 rfl) ?_
          refine lv_iload hx hb d_JLat_indexOfChar_14 (lv_at hl 0 rfl) ?_
          refine va_tb (v := .int (nI 70)) hx hb (hE.2.1.1 0 (by decide)).2.2.2 hW.2.2 (vp_in_nI (by decide) (by decide)) (by decide +kernel) d_JLat_indexOfChar_16 ?_
          refine lv_iload hx hb d_JLat_indexOfChar_17 (lv_at hl 1 rfl) ?_
          refine N_icmp_ne_NR hx hb (by decide) (tgt := 25) d_JLat_indexOfChar_19 (by decide) (fun c19 => ?_) (fun c19 => ?_)
          · refine lv_iinc (v := (nI 2)) (lv' := [(5, .int (nI 2)), (4, .int ((nI u).toInt8.toInt32)), (0, .ref aV), (1, .int (nI u)), (2, .int (nI 0)), (3, .int (nI 5))]) hx hb d_JLat_indexOfChar_25 hl (k := 0) rfl (N_inc 1) (by decide) rfl (fun ls hl => ?_)
            refine lv_goto (tgt := 7) hx hb d_JLat_indexOfChar_28 (by decide) ?_
            refine lv_iload hx hb d_JLat_indexOfChar_7 (lv_at hl 0 rfl) ?_
            refine lv_iload_n hx hb d_JLat_indexOfChar_9 rfl (lv_at hl 5 rfl) ?_
            refine N_icmp_ge_NN hx hb (by decide) (by decide) (tgt := 31) d_JLat_indexOfChar_10 (by decide) (fun c10 => ?_) (fun c10 => ?_)
            · exfalso; omega
            · refine lv_aload_n hx hb d_JLat_indexOfChar_13 rfl (lv_at hl 2 rfl) ?_
              refine lv_iload hx hb d_JLat_indexOfChar_14 (lv_at hl 0 rfl) ?_
              refine va_tb (v := .int (nI 87)) hx hb (hE.2.1.1 0 (by decide)).2.2.2 hW.2.2 (vp_in_nI (by decide) (by decide)) (by decide +kernel) d_JLat_indexOfChar_16 ?_
              refine lv_iload hx hb d_JLat_indexOfChar_17 (lv_at hl 1 rfl) ?_
              refine N_icmp_ne_NR hx hb (by decide) (tgt := 25) d_JLat_indexOfChar_19 (by decide) (fun c19 => ?_) (fun c19 => ?_)
              · refine lv_iinc (v := (nI 3)) (lv' := [(5, .int (nI 3)), (4, .int ((nI u).toInt8.toInt32)), (0, .ref aV), (1, .int (nI u)), (2, .int (nI 0)), (3, .int (nI 5))]) hx hb d_JLat_indexOfChar_25 hl (k := 0) rfl (N_inc 2) (by decide) rfl (fun ls hl => ?_)
                refine lv_goto (tgt := 7) hx hb d_JLat_indexOfChar_28 (by decide) ?_
                refine lv_iload hx hb d_JLat_indexOfChar_7 (lv_at hl 0 rfl) ?_
                refine lv_iload_n hx hb d_JLat_indexOfChar_9 rfl (lv_at hl 5 rfl) ?_
                refine N_icmp_ge_NN hx hb (by decide) (by decide) (tgt := 31) d_JLat_indexOfChar_10 (by decide) (fun c10 => ?_) (fun c10 => ?_)
                · exfalso; omega
                · refine lv_aload_n hx hb d_JLat_indexOfChar_13 rfl (lv_at hl 2 rfl) ?_
                  refine lv_iload hx hb d_JLat_indexOfChar_14 (lv_at hl 0 rfl) ?_
                  refine va_tb (v := .int (nI 68)) hx hb (hE.2.1.1 0 (by decide)).2.2.2 hW.2.2 (vp_in_nI (by decide) (by decide)) (by decide +kernel) d_JLat_indexOfChar_16 ?_
                  refine lv_iload hx hb d_JLat_indexOfChar_17 (lv_at hl 1 rfl) ?_
                  refine N_icmp_ne_NR hx hb (by decide) (tgt := 25) d_JLat_indexOfChar_19 (by decide) (fun c19 => ?_) (fun c19 => ?_)
                  · refine lv_iinc (v := (nI 4)) (lv' := [(5, .int (nI 4)), (4, .int ((nI u).toInt8.toInt32)), (0, .ref aV), (1, .int (nI u)), (2, .int (nI 0)), (3, .int (nI 5))]) hx hb d_JLat_indexOfChar_25 hl (k := 0) rfl (N_inc 3) (by decide) rfl (fun ls hl => ?_)
                    refine lv_goto (tgt := 7) hx hb d_JLat_indexOfChar_28 (by decide) ?_
                    refine lv_iload hx hb d_JLat_indexOfChar_7 (lv_at hl 0 rfl) ?_
                    refine lv_iload_n hx hb d_JLat_indexOfChar_9 rfl (lv_at hl 5 rfl) ?_
                    refine N_icmp_ge_NN hx hb (by decide) (by decide) (tgt := 31) d_JLat_indexOfChar_10 (by decide) (fun c10 => ?_) (fun c10 => ?_)
                    · exfalso; omega
                    · refine lv_aload_n hx hb d_JLat_indexOfChar_13 rfl (lv_at hl 2 rfl) ?_
                      refine lv_iload hx hb d_JLat_indexOfChar_14 (lv_at hl 0 rfl) ?_
                      refine va_tb (v := .int (nI 84)) hx hb (hE.2.1.1 0 (by decide)).2.2.2 hW.2.2 (vp_in_nI (by decide) (by decide)) (by decide +kernel) d_JLat_indexOfChar_16 ?_
                      refine lv_iload hx hb d_JLat_indexOfChar_17 (lv_at hl 1 rfl) ?_
                      refine N_icmp_ne_NR hx hb (by decide) (tgt := 25) d_JLat_indexOfChar_19 (by decide) (fun c19 => ?_) (fun c19 => ?_)
                      · refine lv_iinc (v := (nI 5)) (lv' := [(5, .int (nI 5)), (4, .int ((nI u).toInt8.toInt32)), (0, .ref aV), (1, .int (nI u)), (2, .int (nI 0)), (3, .int (nI 5))]) hx hb d_JLat_indexOfChar_25 hl (k := 0) rfl (N_inc 4) (by decide) rfl (fun ls hl => ?_)
                        refine lv_goto (tgt := 7) hx hb d_JLat_indexOfChar_28 (by decide) ?_
                        refine lv_iload hx hb d_JLat_indexOfChar_7 (lv_at hl 0 rfl) ?_
                        refine lv_iload_n hx hb d_JLat_indexOfChar_9 rfl (lv_at hl 5 rfl) ?_
                        refine N_icmp_ge_NN hx hb (by decide) (by decide) (tgt := 31) d_JLat_indexOfChar_10 (by decide) (fun c10 => ?_) (fun c10 => ?_)
                        · refine lv_iconst (v := (-1)) hx hb d_JLat_indexOfChar_31 (by decide +kernel) ?_
                          exact R_iret X Y hW rfl (by rw [let_none (by omega)]; rfl) d_JLat_indexOfChar_32
                        · exfalso; omega
                      · exact absurd (by rw [i_T (by decide)]; exact c19) (i2b_ne u (by omega) (by omega) 84 (by decide))
                  · exact absurd (by rw [i_T (by decide)]; exact c19) (i2b_ne u (by omega) (by omega) 68 (by decide))
              · exact absurd (by rw [i_T (by decide)]; exact c19) (i2b_ne u (by omega) (by omega) 87 (by decide))
          · exact absurd (by rw [i_T (by decide)]; exact c19) (i2b_ne u (by omega) (by omega) 70 (by decide))
      · exact absurd (by rw [i_T (by decide)]; exact c19) (i2b_ne u (by omega) (by omega) 80 (by decide))

theorem kf_JStr_9 : Cond.fieldLink "java/lang/String" 9 "java/lang/String" "value" "[B" ∈ TBL := TBL_t (List.mem_append_right _ (List.mem_append_right _ (List.mem_of_getElem? (i := 230) rfl))) rfl
theorem kb_JStr_coder : Cond.code y_JStr_coder b_JStr_coder 1 (some .byte) ∈ TBL := TBL_t (List.mem_append_left _ (List.mem_of_getElem? (i := 239) rfl)) rfl
theorem kn_JStr : Cond.initialized "java/lang/String" ∈ TBL := TBL_t (List.mem_append_left _ (List.mem_of_getElem? (i := 9) rfl)) rfl
theorem km_JStr_335 : Cond.methodLink "java/lang/String" 335 y_JStr_coder ∈ TBL := TBL_t (List.mem_append_left _ (List.mem_of_getElem? (i := 236) rfl)) rfl
theorem cw_JStr_335 : Cw "java/lang/String" 335 y_JStr_coder b_JStr_coder 1 (some .byte) 0 := ⟨kb_JStr_coder, kn_JStr, km_JStr_335, by decide +kernel⟩
theorem ki_JStr_coder : Cond.instanceMethod y_JStr_coder ∈ TBL := TBL_t (List.mem_append_left _ (List.mem_of_getElem? (i := 237) rfl)) rfl
theorem ks_JStr_coder : Cond.selects "java/lang/String" y_JStr_coder y_JStr_coder ∈ TBL := TBL_t (List.mem_append_left _ (List.mem_of_getElem? (i := 238) rfl)) rfl
set_option maxHeartbeats 4000000 in
set_option maxRecDepth 100000 in
theorem j_JStr_length (l : Launch) (G : va_G) (cI cZ cJ : ClassId) (aK aV : Nat)    : CtX l aK aV G (tyL cI cZ cJ) y_JStr_length b_JStr_length 1 (some .int) (rmL 1) [.ref aK] (w_NilJ) (some (.int (nI 5))) (w_NilJ) := by
  refine M_startX (by decide) (Nat.le_of_ble_eq_true rfl) ?_
  intro p e s m args below meth c A Q ls X Y hW hl hE
  have hx := X.1.1
  have hb := X.1.2.1
  have hl : lv_has ls 1 [(0, .ref aK)] := hl
  refine lv_aload_n hx hb d_JStr_length_0 rfl (lv_at hl 0 rfl) ?_
  refine vk_getf hx hb (hE.2.1.1 0 (by decide)).2.2.1 hW.2.2 X.1.2.2.2.1 (X.1.2.2.2.2 _ kf_JStr_9) (fun _ h => h) d_JStr_length_1 ?_
  refine W.eq (g2 := F0 m 4 ls (.ref aV :: [])) rfl ?_
  refine va_tlen (v := nI 5) hx hb (hE.2.1.1 0 (by decide)).2.2.2 hW.2.2 (by decide +kernel) d_JStr_length_4 ?_
  refine lv_aload_n hx hb d_JStr_length_5 rfl (lv_at hl 0 rfl) ?_
  refine R_callVX (j_JStr_coder l G cI cZ cJ aK aV ) X hE hW cw_JStr_335 ki_JStr_coder ks_JStr_coder (vk_recv hE.2.1 (i := 0) (by decide) hW.2.2) ⟨rfl, rfl⟩ ⟨by decide, by decide⟩ ⟨Nat.zero_le _, Nat.zero_le _⟩ [] rfl (Nat.le_of_ble_eq_true rfl) rfl rfl hl.1 rfl rfl (Nat.le_of_ble_eq_true rfl) d_JStr_length_6 rfl (fun H locs hW => ?_)
  have hW : Wr G A s.heap (w_NilJ) H locs := hW
  refine lv_ishr hx hb d_JStr_length_9 ?_
  refine W.eq (g2 := F0 m 10 ls (.int (nI 5) :: [])) (by rw [show (nI 5) >>> ((nI 0) &&& 31) = (nI 5) by decide +kernel] <;> rfl) ?_
  exact R_iret X Y hW rfl rfl d_JStr_length_10

theorem kb_JLat_canEncode : Cond.code y_JLat_canEncode b_JLat_canEncode 1 (some .boolean) ∈ TBL := TBL_t (List.mem_append_right _ (List.mem_append_left _ (List.mem_of_getElem? (i := 5) rfl))) rfl
theorem kn_JLat : Cond.initialized "java/lang/StringLatin1" ∈ TBL := TBL_t (List.mem_append_left _ (List.mem_of_getElem? (i := 10) rfl)) rfl
theorem km_JLat_88 : Cond.methodLink "java/lang/StringLatin1" 88 y_JLat_canEncode ∈ TBL := TBL_t (List.mem_append_right _ (List.mem_append_left _ (List.mem_of_getElem? (i := 3) rfl))) rfl
theorem cw_JLat_88 : Cw "java/lang/StringLatin1" 88 y_JLat_canEncode b_JLat_canEncode 1 (some .boolean) 1 := ⟨kb_JLat_canEncode, kn_JLat, km_JLat_88, by decide +kernel⟩
theorem kt_JLat_canEncode : Cond.static y_JLat_canEncode ∈ TBL := TBL_t (List.mem_append_right _ (List.mem_append_left _ (List.mem_of_getElem? (i := 4) rfl))) rfl
theorem km_JLat_92 : Cond.methodLink "java/lang/StringLatin1" 92 Lib.Math.max.name ∈ TBL := TBL_t (List.mem_append_right _ (List.mem_append_left _ (List.mem_of_getElem? (i := 6) rfl))) rfl
theorem kt_max : Cond.static Lib.Math.max.name ∈ TBL := TBL_t (List.mem_append_right _ (List.mem_append_left _ (List.mem_of_getElem? (i := 7) rfl))) rfl
theorem kb_max : Cond.code Lib.Math.max.name Lib.Math.max.code 2 (some .int) ∈ TBL := TBL_t (List.mem_append_right _ (List.mem_append_left _ (List.mem_of_getElem? (i := 8) rfl))) rfl
theorem km_JLat_38 : Cond.methodLink "java/lang/StringLatin1" 38 Lib.Math.min.name ∈ TBL := TBL_t (List.mem_append_right _ (List.mem_append_left _ (List.mem_of_getElem? (i := 9) rfl))) rfl
theorem kt_min : Cond.static Lib.Math.min.name ∈ TBL := TBL_t (List.mem_append_right _ (List.mem_append_left _ (List.mem_of_getElem? (i := 10) rfl))) rfl
theorem kb_min : Cond.code Lib.Math.min.name Lib.Math.min.code 2 (some .int) ∈ TBL := TBL_t (List.mem_append_right _ (List.mem_append_left _ (List.mem_of_getElem? (i := 11) rfl))) rfl
theorem kb_JLat_indexOfChar : Cond.code y_JLat_indexOfChar b_JLat_indexOfChar 6 (some .int) ∈ TBL := TBL_t (List.mem_append_right _ (List.mem_append_left _ (List.mem_of_getElem? (i := 14) rfl))) rfl
theorem km_JLat_95 : Cond.methodLink "java/lang/StringLatin1" 95 y_JLat_indexOfChar ∈ TBL := TBL_t (List.mem_append_right _ (List.mem_append_left _ (List.mem_of_getElem? (i := 12) rfl))) rfl
theorem cw_JLat_95 : Cw "java/lang/StringLatin1" 95 y_JLat_indexOfChar b_JLat_indexOfChar 6 (some .int) 4 := ⟨kb_JLat_indexOfChar, kn_JLat, km_JLat_95, by decide +kernel⟩
theorem kt_JLat_indexOfChar : Cond.static y_JLat_indexOfChar ∈ TBL := TBL_t (List.mem_append_right _ (List.mem_append_left _ (List.mem_of_getElem? (i := 13) rfl))) rfl
set_option maxHeartbeats 4000000 in
set_option maxRecDepth 100000 in
theorem j_JLat_indexOf (l : Launch) (G : va_G) (cI cZ cJ : ClassId) (aK aV : Nat)  (u : Nat) (x : Nat) (y : Nat) (hu : u ≤ 255) (hx0 : x = 0) (hy0 : y = 5) : CtX l aK aV G (tyL cI cZ cJ) y_JLat_indexOf b_JLat_indexOf 4 (some .int) (rmL 1) [.ref aV, .int (nI u), .int (nI x), .int (nI y)] (w_NilJ) (some (.int (oI (letF u)))) (w_NilJ) := by
  refine M_startX (by decide) (Nat.le_of_ble_eq_true rfl) ?_
  intro p e s m args below meth c A Q ls X Y hW hl hE
  have hx := X.1.1
  have hb := X.1.2.1
  have hl : lv_has ls 4 [(0, .ref aV), (1, .int (nI u)), (2, .int (nI x)), (3, .int (nI y))] := hl
  subst hx0
  subst hy0
  refine lv_iload_n hx hb d_JLat_indexOf_0 rfl (lv_at hl 1 rfl) ?_
  refine R_callSX (j_JLat_canEncode l G cI cZ cJ aK aV u hu) X hE hW cw_JLat_88 kt_JLat_canEncode  ⟨rfl, rfl⟩ ⟨by decide, by decide⟩ ⟨Nat.zero_le _, Nat.zero_le _⟩ [] rfl (Nat.le_of_ble_eq_true rfl) rfl rfl hl.1 rfl rfl (Nat.le_of_ble_eq_true rfl) d_JLat_indexOf_1 rfl (fun H locs hW => ?_)
  have hW : Wr G A s.heap (w_NilJ) H locs := hW
  refine N_if_ne_B hx hb  (tgt := 9) d_JLat_indexOf_4 (by decide) (fun c4 => ?_) (fun c4 => ?_)
  · refine lv_iload_n hx hb d_JLat_indexOf_9 rfl (lv_at hl 2 rfl) ?_
    refine lv_iconst (v := (nI 0)) hx hb d_JLat_indexOf_10 (by decide +kernel) ?_
    refine va_mmax hx hb (X.1.2.2.1.trans hl.1.symm) X.1.2.2.2.1 (X.1.2.2.2.2 _ km_JLat_92) (X.1.2.2.2.2 _ kt_max) (X.1.2.2.2.2 _ kn_Math) (X.1.2.2.2.2 _ kb_max) (by decide) (Nat.le_of_ble_eq_true rfl) (Nat.zero_le _) (Nat.zero_le _) d_JLat_indexOf_11 ?_
    refine W.eq (g2 := F0 m 14 ls (.int (nI 0) :: [])) (by rw [show (if (nI 0) < (nI 0) then (nI 0) else (nI 0)) = nI 0 by decide +kernel] <;> rfl) ?_
    refine lv_istore_n (lv' := [(2, .int (nI 0)), (0, .ref aV), (1, .int (nI u)), (3, .int (nI 5))]) hx hb d_JLat_indexOf_14 rfl hl (by decide) rfl (fun ls hl => ?_)
    refine lv_iload_n hx hb d_JLat_indexOf_15 rfl (lv_at hl 3 rfl) ?_
    refine lv_aload_n hx hb d_JLat_indexOf_16 rfl (lv_at hl 1 rfl) ?_
    refine va_tlen (v := nI 5) hx hb (hE.2.1.1 0 (by decide)).2.2.2 hW.2.2 (by decide +kernel) d_JLat_indexOf_17 ?_
    refine va_mmin hx hb (X.1.2.2.1.trans hl.1.symm) X.1.2.2.2.1 (X.1.2.2.2.2 _ km_JLat_38) (X.1.2.2.2.2 _ kt_min) (X.1.2.2.2.2 _ kn_Math) (X.1.2.2.2.2 _ kb_min) (by decide) (Nat.le_of_ble_eq_true rfl) (Nat.zero_le _) (Nat.zero_le _) d_JLat_indexOf_18 ?_
    refine W.eq (g2 := F0 m 21 ls (.int (nI 5) :: [])) (by rw [show (if (nI 5) < (nI 5) then (nI 5) else (nI 5)) = nI 5 by decide +kernel] <;> rfl) ?_
    refine lv_istore_n (lv' := [(3, .int (nI 5)), (2, .int (nI 0)), (0, .ref aV), (1, .int (nI u))]) hx hb d_JLat_indexOf_21 rfl hl (by decide) rfl (fun ls hl => ?_)
    refine lv_iload_n hx hb d_JLat_indexOf_22 rfl (lv_at hl 1 rfl) ?_
    refine lv_iload_n hx hb d_JLat_indexOf_23 rfl (lv_at hl 0 rfl) ?_
    refine N_icmp_lt_NN hx hb (by decide) (by decide) (tgt := 29) d_JLat_indexOf_24 (by decide) (fun c24 => ?_) (fun c24 => ?_)
    · refine lv_aload_n hx hb d_JLat_indexOf_29 rfl (lv_at hl 2 rfl) ?_
      refine lv_iload_n hx hb d_JLat_indexOf_30 rfl (lv_at hl 3 rfl) ?_
      refine lv_iload_n hx hb d_JLat_indexOf_31 rfl (lv_at hl 1 rfl) ?_
      refine lv_iload_n hx hb d_JLat_indexOf_32 rfl (lv_at hl 0 rfl) ?_
      refine R_callSX (j_JLat_indexOfChar l G cI cZ cJ aK aV u 0 5 hu rfl rfl) X hE hW cw_JLat_95 kt_JLat_indexOfChar  ⟨rfl, rfl⟩ ⟨by decide, by decide⟩ ⟨Nat.zero_le _, Nat.zero_le _⟩ [] rfl (Nat.le_of_ble_eq_true rfl) rfl rfl hl.1 rfl rfl (Nat.le_of_ble_eq_true rfl) d_JLat_indexOf_33 rfl (fun H locs hW => ?_)
      have hW : Wr G A s.heap (w_NilJ) H locs := hW
      exact R_iret X Y hW rfl rfl d_JLat_indexOf_36
    · exfalso; omega
  · cases c4

theorem kb_JStr_isLatin1 : Cond.code y_JStr_isLatin1 b_JStr_isLatin1 1 (some .boolean) ∈ TBL := TBL_t (List.mem_append_left _ (List.mem_of_getElem? (i := 229) rfl)) rfl
theorem km_JStr_492 : Cond.methodLink "java/lang/String" 492 y_JStr_isLatin1 ∈ TBL := TBL_t (List.mem_append_left _ (List.mem_of_getElem? (i := 226) rfl)) rfl
theorem cw_JStr_492 : Cw "java/lang/String" 492 y_JStr_isLatin1 b_JStr_isLatin1 1 (some .boolean) 0 := ⟨kb_JStr_isLatin1, kn_JStr, km_JStr_492, by decide +kernel⟩
theorem ki_JStr_isLatin1 : Cond.instanceMethod y_JStr_isLatin1 ∈ TBL := TBL_t (List.mem_append_left _ (List.mem_of_getElem? (i := 227) rfl)) rfl
theorem ks_JStr_isLatin1 : Cond.selects "java/lang/String" y_JStr_isLatin1 y_JStr_isLatin1 ∈ TBL := TBL_t (List.mem_append_left _ (List.mem_of_getElem? (i := 228) rfl)) rfl
theorem kb_JStr_length : Cond.code y_JStr_length b_JStr_length 1 (some .int) ∈ TBL := TBL_t (List.mem_append_left _ (List.mem_of_getElem? (i := 235) rfl)) rfl
theorem km_JStr_505 : Cond.methodLink "java/lang/String" 505 y_JStr_length ∈ TBL := TBL_t (List.mem_append_left _ (List.mem_of_getElem? (i := 232) rfl)) rfl
theorem cw_JStr_505 : Cw "java/lang/String" 505 y_JStr_length b_JStr_length 1 (some .int) 0 := ⟨kb_JStr_length, kn_JStr, km_JStr_505, by decide +kernel⟩
theorem ki_JStr_length : Cond.instanceMethod y_JStr_length ∈ TBL := TBL_t (List.mem_append_left _ (List.mem_of_getElem? (i := 233) rfl)) rfl
theorem ks_JStr_length : Cond.selects "java/lang/String" y_JStr_length y_JStr_length ∈ TBL := TBL_t (List.mem_append_left _ (List.mem_of_getElem? (i := 234) rfl)) rfl
theorem kb_JLat_indexOf : Cond.code y_JLat_indexOf b_JLat_indexOf 4 (some .int) ∈ TBL := TBL_t (List.mem_append_right _ (List.mem_append_left _ (List.mem_of_getElem? (i := 2) rfl))) rfl
theorem km_JStr_637 : Cond.methodLink "java/lang/String" 637 y_JLat_indexOf ∈ TBL := TBL_t (List.mem_append_right _ (List.mem_append_left _ (List.mem_of_getElem? (i := 0) rfl))) rfl
theorem cw_JStr_637 : Cw "java/lang/String" 637 y_JLat_indexOf b_JLat_indexOf 4 (some .int) 4 := ⟨kb_JLat_indexOf, kn_JLat, km_JStr_637, by decide +kernel⟩
theorem kt_JLat_indexOf : Cond.static y_JLat_indexOf ∈ TBL := TBL_t (List.mem_append_right _ (List.mem_append_left _ (List.mem_of_getElem? (i := 1) rfl))) rfl
set_option maxHeartbeats 4000000 in
set_option maxRecDepth 100000 in
theorem j_JStr_indexOf2 (l : Launch) (G : va_G) (cI cZ cJ : ClassId) (aK aV : Nat)  (u : Nat) (x : Nat) (hu : u ≤ 255) (hx0 : x = 0) : CtX l aK aV G (tyL cI cZ cJ) y_JStr_indexOf2 b_JStr_indexOf2 3 (some .int) (rmL 2) [.ref aK, .int (nI u), .int (nI x)] (w_NilJ) (some (.int (oI (letF u)))) (w_NilJ) := by
  refine M_startX (by decide) (Nat.le_of_ble_eq_true rfl) ?_
  intro p e s m args below meth c A Q ls X Y hW hl hE
  have hx := X.1.1
  have hb := X.1.2.1
  have hl : lv_has ls 3 [(0, .ref aK), (1, .int (nI u)), (2, .int (nI x))] := hl
  refine lv_aload_n hx hb d_JStr_indexOf2_0 rfl (lv_at hl 0 rfl) ?_
  refine R_callVX (j_JStr_isLatin1 l G cI cZ cJ aK aV ) X hE hW cw_JStr_492 ki_JStr_isLatin1 ks_JStr_isLatin1 (vk_recv hE.2.1 (i := 0) (by decide) hW.2.2) ⟨rfl, rfl⟩ ⟨by decide, by decide⟩ ⟨Nat.zero_le _, Nat.zero_le _⟩ [] rfl (Nat.le_of_ble_eq_true rfl) rfl rfl hl.1 rfl rfl (Nat.le_of_ble_eq_true rfl) d_JStr_indexOf2_1 rfl (fun H locs hW => ?_)
  have hW : Wr G A s.heap (w_NilJ) H locs := hW
  refine N_if_eq_B hx hb  (tgt := 23) d_JStr_indexOf2_4 (by decide) (fun c4 => ?_) (fun c4 => ?_)
  · cases c4
  · refine lv_aload_n hx hb d_JStr_indexOf2_7 rfl (lv_at hl 0 rfl) ?_
    refine vk_getf hx hb (hE.2.1.1 0 (by decide)).2.2.1 hW.2.2 X.1.2.2.2.1 (X.1.2.2.2.2 _ kf_JStr_9) (fun _ h => h) d_JStr_indexOf2_8 ?_
    refine W.eq (g2 := F0 m 11 ls (.ref aV :: [])) rfl ?_
    refine lv_iload_n hx hb d_JStr_indexOf2_11 rfl (lv_at hl 1 rfl) ?_
    refine lv_iload_n hx hb d_JStr_indexOf2_12 rfl (lv_at hl 2 rfl) ?_
    refine lv_aload_n hx hb d_JStr_indexOf2_13 rfl (lv_at hl 0 rfl) ?_
    refine R_callVX (j_JStr_length l G cI cZ cJ aK aV ) X hE hW cw_JStr_505 ki_JStr_length ks_JStr_length (vk_recv hE.2.1 (i := 0) (by decide) hW.2.2) ⟨rfl, rfl⟩ ⟨by decide, by decide⟩ ⟨Nat.zero_le _, Nat.zero_le _⟩ [] rfl (Nat.le_of_ble_eq_true rfl) rfl rfl hl.1 rfl rfl (Nat.le_of_ble_eq_true rfl) d_JStr_indexOf2_14 rfl (fun H locs hW => ?_)
    have hW : Wr G A s.heap (w_NilJ) H locs := hW
    refine R_callSX (j_JLat_indexOf l G cI cZ cJ aK aV u x 5 hu hx0 rfl) X hE hW cw_JStr_637 kt_JLat_indexOf  ⟨rfl, rfl⟩ ⟨by decide, by decide⟩ ⟨Nat.zero_le _, Nat.zero_le _⟩ [] rfl (Nat.le_of_ble_eq_true rfl) rfl rfl hl.1 rfl rfl (Nat.le_of_ble_eq_true rfl) d_JStr_indexOf2_17 rfl (fun H locs hW => ?_)
    have hW : Wr G A s.heap (w_NilJ) H locs := hW
    refine lv_goto (tgt := 36) hx hb d_JStr_indexOf2_20 (by decide) ?_
    exact R_iret X Y hW rfl rfl d_JStr_indexOf2_36

theorem kb_JStr_indexOf2 : Cond.code y_JStr_indexOf2 b_JStr_indexOf2 3 (some .int) ∈ TBL := TBL_t (List.mem_append_left _ (List.mem_of_getElem? (i := 225) rfl)) rfl
theorem km_JStr_633 : Cond.methodLink "java/lang/String" 633 y_JStr_indexOf2 ∈ TBL := TBL_t (List.mem_append_left _ (List.mem_of_getElem? (i := 222) rfl)) rfl
theorem cw_JStr_633 : Cw "java/lang/String" 633 y_JStr_indexOf2 b_JStr_indexOf2 3 (some .int) 2 := ⟨kb_JStr_indexOf2, kn_JStr, km_JStr_633, by decide +kernel⟩
theorem ki_JStr_indexOf2 : Cond.instanceMethod y_JStr_indexOf2 ∈ TBL := TBL_t (List.mem_append_left _ (List.mem_of_getElem? (i := 223) rfl)) rfl
theorem ks_JStr_indexOf2 : Cond.selects "java/lang/String" y_JStr_indexOf2 y_JStr_indexOf2 ∈ TBL := TBL_t (List.mem_append_left _ (List.mem_of_getElem? (i := 224) rfl)) rfl
set_option maxHeartbeats 4000000 in
set_option maxRecDepth 100000 in
theorem j_JStr_indexOf1 (l : Launch) (G : va_G) (cI cZ cJ : ClassId) (aK aV : Nat)  (u : Nat) (hu : u ≤ 255) : CtX l aK aV G (tyL cI cZ cJ) y_JStr_indexOf1 b_JStr_indexOf1 2 (some .int) (rmL 3) [.ref aK, .int (nI u)] (w_NilJ) (some (.int (oI (letF u)))) (w_NilJ) := by
  refine M_startX (by decide) (Nat.le_of_ble_eq_true rfl) ?_
  intro p e s m args below meth c A Q ls X Y hW hl hE
  have hx := X.1.1
  have hb := X.1.2.1
  have hl : lv_has ls 2 [(0, .ref aK), (1, .int (nI u))] := hl
  refine lv_aload_n hx hb d_JStr_indexOf1_0 rfl (lv_at hl 0 rfl) ?_
  refine lv_iload_n hx hb d_JStr_indexOf1_1 rfl (lv_at hl 1 rfl) ?_
  refine lv_iconst (v := (nI 0)) hx hb d_JStr_indexOf1_2 (by decide +kernel) ?_
  refine R_callVX (j_JStr_indexOf2 l G cI cZ cJ aK aV u 0 hu rfl) X hE hW cw_JStr_633 ki_JStr_indexOf2 ks_JStr_indexOf2 (vk_recv hE.2.1 (i := 0) (by decide) hW.2.2) ⟨rfl, rfl⟩ ⟨by decide, by decide⟩ ⟨Nat.zero_le _, Nat.zero_le _⟩ [] rfl (Nat.le_of_ble_eq_true rfl) rfl rfl hl.1 rfl rfl (Nat.le_of_ble_eq_true rfl) d_JStr_indexOf1_3 rfl (fun H locs hW => ?_)
  have hW : Wr G A s.heap (w_NilJ) H locs := hW
  exact R_iret X Y hW rfl rfl d_JStr_indexOf1_6
