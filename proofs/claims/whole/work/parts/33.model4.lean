theorem kb_Model_ruleOf : Cond.code y_Model_ruleOf b_Model_ruleOf 1 (some .int) ∈ TBL := TBL_t (List.mem_append_right _ (List.mem_append_right _ (List.mem_of_getElem? (i := 110) rfl))) rfl
theorem km_Model_80 : Cond.methodLink "ContestRowsModel" 80 y_Model_ruleOf ∈ TBL := TBL_t (List.mem_append_right _ (List.mem_append_right _ (List.mem_of_getElem? (i := 108) rfl))) rfl
theorem cw_Model_80 : Cw "ContestRowsModel" 80 y_Model_ruleOf b_Model_ruleOf 1 (some .int) 1 := ⟨kb_Model_ruleOf, kn_Model, km_Model_80, by decide +kernel⟩
theorem kt_Model_ruleOf : Cond.static y_Model_ruleOf ∈ TBL := TBL_t (List.mem_append_right _ (List.mem_append_right _ (List.mem_of_getElem? (i := 109) rfl))) rfl
theorem kb_Model_isDigit : Cond.code y_Model_isDigit b_Model_isDigit 2 (some .boolean) ∈ TBL := TBL_t (List.mem_append_right _ (List.mem_append_right _ (List.mem_of_getElem? (i := 114) rfl))) rfl
theorem km_Model_83 : Cond.methodLink "ContestRowsModel" 83 y_Model_isDigit ∈ TBL := TBL_t (List.mem_append_right _ (List.mem_append_right _ (List.mem_of_getElem? (i := 111) rfl))) rfl
theorem cw_Model_83 : Cw "ContestRowsModel" 83 y_Model_isDigit b_Model_isDigit 2 (some .boolean) 1 := ⟨kb_Model_isDigit, kn_Model, km_Model_83, by decide +kernel⟩
theorem ki_Model_isDigit : Cond.instanceMethod y_Model_isDigit ∈ TBL := TBL_t (List.mem_append_right _ (List.mem_append_right _ (List.mem_of_getElem? (i := 113) rfl))) rfl
theorem ks_Model_isDigit : Cond.selects "ContestRowsModel" y_Model_isDigit y_Model_isDigit ∈ TBL := TBL_in (List.mem_append_left _ (List.mem_map.mpr ⟨(y_Model_isDigit, 22), by decide +kernel, rfl⟩)) rfl
theorem kf_Model_35 : Cond.fieldLink "ContestRowsModel" 35 "ContestRowsModel" "told" "[I" ∈ TBL := TBL_t (List.mem_append_right _ (List.mem_append_right _ (List.mem_of_getElem? (i := 29) rfl))) rfl
theorem kf_Model_87 : Cond.fieldLink "ContestRowsModel" 87 "ContestRowsModel" "bad" "I" ∈ TBL := TBL_t (List.mem_append_right _ (List.mem_append_right _ (List.mem_of_getElem? (i := 32) rfl))) rfl
set_option maxHeartbeats 4000000 in
set_option maxRecDepth 100000 in
theorem m_readRule (l : Launch) (G : va_G) (cI cZ cJ : ClassId) (hm : Nat → Nat) (mth : Nat) (np : Nat) (ne : Nat) (ns : Nat) (tl : Nat) (mbd : Option Nat) (gr : Nat → Nat) (stt : Nat → Option Nat) (sp : Nat → Nat) (sq : Nat → Nat) (sec : Nat → Nat) (ans : Nat → Nat) (rt : Nat → Bool) (nw : Nat → Nat) (mtd : Nat → Nat) (un : Nat → Nat) (mss : Nat → Nat) (msc : Nat → Nat) (mip : Nat → Bool) (mcb : Nat → Bool) (msco : Nat → Nat) (mtim : Nat → Nat) (x : Nat) (hx0 : x < tl) (hn : tl ≤ 100) (hun : ∀ i, i < 100 → un i ≤ 255) : Ct l G (tyL cI cZ cJ) y_Model_readRule b_Model_readRule 5 (some .int) (rmL 2) [.ref (hm 0), .int (nI x)] (w_M hm cI cZ cJ mth np ne ns tl mbd gr stt sp sq sec ans rt nw mtd un mss msc mip mcb msco mtim) (some (.int (nI (eoF un tl x + 1)))) (w_M hm cI cZ cJ mth np ne ns tl (rrM un tl x mbd) gr stt sp sq sec ans rt nw (rrT un tl x mtd) un mss msc mip mcb msco mtim) := by
  refine M_start (by decide) (Nat.le_of_ble_eq_true rfl) ?_
  intro p e s m args below meth c A Q ls X Y hW hl
  have hx := X.1.1
  have hb := X.1.2.1
  have hl : lv_has ls 5 [(0, .ref (hm 0)), (1, .int (nI x))] := hl
  refine lv_aload_n hx hb d_Model_readRule_0 rfl (lv_at hl 0 rfl) ?_
  refine lv_iload_n hx hb d_Model_readRule_1 rfl (lv_at hl 1 rfl) ?_
  refine R_callV (q0 := 0) (m_byteAt_in l G cI cZ cJ hm mth np ne ns tl mbd gr stt sp sq sec ans rt nw mtd un mss msc mip mcb msco mtim x hx0 hn) X rfl hW cw_Model_76 ki_Model_byteAt ks_Model_byteAt rfl rfl ⟨rfl, rfl⟩ ⟨by decide, by decide⟩ ⟨Nat.zero_le _, Nat.zero_le _⟩ [true, true, true, true, true, true, true, true, true, true, true, true, true, true, true, true, true] rfl (Nat.le_of_ble_eq_true rfl) rfl rfl hl.1 rfl rfl (Nat.le_of_ble_eq_true rfl) d_Model_readRule_2 rfl (fun H locs hW => ?_)
  have hW : Wr G A s.heap (w_M hm cI cZ cJ mth np ne ns tl mbd gr stt sp sq sec ans rt nw mtd un mss msc mip mcb msco mtim) H locs := hW
  refine R_callS (m_ruleOf l G cI cZ cJ hm (un x) (hun x (by omega))) X rfl hW cw_Model_80 kt_Model_ruleOf ⟨rfl, rfl⟩ ⟨by decide, by decide⟩ ⟨Nat.zero_le _, Nat.zero_le _⟩ [false, false, false, false, false, false, false, false, false, false, false, false, false, false, false, false, false] rfl (Nat.le_of_ble_eq_true rfl) rfl rfl hl.1 rfl rfl (Nat.le_of_ble_eq_true rfl) d_Model_readRule_5 rfl (fun H locs hW => ?_)
  have hW : Wr G A s.heap (w_M hm cI cZ cJ mth np ne ns tl mbd gr stt sp sq sec ans rt nw mtd un mss msc mip mcb msco mtim) H locs := hW
  refine lv_istore_n (lv' := [(2, .int (oI (letF (un x)))), (0, .ref (hm 0)), (1, .int (nI x))]) hx hb d_Model_readRule_8 rfl hl (by decide) rfl (fun ls hl => ?_)
  refine lv_iload_n hx hb d_Model_readRule_9 rfl (lv_at hl 2 rfl) ?_
  refine lv_iconst (v := (nI 1)) hx hb d_Model_readRule_10 (by decide +kernel) ?_
  refine N_iadd hx hb d_Model_readRule_11 ?_
  refine lv_istore_n (lv' := [(3, .int (nI (x + 1))), (2, .int (oI (letF (un x)))), (0, .ref (hm 0)), (1, .int (nI x))]) hx hb d_Model_readRule_12 rfl hl (by decide) rfl (fun ls hl => ?_)
  refine lv_iconst (v := (nI 0)) hx hb d_Model_readRule_13 (by decide +kernel) ?_
  refine lv_istore (lv' := [(4, .int (nI 0)), (3, .int (nI (x + 1))), (2, .int (oI (letF (un x)))), (0, .ref (hm 0)), (1, .int (nI x))]) hx hb d_Model_readRule_14 hl (by decide) rfl (fun ls hl => ?_)
  have L16 : ∀ (n : Nat) (i : Nat) (v : Nat) (hk : x + 1 ≤ i ∧ i ≤ x + 5) (hm0 : x + 5 - i < n) (he : eodG un tl (x + 1) n i = eoF un tl x) (hv : v = numG un (i - (x + 1)) (x + 1) 0) (H : Heap) (locs : List Loc) (hW : Wr G A s.heap (w_M hm cI cZ cJ mth np ne ns tl mbd gr stt sp sq sec ans rt nw mtd un mss msc mip mcb msco mtim) H locs) (ls : Array Slot) (hl : lv_has ls 5 [(0, .ref (hm 0)), (1, .int (nI x)), (2, .int (oI (letF (un x)))), (3, .int (nI i)), (4, .int (nI v))]), W p l e (rmL 2) s m args below meth c H locs 0 0 Q (F0 m 16 ls []) := by
    intro n
    induction n with
    | zero =>
      intro i v hk hm0 he hv H locs hW ls hl
      exfalso; omega
    | succ n ih16 =>
      intro i v hk hm0 he hv H locs hW ls hl
      by_cases hi : i < tl
      · refine lv_aload_n hx hb d_Model_readRule_16 rfl (lv_at hl 0 rfl) ?_
        refine lv_iload_n hx hb d_Model_readRule_17 rfl (lv_at hl 3 rfl) ?_
        refine R_callV (q0 := 0) (m_isDigit_in l G cI cZ cJ hm mth np ne ns tl mbd gr stt sp sq sec ans rt nw mtd un mss msc mip mcb msco mtim i (by omega) hn (hun i (by omega))) X rfl hW cw_Model_83 ki_Model_isDigit ks_Model_isDigit rfl rfl ⟨rfl, rfl⟩ ⟨by decide, by decide⟩ ⟨Nat.zero_le _, Nat.zero_le _⟩ [true, true, true, true, true, true, true, true, true, true, true, true, true, true, true, true, true] rfl (Nat.le_of_ble_eq_true rfl) rfl rfl hl.1 rfl rfl (Nat.le_of_ble_eq_true rfl) d_Model_readRule_18 rfl (fun H locs hW => ?_)
        have hW : Wr G A s.heap (w_M hm cI cZ cJ mth np ne ns tl mbd gr stt sp sq sec ans rt nw mtd un mss msc mip mcb msco mtim) H locs := hW
        refine N_if_eq_B hx hb  (tgt := 53) d_Model_readRule_21 (by decide) (fun c21 => ?_) (fun c21 => ?_)
        · have hE : eoF un tl x = i := by rw [← he, eodG, if_neg (by first | omega | (simp at c21; omega))]
          have hV : nuF un tl x = v := by rw [hv, ← hE]; rfl
          have q9 : nuF un tl x ≤ 9999 := nuF_le
          refine lv_iload_n hx hb d_Model_readRule_53 rfl (lv_at hl 2 rfl) ?_
          refine N_if_ge_O hx hb (fun z hz => by have := let_lt hz; omega) (tgt := 65) d_Model_readRule_54 (by decide) (fun c54 => ?_) (fun c54 => ?_)
          · obtain ⟨z, hz⟩ : ∃ z, letF (un x) = some z := by cases hq : letF (un x) with | none => exact absurd hq c54 | some z => exact ⟨z, rfl⟩
            have hz5 := let_lt hz
            refine lv_iload_n hx hb d_Model_readRule_65 rfl (lv_at hl 3 rfl) ?_
            refine lv_iload_n hx hb d_Model_readRule_66 rfl (lv_at hl 1 rfl) ?_
            refine lv_iconst (v := (nI 1)) hx hb d_Model_readRule_67 (by decide +kernel) ?_
            refine N_iadd hx hb d_Model_readRule_68 ?_
            refine N_icmp_ne_NN hx hb (by omega) (by omega) (tgt := 80) d_Model_readRule_69 (by decide) (fun c69 => ?_) (fun c69 => ?_)
            · refine lv_iload_n hx hb d_Model_readRule_80 rfl (lv_at hl 2 rfl) ?_
              refine lv_iconst (v := (nI 4)) hx hb d_Model_readRule_81 (by decide +kernel) ?_
              refine W.eq (g2 := F0 m 82 ls (.int (nI 4) :: .int (nI z) :: [])) (by rw [hz]; first | done | rfl) ?_
              refine N_icmp_ne_NN hx hb (by omega) (by decide) (tgt := 101) d_Model_readRule_82 (by decide) (fun c82 => ?_) (fun c82 => ?_)
              · by_cases hi2 : i < tl
                · refine lv_aload_n hx hb d_Model_readRule_101 rfl (lv_at hl 0 rfl) ?_
                  refine lv_iload_n hx hb d_Model_readRule_102 rfl (lv_at hl 3 rfl) ?_
                  refine R_callV (q0 := 0) (m_byteAt_in l G cI cZ cJ hm mth np ne ns tl mbd gr stt sp sq sec ans rt nw mtd un mss msc mip mcb msco mtim i (by omega) hn) X rfl hW cw_Model_76 ki_Model_byteAt ks_Model_byteAt rfl rfl ⟨rfl, rfl⟩ ⟨by decide, by decide⟩ ⟨Nat.zero_le _, Nat.zero_le _⟩ [true, true, true, true, true, true, true, true, true, true, true, true, true, true, true, true, true] rfl (Nat.le_of_ble_eq_true rfl) rfl rfl hl.1 rfl rfl (Nat.le_of_ble_eq_true rfl) d_Model_readRule_103 rfl (fun H locs hW => ?_)
                  have hW : Wr G A s.heap (w_M hm cI cZ cJ mth np ne ns tl mbd gr stt sp sq sec ans rt nw mtd un mss msc mip mcb msco mtim) H locs := hW
                  have y8 : i < 100 → un i ≤ 255 := hun i
                  refine lv_bipush (v := (nI 59)) hx hb d_Model_readRule_106 (by decide +kernel) ?_
                  refine N_icmp_eq_NN hx hb (by omega) (by decide) (tgt := 119) d_Model_readRule_108 (by decide) (fun c108 => ?_) (fun c108 => ?_)
                  · have hB : rrB un tl x = none := by rw [rrB, hz]; dsimp only; rw [if_neg (by omega), if_neg (by omega), if_neg (by rw [hE]; omega)]
                    have hM : rrM un tl x mbd = mbd := by rw [rrM, hB] <;> rfl
                    have hT : rrT un tl x mtd = va_up mtd z v := by rw [rrT, hB, hz, hV] <;> rfl
                    refine lv_aload_n hx hb d_Model_readRule_119 rfl (lv_at hl 0 rfl) ?_
                    refine R_get X hW i_Model rfl 12 (by decide) kf_Model_35 0 rfl rfl d_Model_readRule_120 ?_
                    refine lv_iload_n hx hb d_Model_readRule_123 rfl (lv_at hl 2 rfl) ?_
                    refine lv_iload hx hb d_Model_readRule_124 (lv_at hl 4 rfl) ?_
                    refine W.eq (g2 := F0 m 126 ls (.int (nI v) :: .int (nI z) :: .ref (hm 9) :: [])) (by rw [hz]; first | done | rfl) ?_
                    refine R_iast X hW (t0 := 0) rfl 9 rfl (k := z) (by omega) (by decide) v rfl d_Model_readRule_126 (fun H locs hW => ?_)
                    have hW : Wr G A s.heap (w_M hm cI cZ cJ mth np ne ns tl mbd gr stt sp sq sec ans rt nw (va_up mtd z v) un mss msc mip mcb msco mtim) H locs := hW
                    refine lv_iload_n hx hb d_Model_readRule_127 rfl (lv_at hl 3 rfl) ?_
                    refine lv_iconst (v := (nI 1)) hx hb d_Model_readRule_128 (by decide +kernel) ?_
                    refine N_iadd hx hb d_Model_readRule_129 ?_
                    exact R_iret X Y hW (by rw [hM, hT]) (by rw [hE]) d_Model_readRule_130
                  · refine lv_aload_n hx hb d_Model_readRule_111 rfl (lv_at hl 0 rfl) ?_
                    refine lv_iload_n hx hb d_Model_readRule_112 rfl (lv_at hl 3 rfl) ?_
                    refine R_put X hW i_Model rfl t_Model t_Model_ok n_Model 15 (by decide) kf_Model_87 rfl (ty := .int) (by decide +kernel) 0 rfl (v := .int (nI i)) rfl rfl (Nat.le_of_ble_eq_true rfl) d_Model_readRule_113 (fun H locs hW => ?_)
                    have hW : Wr G A s.heap (w_M hm cI cZ cJ mth np ne ns tl (some i) gr stt sp sq sec ans rt nw mtd un mss msc mip mcb msco mtim) H locs := hW
                    have hB : rrB un tl x = some i := by rw [rrB, hz]; dsimp only; rw [if_neg (by omega), if_neg (by omega), if_pos (by first | (left; omega) | (right; rw [hE]; exact c108)), hE]
                    have hM : rrM un tl x mbd = some i := by rw [rrM, hB] <;> rfl
                    have hT : rrT un tl x mtd = mtd := by rw [rrT, hB] <;> rfl
                    refine lv_goto (tgt := 127) hx hb d_Model_readRule_116 (by decide) ?_
                    refine lv_iload_n hx hb d_Model_readRule_127 rfl (lv_at hl 3 rfl) ?_
                    refine lv_iconst (v := (nI 1)) hx hb d_Model_readRule_128 (by decide +kernel) ?_
                    refine N_iadd hx hb d_Model_readRule_129 ?_
                    exact R_iret X Y hW (by rw [hM, hT]) (by rw [hE]) d_Model_readRule_130
                · refine lv_aload_n hx hb d_Model_readRule_101 rfl (lv_at hl 0 rfl) ?_
                  refine lv_iload_n hx hb d_Model_readRule_102 rfl (lv_at hl 3 rfl) ?_
                  refine R_callV (q0 := 0) (m_byteAt_out l G cI cZ cJ hm mth np ne ns tl mbd gr stt sp sq sec ans rt nw mtd un mss msc mip mcb msco mtim i (by omega) (by omega)) X rfl hW cw_Model_76 ki_Model_byteAt ks_Model_byteAt rfl rfl ⟨rfl, rfl⟩ ⟨by decide, by decide⟩ ⟨Nat.zero_le _, Nat.zero_le _⟩ [true, true, true, true, true, true, true, true, true, true, true, true, true, true, true, true, true] rfl (Nat.le_of_ble_eq_true rfl) rfl rfl hl.1 rfl rfl (Nat.le_of_ble_eq_true rfl) d_Model_readRule_103 rfl (fun H locs hW => ?_)
                  have hW : Wr G A s.heap (w_M hm cI cZ cJ mth np ne ns tl mbd gr stt sp sq sec ans rt nw mtd un mss msc mip mcb msco mtim) H locs := hW
                  have y8 : i < 100 → un i ≤ 255 := hun i
                  refine lv_bipush (v := (nI 59)) hx hb d_Model_readRule_106 (by decide +kernel) ?_
                  refine N_icmp_eq_RN hx hb (by decide) (tgt := 119) d_Model_readRule_108 (by decide) (fun c108 => ?_) (fun c108 => ?_)
                  · exfalso; rw [i_Tm1] at c108; omega
                  · refine lv_aload_n hx hb d_Model_readRule_111 rfl (lv_at hl 0 rfl) ?_
                    refine lv_iload_n hx hb d_Model_readRule_112 rfl (lv_at hl 3 rfl) ?_
                    refine R_put X hW i_Model rfl t_Model t_Model_ok n_Model 15 (by decide) kf_Model_87 rfl (ty := .int) (by decide +kernel) 0 rfl (v := .int (nI i)) rfl rfl (Nat.le_of_ble_eq_true rfl) d_Model_readRule_113 (fun H locs hW => ?_)
                    have hW : Wr G A s.heap (w_M hm cI cZ cJ mth np ne ns tl (some i) gr stt sp sq sec ans rt nw mtd un mss msc mip mcb msco mtim) H locs := hW
                    have hB : rrB un tl x = some i := by rw [rrB, hz]; dsimp only; rw [if_neg (by omega), if_neg (by omega), if_pos (by first | (left; omega) | (right; rw [hE]; exact c108)), hE]
                    have hM : rrM un tl x mbd = some i := by rw [rrM, hB] <;> rfl
                    have hT : rrT un tl x mtd = mtd := by rw [rrT, hB] <;> rfl
                    refine lv_goto (tgt := 127) hx hb d_Model_readRule_116 (by decide) ?_
                    refine lv_iload_n hx hb d_Model_readRule_127 rfl (lv_at hl 3 rfl) ?_
                    refine lv_iconst (v := (nI 1)) hx hb d_Model_readRule_128 (by decide +kernel) ?_
                    refine N_iadd hx hb d_Model_readRule_129 ?_
                    exact R_iret X Y hW (by rw [hM, hT]) (by rw [hE]) d_Model_readRule_130
              · refine lv_iload hx hb d_Model_readRule_85 (lv_at hl 4 rfl) ?_
                refine lv_iconst (v := (nI 1)) hx hb d_Model_readRule_87 (by decide +kernel) ?_
                refine N_icmp_le_NN hx hb (by omega) (by decide) (tgt := 101) d_Model_readRule_88 (by decide) (fun c88 => ?_) (fun c88 => ?_)
                · by_cases hi2 : i < tl
                  · refine lv_aload_n hx hb d_Model_readRule_101 rfl (lv_at hl 0 rfl) ?_
                    refine lv_iload_n hx hb d_Model_readRule_102 rfl (lv_at hl 3 rfl) ?_
                    refine R_callV (q0 := 0) (m_byteAt_in l G cI cZ cJ hm mth np ne ns tl mbd gr stt sp sq sec ans rt nw mtd un mss msc mip mcb msco mtim i (by omega) hn) X rfl hW cw_Model_76 ki_Model_byteAt ks_Model_byteAt rfl rfl ⟨rfl, rfl⟩ ⟨by decide, by decide⟩ ⟨Nat.zero_le _, Nat.zero_le _⟩ [true, true, true, true, true, true, true, true, true, true, true, true, true, true, true, true, true] rfl (Nat.le_of_ble_eq_true rfl) rfl rfl hl.1 rfl rfl (Nat.le_of_ble_eq_true rfl) d_Model_readRule_103 rfl (fun H locs hW => ?_)
                    have hW : Wr G A s.heap (w_M hm cI cZ cJ mth np ne ns tl mbd gr stt sp sq sec ans rt nw mtd un mss msc mip mcb msco mtim) H locs := hW
                    have y8 : i < 100 → un i ≤ 255 := hun i
                    refine lv_bipush (v := (nI 59)) hx hb d_Model_readRule_106 (by decide +kernel) ?_
                    refine N_icmp_eq_NN hx hb (by omega) (by decide) (tgt := 119) d_Model_readRule_108 (by decide) (fun c108 => ?_) (fun c108 => ?_)
                    · have hB : rrB un tl x = none := by rw [rrB, hz]; dsimp only; rw [if_neg (by omega), if_neg (by omega), if_neg (by rw [hE]; omega)]
                      have hM : rrM un tl x mbd = mbd := by rw [rrM, hB] <;> rfl
                      have hT : rrT un tl x mtd = va_up mtd z v := by rw [rrT, hB, hz, hV] <;> rfl
                      refine lv_aload_n hx hb d_Model_readRule_119 rfl (lv_at hl 0 rfl) ?_
                      refine R_get X hW i_Model rfl 12 (by decide) kf_Model_35 0 rfl rfl d_Model_readRule_120 ?_
                      refine lv_iload_n hx hb d_Model_readRule_123 rfl (lv_at hl 2 rfl) ?_
                      refine lv_iload hx hb d_Model_readRule_124 (lv_at hl 4 rfl) ?_
                      refine W.eq (g2 := F0 m 126 ls (.int (nI v) :: .int (nI z) :: .ref (hm 9) :: [])) (by rw [hz]; first | done | rfl) ?_
                      refine R_iast X hW (t0 := 0) rfl 9 rfl (k := z) (by omega) (by decide) v rfl d_Model_readRule_126 (fun H locs hW => ?_)
                      have hW : Wr G A s.heap (w_M hm cI cZ cJ mth np ne ns tl mbd gr stt sp sq sec ans rt nw (va_up mtd z v) un mss msc mip mcb msco mtim) H locs := hW
                      refine lv_iload_n hx hb d_Model_readRule_127 rfl (lv_at hl 3 rfl) ?_
                      refine lv_iconst (v := (nI 1)) hx hb d_Model_readRule_128 (by decide +kernel) ?_
                      refine N_iadd hx hb d_Model_readRule_129 ?_
                      exact R_iret X Y hW (by rw [hM, hT]) (by rw [hE]) d_Model_readRule_130
                    · refine lv_aload_n hx hb d_Model_readRule_111 rfl (lv_at hl 0 rfl) ?_
                      refine lv_iload_n hx hb d_Model_readRule_112 rfl (lv_at hl 3 rfl) ?_
                      refine R_put X hW i_Model rfl t_Model t_Model_ok n_Model 15 (by decide) kf_Model_87 rfl (ty := .int) (by decide +kernel) 0 rfl (v := .int (nI i)) rfl rfl (Nat.le_of_ble_eq_true rfl) d_Model_readRule_113 (fun H locs hW => ?_)
                      have hW : Wr G A s.heap (w_M hm cI cZ cJ mth np ne ns tl (some i) gr stt sp sq sec ans rt nw mtd un mss msc mip mcb msco mtim) H locs := hW
                      have hB : rrB un tl x = some i := by rw [rrB, hz]; dsimp only; rw [if_neg (by omega), if_neg (by omega), if_pos (by first | (left; omega) | (right; rw [hE]; exact c108)), hE]
                      have hM : rrM un tl x mbd = some i := by rw [rrM, hB] <;> rfl
                      have hT : rrT un tl x mtd = mtd := by rw [rrT, hB] <;> rfl
                      refine lv_goto (tgt := 127) hx hb d_Model_readRule_116 (by decide) ?_
                      refine lv_iload_n hx hb d_Model_readRule_127 rfl (lv_at hl 3 rfl) ?_
                      refine lv_iconst (v := (nI 1)) hx hb d_Model_readRule_128 (by decide +kernel) ?_
                      refine N_iadd hx hb d_Model_readRule_129 ?_
                      exact R_iret X Y hW (by rw [hM, hT]) (by rw [hE]) d_Model_readRule_130
                  · refine lv_aload_n hx hb d_Model_readRule_101 rfl (lv_at hl 0 rfl) ?_
                    refine lv_iload_n hx hb d_Model_readRule_102 rfl (lv_at hl 3 rfl) ?_
                    refine R_callV (q0 := 0) (m_byteAt_out l G cI cZ cJ hm mth np ne ns tl mbd gr stt sp sq sec ans rt nw mtd un mss msc mip mcb msco mtim i (by omega) (by omega)) X rfl hW cw_Model_76 ki_Model_byteAt ks_Model_byteAt rfl rfl ⟨rfl, rfl⟩ ⟨by decide, by decide⟩ ⟨Nat.zero_le _, Nat.zero_le _⟩ [true, true, true, true, true, true, true, true, true, true, true, true, true, true, true, true, true] rfl (Nat.le_of_ble_eq_true rfl) rfl rfl hl.1 rfl rfl (Nat.le_of_ble_eq_true rfl) d_Model_readRule_103 rfl (fun H locs hW => ?_)
                    have hW : Wr G A s.heap (w_M hm cI cZ cJ mth np ne ns tl mbd gr stt sp sq sec ans rt nw mtd un mss msc mip mcb msco mtim) H locs := hW
                    have y8 : i < 100 → un i ≤ 255 := hun i
                    refine lv_bipush (v := (nI 59)) hx hb d_Model_readRule_106 (by decide +kernel) ?_
                    refine N_icmp_eq_RN hx hb (by decide) (tgt := 119) d_Model_readRule_108 (by decide) (fun c108 => ?_) (fun c108 => ?_)
                    · exfalso; rw [i_Tm1] at c108; omega
                    · refine lv_aload_n hx hb d_Model_readRule_111 rfl (lv_at hl 0 rfl) ?_
                      refine lv_iload_n hx hb d_Model_readRule_112 rfl (lv_at hl 3 rfl) ?_
                      refine R_put X hW i_Model rfl t_Model t_Model_ok n_Model 15 (by decide) kf_Model_87 rfl (ty := .int) (by decide +kernel) 0 rfl (v := .int (nI i)) rfl rfl (Nat.le_of_ble_eq_true rfl) d_Model_readRule_113 (fun H locs hW => ?_)
                      have hW : Wr G A s.heap (w_M hm cI cZ cJ mth np ne ns tl (some i) gr stt sp sq sec ans rt nw mtd un mss msc mip mcb msco mtim) H locs := hW
                      have hB : rrB un tl x = some i := by rw [rrB, hz]; dsimp only; rw [if_neg (by omega), if_neg (by omega), if_pos (by first | (left; omega) | (right; rw [hE]; exact c108)), hE]
                      have hM : rrM un tl x mbd = some i := by rw [rrM, hB] <;> rfl
                      have hT : rrT un tl x mtd = mtd := by rw [rrT, hB] <;> rfl
                      refine lv_goto (tgt := 127) hx hb d_Model_readRule_116 (by decide) ?_
                      refine lv_iload_n hx hb d_Model_readRule_127 rfl (lv_at hl 3 rfl) ?_
                      refine lv_iconst (v := (nI 1)) hx hb d_Model_readRule_128 (by decide +kernel) ?_
                      refine N_iadd hx hb d_Model_readRule_129 ?_
                      exact R_iret X Y hW (by rw [hM, hT]) (by rw [hE]) d_Model_readRule_130
                · refine lv_aload_n hx hb d_Model_readRule_91 rfl (lv_at hl 0 rfl) ?_
                  refine lv_iload_n hx hb d_Model_readRule_92 rfl (lv_at hl 3 rfl) ?_
                  refine lv_iconst (v := (nI 1)) hx hb d_Model_readRule_93 (by decide +kernel) ?_
                  refine N_isub (r := i - 1) hx hb (by omega) (by omega) d_Model_readRule_94 ?_
                  refine R_put X hW i_Model rfl t_Model t_Model_ok n_Model 15 (by decide) kf_Model_87 rfl (ty := .int) (by decide +kernel) 0 rfl (v := .int (nI (i - 1))) rfl rfl (Nat.le_of_ble_eq_true rfl) d_Model_readRule_95 (fun H locs hW => ?_)
                  have hW : Wr G A s.heap (w_M hm cI cZ cJ mth np ne ns tl (some (i - 1)) gr stt sp sq sec ans rt nw mtd un mss msc mip mcb msco mtim) H locs := hW
                  have hB : rrB un tl x = some (i - 1) := by rw [rrB, hz]; dsimp only; rw [if_neg (by omega), if_pos (by omega), hE]
                  have hM : rrM un tl x mbd = some (i - 1) := by rw [rrM, hB] <;> rfl
                  have hT : rrT un tl x mtd = mtd := by rw [rrT, hB] <;> rfl
                  refine lv_goto (tgt := 127) hx hb d_Model_readRule_98 (by decide) ?_
                  refine lv_iload_n hx hb d_Model_readRule_127 rfl (lv_at hl 3 rfl) ?_
                  refine lv_iconst (v := (nI 1)) hx hb d_Model_readRule_128 (by decide +kernel) ?_
                  refine N_iadd hx hb d_Model_readRule_129 ?_
                  exact R_iret X Y hW (by rw [hM, hT]) (by rw [hE]) d_Model_readRule_130
            · refine lv_aload_n hx hb d_Model_readRule_72 rfl (lv_at hl 0 rfl) ?_
              refine lv_iload_n hx hb d_Model_readRule_73 rfl (lv_at hl 3 rfl) ?_
              refine R_put X hW i_Model rfl t_Model t_Model_ok n_Model 15 (by decide) kf_Model_87 rfl (ty := .int) (by decide +kernel) 0 rfl (v := .int (nI i)) rfl rfl (Nat.le_of_ble_eq_true rfl) d_Model_readRule_74 (fun H locs hW => ?_)
              have hW : Wr G A s.heap (w_M hm cI cZ cJ mth np ne ns tl (some i) gr stt sp sq sec ans rt nw mtd un mss msc mip mcb msco mtim) H locs := hW
              have hB : rrB un tl x = some i := by rw [rrB, hz]; dsimp only; rw [if_pos (by omega), c69]
              have hM : rrM un tl x mbd = some i := by rw [rrM, hB] <;> rfl
              have hT : rrT un tl x mtd = mtd := by rw [rrT, hB] <;> rfl
              refine lv_goto (tgt := 127) hx hb d_Model_readRule_77 (by decide) ?_
              refine lv_iload_n hx hb d_Model_readRule_127 rfl (lv_at hl 3 rfl) ?_
              refine lv_iconst (v := (nI 1)) hx hb d_Model_readRule_128 (by decide +kernel) ?_
              refine N_iadd hx hb d_Model_readRule_129 ?_
              exact R_iret X Y hW (by rw [hM, hT]) (by rw [hE]) d_Model_readRule_130
          · refine lv_aload_n hx hb d_Model_readRule_57 rfl (lv_at hl 0 rfl) ?_
            refine lv_iload_n hx hb d_Model_readRule_58 rfl (lv_at hl 1 rfl) ?_
            refine R_put X hW i_Model rfl t_Model t_Model_ok n_Model 15 (by decide) kf_Model_87 rfl (ty := .int) (by decide +kernel) 0 rfl (v := .int (nI x)) rfl rfl (Nat.le_of_ble_eq_true rfl) d_Model_readRule_59 (fun H locs hW => ?_)
            have hW : Wr G A s.heap (w_M hm cI cZ cJ mth np ne ns tl (some x) gr stt sp sq sec ans rt nw mtd un mss msc mip mcb msco mtim) H locs := hW
            have hB : rrB un tl x = some x := by rw [rrB, c54]
            have hM : rrM un tl x mbd = some x := by rw [rrM, hB] <;> rfl
            have hT : rrT un tl x mtd = mtd := by rw [rrT, hB] <;> rfl
            refine lv_goto (tgt := 127) hx hb d_Model_readRule_62 (by decide) ?_
            refine lv_iload_n hx hb d_Model_readRule_127 rfl (lv_at hl 3 rfl) ?_
            refine lv_iconst (v := (nI 1)) hx hb d_Model_readRule_128 (by decide +kernel) ?_
            refine N_iadd hx hb d_Model_readRule_129 ?_
            exact R_iret X Y hW (by rw [hM, hT]) (by rw [hE]) d_Model_readRule_130
        · refine lv_iload_n hx hb d_Model_readRule_24 rfl (lv_at hl 3 rfl) ?_
          refine lv_iload_n hx hb d_Model_readRule_25 rfl (lv_at hl 1 rfl) ?_
          refine lv_iconst (v := (nI 5)) hx hb d_Model_readRule_26 (by decide +kernel) ?_
          refine N_iadd hx hb d_Model_readRule_27 ?_
          refine N_icmp_ge_NN hx hb (by omega) (by omega) (tgt := 53) d_Model_readRule_28 (by decide) (fun c28 => ?_) (fun c28 => ?_)
          · have hE : eoF un tl x = i := by rw [← he, eodG, if_neg (by first | omega | (simp at c21; omega))]
            have hV : nuF un tl x = v := by rw [hv, ← hE]; rfl
            have q9 : nuF un tl x ≤ 9999 := nuF_le
            refine lv_iload_n hx hb d_Model_readRule_53 rfl (lv_at hl 2 rfl) ?_
            refine N_if_ge_O hx hb (fun z hz => by have := let_lt hz; omega) (tgt := 65) d_Model_readRule_54 (by decide) (fun c54 => ?_) (fun c54 => ?_)
            · obtain ⟨z, hz⟩ : ∃ z, letF (un x) = some z := by cases hq : letF (un x) with | none => exact absurd hq c54 | some z => exact ⟨z, rfl⟩
              have hz5 := let_lt hz
              refine lv_iload_n hx hb d_Model_readRule_65 rfl (lv_at hl 3 rfl) ?_
              refine lv_iload_n hx hb d_Model_readRule_66 rfl (lv_at hl 1 rfl) ?_
              refine lv_iconst (v := (nI 1)) hx hb d_Model_readRule_67 (by decide +kernel) ?_
              refine N_iadd hx hb d_Model_readRule_68 ?_
              refine N_icmp_ne_NN hx hb (by omega) (by omega) (tgt := 80) d_Model_readRule_69 (by decide) (fun c69 => ?_) (fun c69 => ?_)
              · refine lv_iload_n hx hb d_Model_readRule_80 rfl (lv_at hl 2 rfl) ?_
                refine lv_iconst (v := (nI 4)) hx hb d_Model_readRule_81 (by decide +kernel) ?_
                refine W.eq (g2 := F0 m 82 ls (.int (nI 4) :: .int (nI z) :: [])) (by rw [hz]; first | done | rfl) ?_
                refine N_icmp_ne_NN hx hb (by omega) (by decide) (tgt := 101) d_Model_readRule_82 (by decide) (fun c82 => ?_) (fun c82 => ?_)
                · by_cases hi2 : i < tl
                  · refine lv_aload_n hx hb d_Model_readRule_101 rfl (lv_at hl 0 rfl) ?_
                    refine lv_iload_n hx hb d_Model_readRule_102 rfl (lv_at hl 3 rfl) ?_
                    refine R_callV (q0 := 0) (m_byteAt_in l G cI cZ cJ hm mth np ne ns tl mbd gr stt sp sq sec ans rt nw mtd un mss msc mip mcb msco mtim i (by omega) hn) X rfl hW cw_Model_76 ki_Model_byteAt ks_Model_byteAt rfl rfl ⟨rfl, rfl⟩ ⟨by decide, by decide⟩ ⟨Nat.zero_le _, Nat.zero_le _⟩ [true, true, true, true, true, true, true, true, true, true, true, true, true, true, true, true, true] rfl (Nat.le_of_ble_eq_true rfl) rfl rfl hl.1 rfl rfl (Nat.le_of_ble_eq_true rfl) d_Model_readRule_103 rfl (fun H locs hW => ?_)
                    have hW : Wr G A s.heap (w_M hm cI cZ cJ mth np ne ns tl mbd gr stt sp sq sec ans rt nw mtd un mss msc mip mcb msco mtim) H locs := hW
                    have y8 : i < 100 → un i ≤ 255 := hun i
                    refine lv_bipush (v := (nI 59)) hx hb d_Model_readRule_106 (by decide +kernel) ?_
                    refine N_icmp_eq_NN hx hb (by omega) (by decide) (tgt := 119) d_Model_readRule_108 (by decide) (fun c108 => ?_) (fun c108 => ?_)
                    · have hB : rrB un tl x = none := by rw [rrB, hz]; dsimp only; rw [if_neg (by omega), if_neg (by omega), if_neg (by rw [hE]; omega)]
                      have hM : rrM un tl x mbd = mbd := by rw [rrM, hB] <;> rfl
                      have hT : rrT un tl x mtd = va_up mtd z v := by rw [rrT, hB, hz, hV] <;> rfl
                      refine lv_aload_n hx hb d_Model_readRule_119 rfl (lv_at hl 0 rfl) ?_
                      refine R_get X hW i_Model rfl 12 (by decide) kf_Model_35 0 rfl rfl d_Model_readRule_120 ?_
                      refine lv_iload_n hx hb d_Model_readRule_123 rfl (lv_at hl 2 rfl) ?_
                      refine lv_iload hx hb d_Model_readRule_124 (lv_at hl 4 rfl) ?_
                      refine W.eq (g2 := F0 m 126 ls (.int (nI v) :: .int (nI z) :: .ref (hm 9) :: [])) (by rw [hz]; first | done | rfl) ?_
                      refine R_iast X hW (t0 := 0) rfl 9 rfl (k := z) (by omega) (by decide) v rfl d_Model_readRule_126 (fun H locs hW => ?_)
                      have hW : Wr G A s.heap (w_M hm cI cZ cJ mth np ne ns tl mbd gr stt sp sq sec ans rt nw (va_up mtd z v) un mss msc mip mcb msco mtim) H locs := hW
                      refine lv_iload_n hx hb d_Model_readRule_127 rfl (lv_at hl 3 rfl) ?_
                      refine lv_iconst (v := (nI 1)) hx hb d_Model_readRule_128 (by decide +kernel) ?_
                      refine N_iadd hx hb d_Model_readRule_129 ?_
                      exact R_iret X Y hW (by rw [hM, hT]) (by rw [hE]) d_Model_readRule_130
                    · refine lv_aload_n hx hb d_Model_readRule_111 rfl (lv_at hl 0 rfl) ?_
                      refine lv_iload_n hx hb d_Model_readRule_112 rfl (lv_at hl 3 rfl) ?_
                      refine R_put X hW i_Model rfl t_Model t_Model_ok n_Model 15 (by decide) kf_Model_87 rfl (ty := .int) (by decide +kernel) 0 rfl (v := .int (nI i)) rfl rfl (Nat.le_of_ble_eq_true rfl) d_Model_readRule_113 (fun H locs hW => ?_)
                      have hW : Wr G A s.heap (w_M hm cI cZ cJ mth np ne ns tl (some i) gr stt sp sq sec ans rt nw mtd un mss msc mip mcb msco mtim) H locs := hW
                      have hB : rrB un tl x = some i := by rw [rrB, hz]; dsimp only; rw [if_neg (by omega), if_neg (by omega), if_pos (by first | (left; omega) | (right; rw [hE]; exact c108)), hE]
                      have hM : rrM un tl x mbd = some i := by rw [rrM, hB] <;> rfl
                      have hT : rrT un tl x mtd = mtd := by rw [rrT, hB] <;> rfl
                      refine lv_goto (tgt := 127) hx hb d_Model_readRule_116 (by decide) ?_
                      refine lv_iload_n hx hb d_Model_readRule_127 rfl (lv_at hl 3 rfl) ?_
                      refine lv_iconst (v := (nI 1)) hx hb d_Model_readRule_128 (by decide +kernel) ?_
                      refine N_iadd hx hb d_Model_readRule_129 ?_
                      exact R_iret X Y hW (by rw [hM, hT]) (by rw [hE]) d_Model_readRule_130
                  · refine lv_aload_n hx hb d_Model_readRule_101 rfl (lv_at hl 0 rfl) ?_
                    refine lv_iload_n hx hb d_Model_readRule_102 rfl (lv_at hl 3 rfl) ?_
                    refine R_callV (q0 := 0) (m_byteAt_out l G cI cZ cJ hm mth np ne ns tl mbd gr stt sp sq sec ans rt nw mtd un mss msc mip mcb msco mtim i (by omega) (by omega)) X rfl hW cw_Model_76 ki_Model_byteAt ks_Model_byteAt rfl rfl ⟨rfl, rfl⟩ ⟨by decide, by decide⟩ ⟨Nat.zero_le _, Nat.zero_le _⟩ [true, true, true, true, true, true, true, true, true, true, true, true, true, true, true, true, true] rfl (Nat.le_of_ble_eq_true rfl) rfl rfl hl.1 rfl rfl (Nat.le_of_ble_eq_true rfl) d_Model_readRule_103 rfl (fun H locs hW => ?_)
                    have hW : Wr G A s.heap (w_M hm cI cZ cJ mth np ne ns tl mbd gr stt sp sq sec ans rt nw mtd un mss msc mip mcb msco mtim) H locs := hW
                    have y8 : i < 100 → un i ≤ 255 := hun i
                    refine lv_bipush (v := (nI 59)) hx hb d_Model_readRule_106 (by decide +kernel) ?_
                    refine N_icmp_eq_RN hx hb (by decide) (tgt := 119) d_Model_readRule_108 (by decide) (fun c108 => ?_) (fun c108 => ?_)
                    · exfalso; rw [i_Tm1] at c108; omega
                    · refine lv_aload_n hx hb d_Model_readRule_111 rfl (lv_at hl 0 rfl) ?_
                      refine lv_iload_n hx hb d_Model_readRule_112 rfl (lv_at hl 3 rfl) ?_
                      refine R_put X hW i_Model rfl t_Model t_Model_ok n_Model 15 (by decide) kf_Model_87 rfl (ty := .int) (by decide +kernel) 0 rfl (v := .int (nI i)) rfl rfl (Nat.le_of_ble_eq_true rfl) d_Model_readRule_113 (fun H locs hW => ?_)
                      have hW : Wr G A s.heap (w_M hm cI cZ cJ mth np ne ns tl (some i) gr stt sp sq sec ans rt nw mtd un mss msc mip mcb msco mtim) H locs := hW
                      have hB : rrB un tl x = some i := by rw [rrB, hz]; dsimp only; rw [if_neg (by omega), if_neg (by omega), if_pos (by first | (left; omega) | (right; rw [hE]; exact c108)), hE]
                      have hM : rrM un tl x mbd = some i := by rw [rrM, hB] <;> rfl
                      have hT : rrT un tl x mtd = mtd := by rw [rrT, hB] <;> rfl
                      refine lv_goto (tgt := 127) hx hb d_Model_readRule_116 (by decide) ?_
                      refine lv_iload_n hx hb d_Model_readRule_127 rfl (lv_at hl 3 rfl) ?_
                      refine lv_iconst (v := (nI 1)) hx hb d_Model_readRule_128 (by decide +kernel) ?_
                      refine N_iadd hx hb d_Model_readRule_129 ?_
                      exact R_iret X Y hW (by rw [hM, hT]) (by rw [hE]) d_Model_readRule_130
                · refine lv_iload hx hb d_Model_readRule_85 (lv_at hl 4 rfl) ?_
                  refine lv_iconst (v := (nI 1)) hx hb d_Model_readRule_87 (by decide +kernel) ?_
                  refine N_icmp_le_NN hx hb (by omega) (by decide) (tgt := 101) d_Model_readRule_88 (by decide) (fun c88 => ?_) (fun c88 => ?_)
                  · by_cases hi2 : i < tl
                    · refine lv_aload_n hx hb d_Model_readRule_101 rfl (lv_at hl 0 rfl) ?_
                      refine lv_iload_n hx hb d_Model_readRule_102 rfl (lv_at hl 3 rfl) ?_
                      refine R_callV (q0 := 0) (m_byteAt_in l G cI cZ cJ hm mth np ne ns tl mbd gr stt sp sq sec ans rt nw mtd un mss msc mip mcb msco mtim i (by omega) hn) X rfl hW cw_Model_76 ki_Model_byteAt ks_Model_byteAt rfl rfl ⟨rfl, rfl⟩ ⟨by decide, by decide⟩ ⟨Nat.zero_le _, Nat.zero_le _⟩ [true, true, true, true, true, true, true, true, true, true, true, true, true, true, true, true, true] rfl (Nat.le_of_ble_eq_true rfl) rfl rfl hl.1 rfl rfl (Nat.le_of_ble_eq_true rfl) d_Model_readRule_103 rfl (fun H locs hW => ?_)
                      have hW : Wr G A s.heap (w_M hm cI cZ cJ mth np ne ns tl mbd gr stt sp sq sec ans rt nw mtd un mss msc mip mcb msco mtim) H locs := hW
                      have y8 : i < 100 → un i ≤ 255 := hun i
                      refine lv_bipush (v := (nI 59)) hx hb d_Model_readRule_106 (by decide +kernel) ?_
                      refine N_icmp_eq_NN hx hb (by omega) (by decide) (tgt := 119) d_Model_readRule_108 (by decide) (fun c108 => ?_) (fun c108 => ?_)
                      · have hB : rrB un tl x = none := by rw [rrB, hz]; dsimp only; rw [if_neg (by omega), if_neg (by omega), if_neg (by rw [hE]; omega)]
                        have hM : rrM un tl x mbd = mbd := by rw [rrM, hB] <;> rfl
                        have hT : rrT un tl x mtd = va_up mtd z v := by rw [rrT, hB, hz, hV] <;> rfl
                        refine lv_aload_n hx hb d_Model_readRule_119 rfl (lv_at hl 0 rfl) ?_
                        refine R_get X hW i_Model rfl 12 (by decide) kf_Model_35 0 rfl rfl d_Model_readRule_120 ?_
                        refine lv_iload_n hx hb d_Model_readRule_123 rfl (lv_at hl 2 rfl) ?_
                        refine lv_iload hx hb d_Model_readRule_124 (lv_at hl 4 rfl) ?_
                        refine W.eq (g2 := F0 m 126 ls (.int (nI v) :: .int (nI z) :: .ref (hm 9) :: [])) (by rw [hz]; first | done | rfl) ?_
                        refine R_iast X hW (t0 := 0) rfl 9 rfl (k := z) (by omega) (by decide) v rfl d_Model_readRule_126 (fun H locs hW => ?_)
                        have hW : Wr G A s.heap (w_M hm cI cZ cJ mth np ne ns tl mbd gr stt sp sq sec ans rt nw (va_up mtd z v) un mss msc mip mcb msco mtim) H locs := hW
                        refine lv_iload_n hx hb d_Model_readRule_127 rfl (lv_at hl 3 rfl) ?_
                        refine lv_iconst (v := (nI 1)) hx hb d_Model_readRule_128 (by decide +kernel) ?_
                        refine N_iadd hx hb d_Model_readRule_129 ?_
                        exact R_iret X Y hW (by rw [hM, hT]) (by rw [hE]) d_Model_readRule_130
                      · refine lv_aload_n hx hb d_Model_readRule_111 rfl (lv_at hl 0 rfl) ?_
                        refine lv_iload_n hx hb d_Model_readRule_112 rfl (lv_at hl 3 rfl) ?_
                        refine R_put X hW i_Model rfl t_Model t_Model_ok n_Model 15 (by decide) kf_Model_87 rfl (ty := .int) (by decide +kernel) 0 rfl (v := .int (nI i)) rfl rfl (Nat.le_of_ble_eq_true rfl) d_Model_readRule_113 (fun H locs hW => ?_)
                        have hW : Wr G A s.heap (w_M hm cI cZ cJ mth np ne ns tl (some i) gr stt sp sq sec ans rt nw mtd un mss msc mip mcb msco mtim) H locs := hW
                        have hB : rrB un tl x = some i := by rw [rrB, hz]; dsimp only; rw [if_neg (by omega), if_neg (by omega), if_pos (by first | (left; omega) | (right; rw [hE]; exact c108)), hE]
                        have hM : rrM un tl x mbd = some i := by rw [rrM, hB] <;> rfl
                        have hT : rrT un tl x mtd = mtd := by rw [rrT, hB] <;> rfl
                        refine lv_goto (tgt := 127) hx hb d_Model_readRule_116 (by decide) ?_
                        refine lv_iload_n hx hb d_Model_readRule_127 rfl (lv_at hl 3 rfl) ?_
                        refine lv_iconst (v := (nI 1)) hx hb d_Model_readRule_128 (by decide +kernel) ?_
                        refine N_iadd hx hb d_Model_readRule_129 ?_
                        exact R_iret X Y hW (by rw [hM, hT]) (by rw [hE]) d_Model_readRule_130
                    · refine lv_aload_n hx hb d_Model_readRule_101 rfl (lv_at hl 0 rfl) ?_
                      refine lv_iload_n hx hb d_Model_readRule_102 rfl (lv_at hl 3 rfl) ?_
                      refine R_callV (q0 := 0) (m_byteAt_out l G cI cZ cJ hm mth np ne ns tl mbd gr stt sp sq sec ans rt nw mtd un mss msc mip mcb msco mtim i (by omega) (by omega)) X rfl hW cw_Model_76 ki_Model_byteAt ks_Model_byteAt rfl rfl ⟨rfl, rfl⟩ ⟨by decide, by decide⟩ ⟨Nat.zero_le _, Nat.zero_le _⟩ [true, true, true, true, true, true, true, true, true, true, true, true, true, true, true, true, true] rfl (Nat.le_of_ble_eq_true rfl) rfl rfl hl.1 rfl rfl (Nat.le_of_ble_eq_true rfl) d_Model_readRule_103 rfl (fun H locs hW => ?_)
                      have hW : Wr G A s.heap (w_M hm cI cZ cJ mth np ne ns tl mbd gr stt sp sq sec ans rt nw mtd un mss msc mip mcb msco mtim) H locs := hW
                      have y8 : i < 100 → un i ≤ 255 := hun i
                      refine lv_bipush (v := (nI 59)) hx hb d_Model_readRule_106 (by decide +kernel) ?_
                      refine N_icmp_eq_RN hx hb (by decide) (tgt := 119) d_Model_readRule_108 (by decide) (fun c108 => ?_) (fun c108 => ?_)
                      · exfalso; rw [i_Tm1] at c108; omega
                      · refine lv_aload_n hx hb d_Model_readRule_111 rfl (lv_at hl 0 rfl) ?_
                        refine lv_iload_n hx hb d_Model_readRule_112 rfl (lv_at hl 3 rfl) ?_
                        refine R_put X hW i_Model rfl t_Model t_Model_ok n_Model 15 (by decide) kf_Model_87 rfl (ty := .int) (by decide +kernel) 0 rfl (v := .int (nI i)) rfl rfl (Nat.le_of_ble_eq_true rfl) d_Model_readRule_113 (fun H locs hW => ?_)
                        have hW : Wr G A s.heap (w_M hm cI cZ cJ mth np ne ns tl (some i) gr stt sp sq sec ans rt nw mtd un mss msc mip mcb msco mtim) H locs := hW
                        have hB : rrB un tl x = some i := by rw [rrB, hz]; dsimp only; rw [if_neg (by omega), if_neg (by omega), if_pos (by first | (left; omega) | (right; rw [hE]; exact c108)), hE]
                        have hM : rrM un tl x mbd = some i := by rw [rrM, hB] <;> rfl
                        have hT : rrT un tl x mtd = mtd := by rw [rrT, hB] <;> rfl
                        refine lv_goto (tgt := 127) hx hb d_Model_readRule_116 (by decide) ?_
                        refine lv_iload_n hx hb d_Model_readRule_127 rfl (lv_at hl 3 rfl) ?_
                        refine lv_iconst (v := (nI 1)) hx hb d_Model_readRule_128 (by decide +kernel) ?_
                        refine N_iadd hx hb d_Model_readRule_129 ?_
                        exact R_iret X Y hW (by rw [hM, hT]) (by rw [hE]) d_Model_readRule_130
                  · refine lv_aload_n hx hb d_Model_readRule_91 rfl (lv_at hl 0 rfl) ?_
                    refine lv_iload_n hx hb d_Model_readRule_92 rfl (lv_at hl 3 rfl) ?_
                    refine lv_iconst (v := (nI 1)) hx hb d_Model_readRule_93 (by decide +kernel) ?_
                    refine N_isub (r := i - 1) hx hb (by omega) (by omega) d_Model_readRule_94 ?_
                    refine R_put X hW i_Model rfl t_Model t_Model_ok n_Model 15 (by decide) kf_Model_87 rfl (ty := .int) (by decide +kernel) 0 rfl (v := .int (nI (i - 1))) rfl rfl (Nat.le_of_ble_eq_true rfl) d_Model_readRule_95 (fun H locs hW => ?_)
                    have hW : Wr G A s.heap (w_M hm cI cZ cJ mth np ne ns tl (some (i - 1)) gr stt sp sq sec ans rt nw mtd un mss msc mip mcb msco mtim) H locs := hW
                    have hB : rrB un tl x = some (i - 1) := by rw [rrB, hz]; dsimp only; rw [if_neg (by omega), if_pos (by omega), hE]
                    have hM : rrM un tl x mbd = some (i - 1) := by rw [rrM, hB] <;> rfl
                    have hT : rrT un tl x mtd = mtd := by rw [rrT, hB] <;> rfl
                    refine lv_goto (tgt := 127) hx hb d_Model_readRule_98 (by decide) ?_
                    refine lv_iload_n hx hb d_Model_readRule_127 rfl (lv_at hl 3 rfl) ?_
                    refine lv_iconst (v := (nI 1)) hx hb d_Model_readRule_128 (by decide +kernel) ?_
                    refine N_iadd hx hb d_Model_readRule_129 ?_
                    exact R_iret X Y hW (by rw [hM, hT]) (by rw [hE]) d_Model_readRule_130
              · refine lv_aload_n hx hb d_Model_readRule_72 rfl (lv_at hl 0 rfl) ?_
                refine lv_iload_n hx hb d_Model_readRule_73 rfl (lv_at hl 3 rfl) ?_
                refine R_put X hW i_Model rfl t_Model t_Model_ok n_Model 15 (by decide) kf_Model_87 rfl (ty := .int) (by decide +kernel) 0 rfl (v := .int (nI i)) rfl rfl (Nat.le_of_ble_eq_true rfl) d_Model_readRule_74 (fun H locs hW => ?_)
                have hW : Wr G A s.heap (w_M hm cI cZ cJ mth np ne ns tl (some i) gr stt sp sq sec ans rt nw mtd un mss msc mip mcb msco mtim) H locs := hW
                have hB : rrB un tl x = some i := by rw [rrB, hz]; dsimp only; rw [if_pos (by omega), c69]
                have hM : rrM un tl x mbd = some i := by rw [rrM, hB] <;> rfl
                have hT : rrT un tl x mtd = mtd := by rw [rrT, hB] <;> rfl
                refine lv_goto (tgt := 127) hx hb d_Model_readRule_77 (by decide) ?_
                refine lv_iload_n hx hb d_Model_readRule_127 rfl (lv_at hl 3 rfl) ?_
                refine lv_iconst (v := (nI 1)) hx hb d_Model_readRule_128 (by decide +kernel) ?_
                refine N_iadd hx hb d_Model_readRule_129 ?_
                exact R_iret X Y hW (by rw [hM, hT]) (by rw [hE]) d_Model_readRule_130
            · refine lv_aload_n hx hb d_Model_readRule_57 rfl (lv_at hl 0 rfl) ?_
              refine lv_iload_n hx hb d_Model_readRule_58 rfl (lv_at hl 1 rfl) ?_
              refine R_put X hW i_Model rfl t_Model t_Model_ok n_Model 15 (by decide) kf_Model_87 rfl (ty := .int) (by decide +kernel) 0 rfl (v := .int (nI x)) rfl rfl (Nat.le_of_ble_eq_true rfl) d_Model_readRule_59 (fun H locs hW => ?_)
              have hW : Wr G A s.heap (w_M hm cI cZ cJ mth np ne ns tl (some x) gr stt sp sq sec ans rt nw mtd un mss msc mip mcb msco mtim) H locs := hW
              have hB : rrB un tl x = some x := by rw [rrB, c54]
              have hM : rrM un tl x mbd = some x := by rw [rrM, hB] <;> rfl
              have hT : rrT un tl x mtd = mtd := by rw [rrT, hB] <;> rfl
              refine lv_goto (tgt := 127) hx hb d_Model_readRule_62 (by decide) ?_
              refine lv_iload_n hx hb d_Model_readRule_127 rfl (lv_at hl 3 rfl) ?_
              refine lv_iconst (v := (nI 1)) hx hb d_Model_readRule_128 (by decide +kernel) ?_
              refine N_iadd hx hb d_Model_readRule_129 ?_
              exact R_iret X Y hW (by rw [hM, hT]) (by rw [hE]) d_Model_readRule_130
          · refine lv_bipush (v := (nI 10)) hx hb d_Model_readRule_31 (by decide +kernel) ?_
            refine lv_iload hx hb d_Model_readRule_33 (lv_at hl 4 rfl) ?_
            refine N_imul hx hb d_Model_readRule_35 ?_
            refine lv_aload_n hx hb d_Model_readRule_36 rfl (lv_at hl 0 rfl) ?_
            refine lv_iload_n hx hb d_Model_readRule_37 rfl (lv_at hl 3 rfl) ?_
            refine R_callV (q0 := 0) (m_byteAt_in l G cI cZ cJ hm mth np ne ns tl mbd gr stt sp sq sec ans rt nw mtd un mss msc mip mcb msco mtim i (by omega) hn) X rfl hW cw_Model_76 ki_Model_byteAt ks_Model_byteAt rfl rfl ⟨rfl, rfl⟩ ⟨by decide, by decide⟩ ⟨Nat.zero_le _, Nat.zero_le _⟩ [true, true, true, true, true, true, true, true, true, true, true, true, true, true, true, true, true] rfl (Nat.le_of_ble_eq_true rfl) rfl rfl hl.1 rfl rfl (Nat.le_of_ble_eq_true rfl) d_Model_readRule_38 rfl (fun H locs hW => ?_)
            have hW : Wr G A s.heap (w_M hm cI cZ cJ mth np ne ns tl mbd gr stt sp sq sec ans rt nw mtd un mss msc mip mcb msco mtim) H locs := hW
            refine N_iadd hx hb d_Model_readRule_41 ?_
            refine lv_bipush (v := (nI 48)) hx hb d_Model_readRule_42 (by decide +kernel) ?_
            refine N_isub (r := ((10 * v) + (un i)) - 48) hx hb (by simp at c21; omega) (by omega) d_Model_readRule_44 ?_
            refine lv_istore (lv' := [(4, .int (nI (((10 * v) + (un i)) - 48))), (0, .ref (hm 0)), (1, .int (nI x)), (2, .int (oI (letF (un x)))), (3, .int (nI i))]) hx hb d_Model_readRule_45 hl (by decide) rfl (fun ls hl => ?_)
            refine lv_iinc (v := (nI (i + 1))) (lv' := [(3, .int (nI (i + 1))), (4, .int (nI (((10 * v) + (un i)) - 48))), (0, .ref (hm 0)), (1, .int (nI x)), (2, .int (oI (letF (un x))))]) hx hb d_Model_readRule_47 hl (k := 4) rfl (N_inc i) (by decide) rfl (fun ls hl => ?_)
            refine lv_goto (tgt := 16) hx hb d_Model_readRule_50 (by decide) ?_
            exact ih16 (i + 1) (((10 * v) + (un i)) - 48) (by omega) (by omega) (by rw [← he, eodG, if_pos (by simp at c21; omega)]) (by simp at c21; rw [show i + 1 - (x + 1) = (i - (x + 1)) + 1 by omega, num_snoc, ← hv, show x + 1 + (i - (x + 1)) = i by omega]; omega) _ _ hW ls (lv_sub hl [2, 3, 4, 0, 1] rfl)
      · refine lv_aload_n hx hb d_Model_readRule_16 rfl (lv_at hl 0 rfl) ?_
        refine lv_iload_n hx hb d_Model_readRule_17 rfl (lv_at hl 3 rfl) ?_
        refine R_callV (q0 := 0) (m_isDigit_out l G cI cZ cJ hm mth np ne ns tl mbd gr stt sp sq sec ans rt nw mtd un mss msc mip mcb msco mtim i (by omega) (by omega)) X rfl hW cw_Model_83 ki_Model_isDigit ks_Model_isDigit rfl rfl ⟨rfl, rfl⟩ ⟨by decide, by decide⟩ ⟨Nat.zero_le _, Nat.zero_le _⟩ [true, true, true, true, true, true, true, true, true, true, true, true, true, true, true, true, true] rfl (Nat.le_of_ble_eq_true rfl) rfl rfl hl.1 rfl rfl (Nat.le_of_ble_eq_true rfl) d_Model_readRule_18 rfl (fun H locs hW => ?_)
        have hW : Wr G A s.heap (w_M hm cI cZ cJ mth np ne ns tl mbd gr stt sp sq sec ans rt nw mtd un mss msc mip mcb msco mtim) H locs := hW
        refine N_if_eq_B hx hb  (tgt := 53) d_Model_readRule_21 (by decide) (fun c21 => ?_) (fun c21 => ?_)
        · have hE : eoF un tl x = i := by rw [← he, eodG, if_neg (by first | omega | (simp at c21; omega))]
          have hV : nuF un tl x = v := by rw [hv, ← hE]; rfl
          have q9 : nuF un tl x ≤ 9999 := nuF_le
          refine lv_iload_n hx hb d_Model_readRule_53 rfl (lv_at hl 2 rfl) ?_
          refine N_if_ge_O hx hb (fun z hz => by have := let_lt hz; omega) (tgt := 65) d_Model_readRule_54 (by decide) (fun c54 => ?_) (fun c54 => ?_)
          · obtain ⟨z, hz⟩ : ∃ z, letF (un x) = some z := by cases hq : letF (un x) with | none => exact absurd hq c54 | some z => exact ⟨z, rfl⟩
            have hz5 := let_lt hz
            refine lv_iload_n hx hb d_Model_readRule_65 rfl (lv_at hl 3 rfl) ?_
            refine lv_iload_n hx hb d_Model_readRule_66 rfl (lv_at hl 1 rfl) ?_
            refine lv_iconst (v := (nI 1)) hx hb d_Model_readRule_67 (by decide +kernel) ?_
            refine N_iadd hx hb d_Model_readRule_68 ?_
            refine N_icmp_ne_NN hx hb (by omega) (by omega) (tgt := 80) d_Model_readRule_69 (by decide) (fun c69 => ?_) (fun c69 => ?_)
            · refine lv_iload_n hx hb d_Model_readRule_80 rfl (lv_at hl 2 rfl) ?_
              refine lv_iconst (v := (nI 4)) hx hb d_Model_readRule_81 (by decide +kernel) ?_
              refine W.eq (g2 := F0 m 82 ls (.int (nI 4) :: .int (nI z) :: [])) (by rw [hz]; first | done | rfl) ?_
              refine N_icmp_ne_NN hx hb (by omega) (by decide) (tgt := 101) d_Model_readRule_82 (by decide) (fun c82 => ?_) (fun c82 => ?_)
              · by_cases hi2 : i < tl
                · refine lv_aload_n hx hb d_Model_readRule_101 rfl (lv_at hl 0 rfl) ?_
                  refine lv_iload_n hx hb d_Model_readRule_102 rfl (lv_at hl 3 rfl) ?_
                  refine R_callV (q0 := 0) (m_byteAt_in l G cI cZ cJ hm mth np ne ns tl mbd gr stt sp sq sec ans rt nw mtd un mss msc mip mcb msco mtim i (by omega) hn) X rfl hW cw_Model_76 ki_Model_byteAt ks_Model_byteAt rfl rfl ⟨rfl, rfl⟩ ⟨by decide, by decide⟩ ⟨Nat.zero_le _, Nat.zero_le _⟩ [true, true, true, true, true, true, true, true, true, true, true, true, true, true, true, true, true] rfl (Nat.le_of_ble_eq_true rfl) rfl rfl hl.1 rfl rfl (Nat.le_of_ble_eq_true rfl) d_Model_readRule_103 rfl (fun H locs hW => ?_)
                  have hW : Wr G A s.heap (w_M hm cI cZ cJ mth np ne ns tl mbd gr stt sp sq sec ans rt nw mtd un mss msc mip mcb msco mtim) H locs := hW
                  have y8 : i < 100 → un i ≤ 255 := hun i
                  refine lv_bipush (v := (nI 59)) hx hb d_Model_readRule_106 (by decide +kernel) ?_
                  refine N_icmp_eq_NN hx hb (by omega) (by decide) (tgt := 119) d_Model_readRule_108 (by decide) (fun c108 => ?_) (fun c108 => ?_)
                  · have hB : rrB un tl x = none := by rw [rrB, hz]; dsimp only; rw [if_neg (by omega), if_neg (by omega), if_neg (by rw [hE]; omega)]
                    have hM : rrM un tl x mbd = mbd := by rw [rrM, hB] <;> rfl
                    have hT : rrT un tl x mtd = va_up mtd z v := by rw [rrT, hB, hz, hV] <;> rfl
                    refine lv_aload_n hx hb d_Model_readRule_119 rfl (lv_at hl 0 rfl) ?_
                    refine R_get X hW i_Model rfl 12 (by decide) kf_Model_35 0 rfl rfl d_Model_readRule_120 ?_
                    refine lv_iload_n hx hb d_Model_readRule_123 rfl (lv_at hl 2 rfl) ?_
                    refine lv_iload hx hb d_Model_readRule_124 (lv_at hl 4 rfl) ?_
                    refine W.eq (g2 := F0 m 126 ls (.int (nI v) :: .int (nI z) :: .ref (hm 9) :: [])) (by rw [hz]; first | done | rfl) ?_
                    refine R_iast X hW (t0 := 0) rfl 9 rfl (k := z) (by omega) (by decide) v rfl d_Model_readRule_126 (fun H locs hW => ?_)
                    have hW : Wr G A s.heap (w_M hm cI cZ cJ mth np ne ns tl mbd gr stt sp sq sec ans rt nw (va_up mtd z v) un mss msc mip mcb msco mtim) H locs := hW
                    refine lv_iload_n hx hb d_Model_readRule_127 rfl (lv_at hl 3 rfl) ?_
                    refine lv_iconst (v := (nI 1)) hx hb d_Model_readRule_128 (by decide +kernel) ?_
                    refine N_iadd hx hb d_Model_readRule_129 ?_
                    exact R_iret X Y hW (by rw [hM, hT]) (by rw [hE]) d_Model_readRule_130
                  · refine lv_aload_n hx hb d_Model_readRule_111 rfl (lv_at hl 0 rfl) ?_
                    refine lv_iload_n hx hb d_Model_readRule_112 rfl (lv_at hl 3 rfl) ?_
                    refine R_put X hW i_Model rfl t_Model t_Model_ok n_Model 15 (by decide) kf_Model_87 rfl (ty := .int) (by decide +kernel) 0 rfl (v := .int (nI i)) rfl rfl (Nat.le_of_ble_eq_true rfl) d_Model_readRule_113 (fun H locs hW => ?_)
                    have hW : Wr G A s.heap (w_M hm cI cZ cJ mth np ne ns tl (some i) gr stt sp sq sec ans rt nw mtd un mss msc mip mcb msco mtim) H locs := hW
                    have hB : rrB un tl x = some i := by rw [rrB, hz]; dsimp only; rw [if_neg (by omega), if_neg (by omega), if_pos (by first | (left; omega) | (right; rw [hE]; exact c108)), hE]
                    have hM : rrM un tl x mbd = some i := by rw [rrM, hB] <;> rfl
                    have hT : rrT un tl x mtd = mtd := by rw [rrT, hB] <;> rfl
                    refine lv_goto (tgt := 127) hx hb d_Model_readRule_116 (by decide) ?_
                    refine lv_iload_n hx hb d_Model_readRule_127 rfl (lv_at hl 3 rfl) ?_
                    refine lv_iconst (v := (nI 1)) hx hb d_Model_readRule_128 (by decide +kernel) ?_
                    refine N_iadd hx hb d_Model_readRule_129 ?_
                    exact R_iret X Y hW (by rw [hM, hT]) (by rw [hE]) d_Model_readRule_130
                · refine lv_aload_n hx hb d_Model_readRule_101 rfl (lv_at hl 0 rfl) ?_
                  refine lv_iload_n hx hb d_Model_readRule_102 rfl (lv_at hl 3 rfl) ?_
                  refine R_callV (q0 := 0) (m_byteAt_out l G cI cZ cJ hm mth np ne ns tl mbd gr stt sp sq sec ans rt nw mtd un mss msc mip mcb msco mtim i (by omega) (by omega)) X rfl hW cw_Model_76 ki_Model_byteAt ks_Model_byteAt rfl rfl ⟨rfl, rfl⟩ ⟨by decide, by decide⟩ ⟨Nat.zero_le _, Nat.zero_le _⟩ [true, true, true, true, true, true, true, true, true, true, true, true, true, true, true, true, true] rfl (Nat.le_of_ble_eq_true rfl) rfl rfl hl.1 rfl rfl (Nat.le_of_ble_eq_true rfl) d_Model_readRule_103 rfl (fun H locs hW => ?_)
                  have hW : Wr G A s.heap (w_M hm cI cZ cJ mth np ne ns tl mbd gr stt sp sq sec ans rt nw mtd un mss msc mip mcb msco mtim) H locs := hW
                  have y8 : i < 100 → un i ≤ 255 := hun i
                  refine lv_bipush (v := (nI 59)) hx hb d_Model_readRule_106 (by decide +kernel) ?_
                  refine N_icmp_eq_RN hx hb (by decide) (tgt := 119) d_Model_readRule_108 (by decide) (fun c108 => ?_) (fun c108 => ?_)
                  · exfalso; rw [i_Tm1] at c108; omega
                  · refine lv_aload_n hx hb d_Model_readRule_111 rfl (lv_at hl 0 rfl) ?_
                    refine lv_iload_n hx hb d_Model_readRule_112 rfl (lv_at hl 3 rfl) ?_
                    refine R_put X hW i_Model rfl t_Model t_Model_ok n_Model 15 (by decide) kf_Model_87 rfl (ty := .int) (by decide +kernel) 0 rfl (v := .int (nI i)) rfl rfl (Nat.le_of_ble_eq_true rfl) d_Model_readRule_113 (fun H locs hW => ?_)
                    have hW : Wr G A s.heap (w_M hm cI cZ cJ mth np ne ns tl (some i) gr stt sp sq sec ans rt nw mtd un mss msc mip mcb msco mtim) H locs := hW
                    have hB : rrB un tl x = some i := by rw [rrB, hz]; dsimp only; rw [if_neg (by omega), if_neg (by omega), if_pos (by first | (left; omega) | (right; rw [hE]; exact c108)), hE]
                    have hM : rrM un tl x mbd = some i := by rw [rrM, hB] <;> rfl
                    have hT : rrT un tl x mtd = mtd := by rw [rrT, hB] <;> rfl
                    refine lv_goto (tgt := 127) hx hb d_Model_readRule_116 (by decide) ?_
                    refine lv_iload_n hx hb d_Model_readRule_127 rfl (lv_at hl 3 rfl) ?_
                    refine lv_iconst (v := (nI 1)) hx hb d_Model_readRule_128 (by decide +kernel) ?_
                    refine N_iadd hx hb d_Model_readRule_129 ?_
                    exact R_iret X Y hW (by rw [hM, hT]) (by rw [hE]) d_Model_readRule_130
              · refine lv_iload hx hb d_Model_readRule_85 (lv_at hl 4 rfl) ?_
                refine lv_iconst (v := (nI 1)) hx hb d_Model_readRule_87 (by decide +kernel) ?_
                refine N_icmp_le_NN hx hb (by omega) (by decide) (tgt := 101) d_Model_readRule_88 (by decide) (fun c88 => ?_) (fun c88 => ?_)
                · by_cases hi2 : i < tl
                  · refine lv_aload_n hx hb d_Model_readRule_101 rfl (lv_at hl 0 rfl) ?_
                    refine lv_iload_n hx hb d_Model_readRule_102 rfl (lv_at hl 3 rfl) ?_
                    refine R_callV (q0 := 0) (m_byteAt_in l G cI cZ cJ hm mth np ne ns tl mbd gr stt sp sq sec ans rt nw mtd un mss msc mip mcb msco mtim i (by omega) hn) X rfl hW cw_Model_76 ki_Model_byteAt ks_Model_byteAt rfl rfl ⟨rfl, rfl⟩ ⟨by decide, by decide⟩ ⟨Nat.zero_le _, Nat.zero_le _⟩ [true, true, true, true, true, true, true, true, true, true, true, true, true, true, true, true, true] rfl (Nat.le_of_ble_eq_true rfl) rfl rfl hl.1 rfl rfl (Nat.le_of_ble_eq_true rfl) d_Model_readRule_103 rfl (fun H locs hW => ?_)
                    have hW : Wr G A s.heap (w_M hm cI cZ cJ mth np ne ns tl mbd gr stt sp sq sec ans rt nw mtd un mss msc mip mcb msco mtim) H locs := hW
                    have y8 : i < 100 → un i ≤ 255 := hun i
                    refine lv_bipush (v := (nI 59)) hx hb d_Model_readRule_106 (by decide +kernel) ?_
                    refine N_icmp_eq_NN hx hb (by omega) (by decide) (tgt := 119) d_Model_readRule_108 (by decide) (fun c108 => ?_) (fun c108 => ?_)
                    · have hB : rrB un tl x = none := by rw [rrB, hz]; dsimp only; rw [if_neg (by omega), if_neg (by omega), if_neg (by rw [hE]; omega)]
                      have hM : rrM un tl x mbd = mbd := by rw [rrM, hB] <;> rfl
                      have hT : rrT un tl x mtd = va_up mtd z v := by rw [rrT, hB, hz, hV] <;> rfl
                      refine lv_aload_n hx hb d_Model_readRule_119 rfl (lv_at hl 0 rfl) ?_
                      refine R_get X hW i_Model rfl 12 (by decide) kf_Model_35 0 rfl rfl d_Model_readRule_120 ?_
                      refine lv_iload_n hx hb d_Model_readRule_123 rfl (lv_at hl 2 rfl) ?_
                      refine lv_iload hx hb d_Model_readRule_124 (lv_at hl 4 rfl) ?_
                      refine W.eq (g2 := F0 m 126 ls (.int (nI v) :: .int (nI z) :: .ref (hm 9) :: [])) (by rw [hz]; first | done | rfl) ?_
                      refine R_iast X hW (t0 := 0) rfl 9 rfl (k := z) (by omega) (by decide) v rfl d_Model_readRule_126 (fun H locs hW => ?_)
                      have hW : Wr G A s.heap (w_M hm cI cZ cJ mth np ne ns tl mbd gr stt sp sq sec ans rt nw (va_up mtd z v) un mss msc mip mcb msco mtim) H locs := hW
                      refine lv_iload_n hx hb d_Model_readRule_127 rfl (lv_at hl 3 rfl) ?_
                      refine lv_iconst (v := (nI 1)) hx hb d_Model_readRule_128 (by decide +kernel) ?_
                      refine N_iadd hx hb d_Model_readRule_129 ?_
                      exact R_iret X Y hW (by rw [hM, hT]) (by rw [hE]) d_Model_readRule_130
                    · refine lv_aload_n hx hb d_Model_readRule_111 rfl (lv_at hl 0 rfl) ?_
                      refine lv_iload_n hx hb d_Model_readRule_112 rfl (lv_at hl 3 rfl) ?_
                      refine R_put X hW i_Model rfl t_Model t_Model_ok n_Model 15 (by decide) kf_Model_87 rfl (ty := .int) (by decide +kernel) 0 rfl (v := .int (nI i)) rfl rfl (Nat.le_of_ble_eq_true rfl) d_Model_readRule_113 (fun H locs hW => ?_)
                      have hW : Wr G A s.heap (w_M hm cI cZ cJ mth np ne ns tl (some i) gr stt sp sq sec ans rt nw mtd un mss msc mip mcb msco mtim) H locs := hW
                      have hB : rrB un tl x = some i := by rw [rrB, hz]; dsimp only; rw [if_neg (by omega), if_neg (by omega), if_pos (by first | (left; omega) | (right; rw [hE]; exact c108)), hE]
                      have hM : rrM un tl x mbd = some i := by rw [rrM, hB] <;> rfl
                      have hT : rrT un tl x mtd = mtd := by rw [rrT, hB] <;> rfl
                      refine lv_goto (tgt := 127) hx hb d_Model_readRule_116 (by decide) ?_
                      refine lv_iload_n hx hb d_Model_readRule_127 rfl (lv_at hl 3 rfl) ?_
                      refine lv_iconst (v := (nI 1)) hx hb d_Model_readRule_128 (by decide +kernel) ?_
                      refine N_iadd hx hb d_Model_readRule_129 ?_
                      exact R_iret X Y hW (by rw [hM, hT]) (by rw [hE]) d_Model_readRule_130
                  · refine lv_aload_n hx hb d_Model_readRule_101 rfl (lv_at hl 0 rfl) ?_
                    refine lv_iload_n hx hb d_Model_readRule_102 rfl (lv_at hl 3 rfl) ?_
                    refine R_callV (q0 := 0) (m_byteAt_out l G cI cZ cJ hm mth np ne ns tl mbd gr stt sp sq sec ans rt nw mtd un mss msc mip mcb msco mtim i (by omega) (by omega)) X rfl hW cw_Model_76 ki_Model_byteAt ks_Model_byteAt rfl rfl ⟨rfl, rfl⟩ ⟨by decide, by decide⟩ ⟨Nat.zero_le _, Nat.zero_le _⟩ [true, true, true, true, true, true, true, true, true, true, true, true, true, true, true, true, true] rfl (Nat.le_of_ble_eq_true rfl) rfl rfl hl.1 rfl rfl (Nat.le_of_ble_eq_true rfl) d_Model_readRule_103 rfl (fun H locs hW => ?_)
                    have hW : Wr G A s.heap (w_M hm cI cZ cJ mth np ne ns tl mbd gr stt sp sq sec ans rt nw mtd un mss msc mip mcb msco mtim) H locs := hW
                    have y8 : i < 100 → un i ≤ 255 := hun i
                    refine lv_bipush (v := (nI 59)) hx hb d_Model_readRule_106 (by decide +kernel) ?_
                    refine N_icmp_eq_RN hx hb (by decide) (tgt := 119) d_Model_readRule_108 (by decide) (fun c108 => ?_) (fun c108 => ?_)
                    · exfalso; rw [i_Tm1] at c108; omega
                    · refine lv_aload_n hx hb d_Model_readRule_111 rfl (lv_at hl 0 rfl) ?_
                      refine lv_iload_n hx hb d_Model_readRule_112 rfl (lv_at hl 3 rfl) ?_
                      refine R_put X hW i_Model rfl t_Model t_Model_ok n_Model 15 (by decide) kf_Model_87 rfl (ty := .int) (by decide +kernel) 0 rfl (v := .int (nI i)) rfl rfl (Nat.le_of_ble_eq_true rfl) d_Model_readRule_113 (fun H locs hW => ?_)
                      have hW : Wr G A s.heap (w_M hm cI cZ cJ mth np ne ns tl (some i) gr stt sp sq sec ans rt nw mtd un mss msc mip mcb msco mtim) H locs := hW
                      have hB : rrB un tl x = some i := by rw [rrB, hz]; dsimp only; rw [if_neg (by omega), if_neg (by omega), if_pos (by first | (left; omega) | (right; rw [hE]; exact c108)), hE]
                      have hM : rrM un tl x mbd = some i := by rw [rrM, hB] <;> rfl
                      have hT : rrT un tl x mtd = mtd := by rw [rrT, hB] <;> rfl
                      refine lv_goto (tgt := 127) hx hb d_Model_readRule_116 (by decide) ?_
                      refine lv_iload_n hx hb d_Model_readRule_127 rfl (lv_at hl 3 rfl) ?_
                      refine lv_iconst (v := (nI 1)) hx hb d_Model_readRule_128 (by decide +kernel) ?_
                      refine N_iadd hx hb d_Model_readRule_129 ?_
                      exact R_iret X Y hW (by rw [hM, hT]) (by rw [hE]) d_Model_readRule_130
                · refine lv_aload_n hx hb d_Model_readRule_91 rfl (lv_at hl 0 rfl) ?_
                  refine lv_iload_n hx hb d_Model_readRule_92 rfl (lv_at hl 3 rfl) ?_
                  refine lv_iconst (v := (nI 1)) hx hb d_Model_readRule_93 (by decide +kernel) ?_
                  refine N_isub (r := i - 1) hx hb (by omega) (by omega) d_Model_readRule_94 ?_
                  refine R_put X hW i_Model rfl t_Model t_Model_ok n_Model 15 (by decide) kf_Model_87 rfl (ty := .int) (by decide +kernel) 0 rfl (v := .int (nI (i - 1))) rfl rfl (Nat.le_of_ble_eq_true rfl) d_Model_readRule_95 (fun H locs hW => ?_)
                  have hW : Wr G A s.heap (w_M hm cI cZ cJ mth np ne ns tl (some (i - 1)) gr stt sp sq sec ans rt nw mtd un mss msc mip mcb msco mtim) H locs := hW
                  have hB : rrB un tl x = some (i - 1) := by rw [rrB, hz]; dsimp only; rw [if_neg (by omega), if_pos (by omega), hE]
                  have hM : rrM un tl x mbd = some (i - 1) := by rw [rrM, hB] <;> rfl
                  have hT : rrT un tl x mtd = mtd := by rw [rrT, hB] <;> rfl
                  refine lv_goto (tgt := 127) hx hb d_Model_readRule_98 (by decide) ?_
                  refine lv_iload_n hx hb d_Model_readRule_127 rfl (lv_at hl 3 rfl) ?_
                  refine lv_iconst (v := (nI 1)) hx hb d_Model_readRule_128 (by decide +kernel) ?_
                  refine N_iadd hx hb d_Model_readRule_129 ?_
                  exact R_iret X Y hW (by rw [hM, hT]) (by rw [hE]) d_Model_readRule_130
            · refine lv_aload_n hx hb d_Model_readRule_72 rfl (lv_at hl 0 rfl) ?_
              refine lv_iload_n hx hb d_Model_readRule_73 rfl (lv_at hl 3 rfl) ?_
              refine R_put X hW i_Model rfl t_Model t_Model_ok n_Model 15 (by decide) kf_Model_87 rfl (ty := .int) (by decide +kernel) 0 rfl (v := .int (nI i)) rfl rfl (Nat.le_of_ble_eq_true rfl) d_Model_readRule_74 (fun H locs hW => ?_)
              have hW : Wr G A s.heap (w_M hm cI cZ cJ mth np ne ns tl (some i) gr stt sp sq sec ans rt nw mtd un mss msc mip mcb msco mtim) H locs := hW
              have hB : rrB un tl x = some i := by rw [rrB, hz]; dsimp only; rw [if_pos (by omega), c69]
              have hM : rrM un tl x mbd = some i := by rw [rrM, hB] <;> rfl
              have hT : rrT un tl x mtd = mtd := by rw [rrT, hB] <;> rfl
              refine lv_goto (tgt := 127) hx hb d_Model_readRule_77 (by decide) ?_
              refine lv_iload_n hx hb d_Model_readRule_127 rfl (lv_at hl 3 rfl) ?_
              refine lv_iconst (v := (nI 1)) hx hb d_Model_readRule_128 (by decide +kernel) ?_
              refine N_iadd hx hb d_Model_readRule_129 ?_
              exact R_iret X Y hW (by rw [hM, hT]) (by rw [hE]) d_Model_readRule_130
          · refine lv_aload_n hx hb d_Model_readRule_57 rfl (lv_at hl 0 rfl) ?_
            refine lv_iload_n hx hb d_Model_readRule_58 rfl (lv_at hl 1 rfl) ?_
            refine R_put X hW i_Model rfl t_Model t_Model_ok n_Model 15 (by decide) kf_Model_87 rfl (ty := .int) (by decide +kernel) 0 rfl (v := .int (nI x)) rfl rfl (Nat.le_of_ble_eq_true rfl) d_Model_readRule_59 (fun H locs hW => ?_)
            have hW : Wr G A s.heap (w_M hm cI cZ cJ mth np ne ns tl (some x) gr stt sp sq sec ans rt nw mtd un mss msc mip mcb msco mtim) H locs := hW
            have hB : rrB un tl x = some x := by rw [rrB, c54]
            have hM : rrM un tl x mbd = some x := by rw [rrM, hB] <;> rfl
            have hT : rrT un tl x mtd = mtd := by rw [rrT, hB] <;> rfl
            refine lv_goto (tgt := 127) hx hb d_Model_readRule_62 (by decide) ?_
            refine lv_iload_n hx hb d_Model_readRule_127 rfl (lv_at hl 3 rfl) ?_
            refine lv_iconst (v := (nI 1)) hx hb d_Model_readRule_128 (by decide +kernel) ?_
            refine N_iadd hx hb d_Model_readRule_129 ?_
            exact R_iret X Y hW (by rw [hM, hT]) (by rw [hE]) d_Model_readRule_130
        · cases c21
  exact L16 5 (x + 1) 0 (by omega) (by omega) rfl (by rw [Nat.sub_self]; rfl) _ _ hW ls (lv_sub hl [3, 4, 2, 1, 0] rfl)

theorem kb_Model_readRule : Cond.code y_Model_readRule b_Model_readRule 5 (some .int) ∈ TBL := TBL_t (List.mem_append_right _ (List.mem_append_right _ (List.mem_of_getElem? (i := 103) rfl))) rfl
theorem km_Model_90 : Cond.methodLink "ContestRowsModel" 90 y_Model_readRule ∈ TBL := TBL_t (List.mem_append_right _ (List.mem_append_right _ (List.mem_of_getElem? (i := 100) rfl))) rfl
theorem cw_Model_90 : Cw "ContestRowsModel" 90 y_Model_readRule b_Model_readRule 5 (some .int) 1 := ⟨kb_Model_readRule, kn_Model, km_Model_90, by decide +kernel⟩
theorem ki_Model_readRule : Cond.instanceMethod y_Model_readRule ∈ TBL := TBL_t (List.mem_append_right _ (List.mem_append_right _ (List.mem_of_getElem? (i := 102) rfl))) rfl
theorem ks_Model_readRule : Cond.selects "ContestRowsModel" y_Model_readRule y_Model_readRule ∈ TBL := TBL_in (List.mem_append_left _ (List.mem_map.mpr ⟨(y_Model_readRule, 22), by decide +kernel, rfl⟩)) rfl
set_option maxHeartbeats 4000000 in
set_option maxRecDepth 100000 in
theorem m_rules (l : Launch) (G : va_G) (cI cZ cJ : ClassId) (hm : Nat → Nat) (mth : Nat) (np : Nat) (ne : Nat) (ns : Nat) (tl : Nat) (mbd : Option Nat) (gr : Nat → Nat) (stt : Nat → Option Nat) (sp : Nat → Nat) (sq : Nat → Nat) (sec : Nat → Nat) (ans : Nat → Nat) (rt : Nat → Bool) (nw : Nat → Nat) (mtd : Nat → Nat) (un : Nat → Nat) (mss : Nat → Nat) (msc : Nat → Nat) (mip : Nat → Bool) (mcb : Nat → Bool) (msco : Nat → Nat) (mtim : Nat → Nat)  (htl : tl ≤ 100) (hun : ∀ i, i < 100 → un i ≤ 255) : Ct l G (tyL cI cZ cJ) y_Model_rules b_Model_rules 3 (some .int) (rmL 3) [.ref (hm 0)] (w_M hm cI cZ cJ mth np ne ns tl mbd gr stt sp sq sec ans rt nw mtd un mss msc mip mcb msco mtim) (some (.int (rdR (rdG un tl 101 0 0 (upG nw 5 mtd)).1))) (w_M hm cI cZ cJ 0 np ne ns 0 (bdM (rdG un tl 101 0 0 (upG nw 5 mtd))) gr stt sp sq sec ans rt (nwM (rdG un tl 101 0 0 (upG nw 5 mtd)) nw) ((rdG un tl 101 0 0 (upG nw 5 mtd)).2) un mss msc mip mcb msco mtim) := by
  refine M_start (by decide) (Nat.le_of_ble_eq_true rfl) ?_
  intro p e s m args below meth c A Q ls X Y hW hl
  have hx := X.1.1
  have hb := X.1.2.1
  have hl : lv_has ls 3 [(0, .ref (hm 0))] := hl
  refine lv_aload_n hx hb d_Model_rules_0 rfl (lv_at hl 0 rfl) ?_
  refine lv_iconst (v := (nI 0)) hx hb d_Model_rules_1 (by decide +kernel) ?_
  refine R_put X hW i_Model rfl t_Model t_Model_ok n_Model 0 (by decide) kf_Model_60 rfl (ty := .int) (by decide +kernel) 0 rfl (v := .int (nI 0)) rfl rfl (Nat.le_of_ble_eq_true rfl) d_Model_rules_2 (fun H locs hW => ?_)
  have hW : Wr G A s.heap (w_M hm cI cZ cJ 0 np ne ns tl mbd gr stt sp sq sec ans rt nw mtd un mss msc mip mcb msco mtim) H locs := hW
  refine lv_aload_n hx hb d_Model_rules_5 rfl (lv_at hl 0 rfl) ?_
  refine lv_iconst (v := (-1)) hx hb d_Model_rules_6 (by decide +kernel) ?_
  refine R_put X hW i_Model rfl t_Model t_Model_ok n_Model 15 (by decide) kf_Model_87 rfl (ty := .int) (by decide +kernel) 0 rfl (v := .int (-1)) rfl rfl (Nat.le_of_ble_eq_true rfl) d_Model_rules_7 (fun H locs hW => ?_)
  have hW : Wr G A s.heap (w_M hm cI cZ cJ 0 np ne ns tl none gr stt sp sq sec ans rt nw mtd un mss msc mip mcb msco mtim) H locs := hW
  refine lv_iconst (v := (nI 0)) hx hb d_Model_rules_10 (by decide +kernel) ?_
  refine lv_istore_n (lv' := [(1, .int (nI 0)), (0, .ref (hm 0))]) hx hb d_Model_rules_11 rfl hl (by decide) rfl (fun ls hl => ?_)
  refine lv_iconst (v := (nI 0)) hx hb d_Model_rules_12 (by decide +kernel) ?_
  refine lv_istore_n (lv' := [(2, .int (nI 0)), (1, .int (nI 0)), (0, .ref (hm 0))]) hx hb d_Model_rules_13 rfl hl (by decide) rfl (fun ls hl => ?_)
  have L14 : ∀ (n : Nat) (i : Nat) (hi : i + n = 5) (H : Heap) (locs : List Loc) (hW : Wr G A s.heap (w_M hm cI cZ cJ 0 np ne ns tl none gr stt sp sq sec ans rt nw (upG nw i mtd) un mss msc mip mcb msco mtim) H locs) (ls : Array Slot) (hl : lv_has ls 3 [(0, .ref (hm 0)), (1, .int (nI 0)), (2, .int (nI i))]), W p l e (rmL 3) s m args below meth c H locs 0 0 Q (F0 m 14 ls []) := by
    intro n
    induction n with
    | zero =>
      intro i hi H locs hW ls hl
      refine lv_iload_n hx hb d_Model_rules_14 rfl (lv_at hl 2 rfl) ?_
      refine lv_iconst (v := (nI 5)) hx hb d_Model_rules_15 (by decide +kernel) ?_
      refine N_icmp_ge_NN hx hb (by omega) (by decide) (tgt := 37) d_Model_rules_16 (by decide) (fun c16 => ?_) (fun c16 => ?_)
      · have e9 : 5 = i := by omega
        subst e9
        refine lv_iconst (v := (nI 0)) hx hb d_Model_rules_37 (by decide +kernel) ?_
        refine lv_istore_n (lv' := [(2, .int (nI 0)), (0, .ref (hm 0)), (1, .int (nI 0))]) hx hb d_Model_rules_38 rfl hl (by decide) rfl (fun ls hl => ?_)
        have L39 : ∀ (n2 : Nat) (r : Nat) (j : Nat) (bd : Option Nat) (f : Nat → Nat) (hj : j ≤ 110) (hm0 : tl - j < n2) (hbb : ∀ q, bd = some q → q ≤ 200) (hbd : (bd = none ∧ rdG un tl n2 r j f = rdG un tl 101 0 0 (upG nw 5 mtd)) ∨ (∃ q, bd = some q ∧ rdG un tl 101 0 0 (upG nw 5 mtd) = (.inr q, f))) (H : Heap) (locs : List Loc) (hW : Wr G A s.heap (w_M hm cI cZ cJ 0 np ne ns tl bd gr stt sp sq sec ans rt nw f un mss msc mip mcb msco mtim) H locs) (ls : Array Slot) (hl : lv_has ls 3 [(0, .ref (hm 0)), (1, .int (nI r)), (2, .int (nI j))]), W p l e (rmL 3) s m args below meth c H locs 0 0 Q (F0 m 39 ls []) := by
          intro n2
          induction n2 with
          | zero =>
            intro r j bd f hj hm0 hbb hbd H locs hW ls hl
            exfalso; omega
          | succ n2 ih39 =>
            intro r j bd f hj hm0 hbb hbd H locs hW ls hl
            refine lv_iload_n hx hb d_Model_rules_39 rfl (lv_at hl 2 rfl) ?_
            refine lv_aload_n hx hb d_Model_rules_40 rfl (lv_at hl 0 rfl) ?_
            refine R_get X hW i_Model rfl 13 (by decide) kf_Model_73 0 rfl rfl d_Model_rules_41 ?_
            refine N_icmp_ge_NN hx hb (by omega) (by omega) (tgt := 66) d_Model_rules_44 (by decide) (fun c44 => ?_) (fun c44 => ?_)
            · refine lv_aload_n hx hb d_Model_rules_66 rfl (lv_at hl 0 rfl) ?_
              refine lv_iconst (v := (nI 0)) hx hb d_Model_rules_67 (by decide +kernel) ?_
              refine R_put X hW i_Model rfl t_Model t_Model_ok n_Model 13 (by decide) kf_Model_73 rfl (ty := .int) (by decide +kernel) 0 rfl (v := .int (nI 0)) rfl rfl (Nat.le_of_ble_eq_true rfl) d_Model_rules_68 (fun H locs hW => ?_)
              have hW : Wr G A s.heap (w_M hm cI cZ cJ 0 np ne ns 0 bd gr stt sp sq sec ans rt nw f un mss msc mip mcb msco mtim) H locs := hW
              refine lv_aload_n hx hb d_Model_rules_71 rfl (lv_at hl 0 rfl) ?_
              refine R_get X hW i_Model rfl 15 (by decide) kf_Model_87 0 rfl rfl d_Model_rules_72 ?_
              refine N_if_lt_O hx hb (fun q hq => by have := hbb q hq; omega) (tgt := 85) d_Model_rules_75 (by decide) (fun c75 => ?_) (fun c75 => ?_)
              · have hRD : rdG un tl 101 0 0 (upG nw 5 mtd) = (.inl r, f) := by first | exact absurd c75 c51 | (rcases hbd with ⟨_, q⟩ | ⟨p, q, _⟩; (rw [← q, rdG, if_pos (by omega)]); (rw [q] at c75; cases c75))
                refine lv_iconst (v := (nI 0)) hx hb d_Model_rules_85 (by decide +kernel) ?_
                refine lv_istore_n (lv' := [(2, .int (nI 0)), (0, .ref (hm 0)), (1, .int (nI r))]) hx hb d_Model_rules_86 rfl hl (by decide) rfl (fun ls hl => ?_)
                have L87 : ∀ (n3 : Nat) (k2 : Nat) (hk2 : k2 + n3 = 5) (H : Heap) (locs : List Loc) (hW : Wr G A s.heap (w_M hm cI cZ cJ 0 np ne ns 0 bd gr stt sp sq sec ans rt (upG f k2 nw) f un mss msc mip mcb msco mtim) H locs) (ls : Array Slot) (hl : lv_has ls 3 [(0, .ref (hm 0)), (1, .int (nI r)), (2, .int (nI k2))]), W p l e (rmL 3) s m args below meth c H locs 0 0 Q (F0 m 87 ls []) := by
                  intro n3
                  induction n3 with
                  | zero =>
                    intro k2 hk2 H locs hW ls hl
                    refine lv_iload_n hx hb d_Model_rules_87 rfl (lv_at hl 2 rfl) ?_
                    refine lv_iconst (v := (nI 5)) hx hb d_Model_rules_88 (by decide +kernel) ?_
                    refine N_icmp_ge_NN hx hb (by omega) (by decide) (tgt := 110) d_Model_rules_89 (by decide) (fun c89 => ?_) (fun c89 => ?_)
                    · have e9 : 5 = k2 := by omega
                      subst e9
                      refine lv_iload_n hx hb d_Model_rules_110 rfl (lv_at hl 1 rfl) ?_
                      exact R_iret X Y hW (by rw [hRD, c75]; rfl) (by rw [hRD]; rfl) d_Model_rules_111
                    · exfalso; omega
                  | succ n3 ih87 =>
                    intro k2 hk2 H locs hW ls hl
                    refine lv_iload_n hx hb d_Model_rules_87 rfl (lv_at hl 2 rfl) ?_
                    refine lv_iconst (v := (nI 5)) hx hb d_Model_rules_88 (by decide +kernel) ?_
                    refine N_icmp_ge_NN hx hb (by omega) (by decide) (tgt := 110) d_Model_rules_89 (by decide) (fun c89 => ?_) (fun c89 => ?_)
                    · exfalso; omega
                    · refine lv_aload_n hx hb d_Model_rules_92 rfl (lv_at hl 0 rfl) ?_
                      refine R_get X hW i_Model rfl 11 (by decide) kf_Model_32 0 rfl rfl d_Model_rules_93 ?_
                      refine lv_iload_n hx hb d_Model_rules_96 rfl (lv_at hl 2 rfl) ?_
                      refine lv_aload_n hx hb d_Model_rules_97 rfl (lv_at hl 0 rfl) ?_
                      refine R_get X hW i_Model rfl 12 (by decide) kf_Model_35 0 rfl rfl d_Model_rules_98 ?_
                      refine lv_iload_n hx hb d_Model_rules_101 rfl (lv_at hl 2 rfl) ?_
                      refine R_iald X hW (t0 := 0) rfl 9 rfl (k := k2) (by omega) (by decide) d_Model_rules_102 ?_
                      refine R_iast X hW (t0 := 0) rfl 8 rfl (k := k2) (by omega) (by decide) (f k2) rfl d_Model_rules_103 (fun H locs hW => ?_)
                      have hW : Wr G A s.heap (w_M hm cI cZ cJ 0 np ne ns 0 bd gr stt sp sq sec ans rt (va_up (upG f k2 nw) k2 (f k2)) f un mss msc mip mcb msco mtim) H locs := hW
                      refine lv_iinc (v := (nI (k2 + 1))) (lv' := [(2, .int (nI (k2 + 1))), (0, .ref (hm 0)), (1, .int (nI r))]) hx hb d_Model_rules_104 hl (k := 2) rfl (N_inc k2) (by decide) rfl (fun ls hl => ?_)
                      refine lv_goto (tgt := 87) hx hb d_Model_rules_107 (by decide) ?_
                      exact ih87 (k2 + 1) (by omega) _ _ hW ls (lv_sub hl [1, 2, 0] rfl)
                exact L87 5 0 (by omega) _ _ hW ls (lv_sub hl [1, 2, 0] rfl)
              · obtain ⟨b9, hb9, hRD⟩ : ∃ q, bd = some q ∧ rdG un tl 101 0 0 (upG nw 5 mtd) = (.inr q, f) := by rcases hbd with ⟨q, _⟩ | q; (exact absurd q c75); (exact q)
                refine lv_iconst (v := (-1)) hx hb d_Model_rules_78 (by decide +kernel) ?_
                refine lv_aload_n hx hb d_Model_rules_79 rfl (lv_at hl 0 rfl) ?_
                refine R_get X hW i_Model rfl 15 (by decide) kf_Model_87 0 rfl rfl d_Model_rules_80 ?_
                refine lv_isub hx hb d_Model_rules_83 ?_
                exact R_iret X Y hW (by rw [hRD, hb9]; rfl) (by rw [hRD, hb9]; rfl) d_Model_rules_84
            · refine lv_aload_n hx hb d_Model_rules_47 rfl (lv_at hl 0 rfl) ?_
              refine R_get X hW i_Model rfl 15 (by decide) kf_Model_87 0 rfl rfl d_Model_rules_48 ?_
              refine N_if_ge_O hx hb (fun q hq => by have := hbb q hq; omega) (tgt := 66) d_Model_rules_51 (by decide) (fun c51 => ?_) (fun c51 => ?_)
              · refine lv_aload_n hx hb d_Model_rules_66 rfl (lv_at hl 0 rfl) ?_
                refine lv_iconst (v := (nI 0)) hx hb d_Model_rules_67 (by decide +kernel) ?_
                refine R_put X hW i_Model rfl t_Model t_Model_ok n_Model 13 (by decide) kf_Model_73 rfl (ty := .int) (by decide +kernel) 0 rfl (v := .int (nI 0)) rfl rfl (Nat.le_of_ble_eq_true rfl) d_Model_rules_68 (fun H locs hW => ?_)
                have hW : Wr G A s.heap (w_M hm cI cZ cJ 0 np ne ns 0 bd gr stt sp sq sec ans rt nw f un mss msc mip mcb msco mtim) H locs := hW
                refine lv_aload_n hx hb d_Model_rules_71 rfl (lv_at hl 0 rfl) ?_
                refine R_get X hW i_Model rfl 15 (by decide) kf_Model_87 0 rfl rfl d_Model_rules_72 ?_
                refine N_if_lt_O hx hb (fun q hq => by have := hbb q hq; omega) (tgt := 85) d_Model_rules_75 (by decide) (fun c75 => ?_) (fun c75 => ?_)
                · have hRD : rdG un tl 101 0 0 (upG nw 5 mtd) = (.inl r, f) := by first | exact absurd c75 c51 | (rcases hbd with ⟨_, q⟩ | ⟨p, q, _⟩; (rw [← q, rdG, if_pos (by omega)]); (rw [q] at c75; cases c75))
                  refine lv_iconst (v := (nI 0)) hx hb d_Model_rules_85 (by decide +kernel) ?_
                  refine lv_istore_n (lv' := [(2, .int (nI 0)), (0, .ref (hm 0)), (1, .int (nI r))]) hx hb d_Model_rules_86 rfl hl (by decide) rfl (fun ls hl => ?_)
                  have L87 : ∀ (n3 : Nat) (k2 : Nat) (hk2 : k2 + n3 = 5) (H : Heap) (locs : List Loc) (hW : Wr G A s.heap (w_M hm cI cZ cJ 0 np ne ns 0 bd gr stt sp sq sec ans rt (upG f k2 nw) f un mss msc mip mcb msco mtim) H locs) (ls : Array Slot) (hl : lv_has ls 3 [(0, .ref (hm 0)), (1, .int (nI r)), (2, .int (nI k2))]), W p l e (rmL 3) s m args below meth c H locs 0 0 Q (F0 m 87 ls []) := by
                    intro n3
                    induction n3 with
                    | zero =>
                      intro k2 hk2 H locs hW ls hl
                      refine lv_iload_n hx hb d_Model_rules_87 rfl (lv_at hl 2 rfl) ?_
                      refine lv_iconst (v := (nI 5)) hx hb d_Model_rules_88 (by decide +kernel) ?_
                      refine N_icmp_ge_NN hx hb (by omega) (by decide) (tgt := 110) d_Model_rules_89 (by decide) (fun c89 => ?_) (fun c89 => ?_)
                      · have e9 : 5 = k2 := by omega
                        subst e9
                        refine lv_iload_n hx hb d_Model_rules_110 rfl (lv_at hl 1 rfl) ?_
                        exact R_iret X Y hW (by rw [hRD, c75]; rfl) (by rw [hRD]; rfl) d_Model_rules_111
                      · exfalso; omega
                    | succ n3 ih87 =>
                      intro k2 hk2 H locs hW ls hl
                      refine lv_iload_n hx hb d_Model_rules_87 rfl (lv_at hl 2 rfl) ?_
                      refine lv_iconst (v := (nI 5)) hx hb d_Model_rules_88 (by decide +kernel) ?_
                      refine N_icmp_ge_NN hx hb (by omega) (by decide) (tgt := 110) d_Model_rules_89 (by decide) (fun c89 => ?_) (fun c89 => ?_)
                      · exfalso; omega
                      · refine lv_aload_n hx hb d_Model_rules_92 rfl (lv_at hl 0 rfl) ?_
                        refine R_get X hW i_Model rfl 11 (by decide) kf_Model_32 0 rfl rfl d_Model_rules_93 ?_
                        refine lv_iload_n hx hb d_Model_rules_96 rfl (lv_at hl 2 rfl) ?_
                        refine lv_aload_n hx hb d_Model_rules_97 rfl (lv_at hl 0 rfl) ?_
                        refine R_get X hW i_Model rfl 12 (by decide) kf_Model_35 0 rfl rfl d_Model_rules_98 ?_
                        refine lv_iload_n hx hb d_Model_rules_101 rfl (lv_at hl 2 rfl) ?_
                        refine R_iald X hW (t0 := 0) rfl 9 rfl (k := k2) (by omega) (by decide) d_Model_rules_102 ?_
                        refine R_iast X hW (t0 := 0) rfl 8 rfl (k := k2) (by omega) (by decide) (f k2) rfl d_Model_rules_103 (fun H locs hW => ?_)
                        have hW : Wr G A s.heap (w_M hm cI cZ cJ 0 np ne ns 0 bd gr stt sp sq sec ans rt (va_up (upG f k2 nw) k2 (f k2)) f un mss msc mip mcb msco mtim) H locs := hW
                        refine lv_iinc (v := (nI (k2 + 1))) (lv' := [(2, .int (nI (k2 + 1))), (0, .ref (hm 0)), (1, .int (nI r))]) hx hb d_Model_rules_104 hl (k := 2) rfl (N_inc k2) (by decide) rfl (fun ls hl => ?_)
                        refine lv_goto (tgt := 87) hx hb d_Model_rules_107 (by decide) ?_
                        exact ih87 (k2 + 1) (by omega) _ _ hW ls (lv_sub hl [1, 2, 0] rfl)
                  exact L87 5 0 (by omega) _ _ hW ls (lv_sub hl [1, 2, 0] rfl)
                · obtain ⟨b9, hb9, hRD⟩ : ∃ q, bd = some q ∧ rdG un tl 101 0 0 (upG nw 5 mtd) = (.inr q, f) := by rcases hbd with ⟨q, _⟩ | q; (exact absurd q c75); (exact q)
                  refine lv_iconst (v := (-1)) hx hb d_Model_rules_78 (by decide +kernel) ?_
                  refine lv_aload_n hx hb d_Model_rules_79 rfl (lv_at hl 0 rfl) ?_
                  refine R_get X hW i_Model rfl 15 (by decide) kf_Model_87 0 rfl rfl d_Model_rules_80 ?_
                  refine lv_isub hx hb d_Model_rules_83 ?_
                  exact R_iret X Y hW (by rw [hRD, hb9]; rfl) (by rw [hRD, hb9]; rfl) d_Model_rules_84
              · have y1 := eod_ge un tl (j + 1) 5 (j + 1)
                have y2 := eod_le un tl (j + 1) 5 (j + 1) (by omega)
                have y3 : eoF un tl j = eodG un tl (j + 1) 5 (j + 1) := rfl
                refine lv_aload_n hx hb d_Model_rules_54 rfl (lv_at hl 0 rfl) ?_
                refine lv_iload_n hx hb d_Model_rules_55 rfl (lv_at hl 2 rfl) ?_
                refine R_callV (q0 := 0) (m_readRule l G cI cZ cJ hm 0 np ne ns tl bd gr stt sp sq sec ans rt nw f un mss msc mip mcb msco mtim j (by omega) htl hun) X rfl hW cw_Model_90 ki_Model_readRule ks_Model_readRule rfl rfl ⟨rfl, rfl⟩ ⟨by decide, by decide⟩ ⟨Nat.zero_le _, Nat.zero_le _⟩ [true, true, true, true, true, true, true, true, true, true, true, true, true, true, true, true, true] rfl (Nat.le_of_ble_eq_true rfl) rfl rfl hl.1 rfl rfl (Nat.le_of_ble_eq_true rfl) d_Model_rules_56 rfl (fun H locs hW => ?_)
                have hW : Wr G A s.heap (w_M hm cI cZ cJ 0 np ne ns tl (rrM un tl j bd) gr stt sp sq sec ans rt nw (rrT un tl j f) un mss msc mip mcb msco mtim) H locs := hW
                refine lv_istore_n (lv' := [(2, .int (nI (eoF un tl j + 1))), (0, .ref (hm 0)), (1, .int (nI r))]) hx hb d_Model_rules_59 rfl hl (by decide) rfl (fun ls hl => ?_)
                refine lv_iinc (v := (nI (r + 1))) (lv' := [(1, .int (nI (r + 1))), (2, .int (nI (eoF un tl j + 1))), (0, .ref (hm 0))]) hx hb d_Model_rules_60 hl (k := 2) rfl (N_inc r) (by decide) rfl (fun ls hl => ?_)
                refine lv_goto (tgt := 39) hx hb d_Model_rules_63 (by decide) ?_
                exact ih39 (r + 1) (eoF un tl j + 1) (rrM un tl j bd) (rrT un tl j f) (by omega) (by omega) (fun q hq => by rw [c51] at hq; have := rrM_le hq; omega) (by rw [c51]; exact rr_step c44 (by rcases hbd with ⟨_, q⟩ | ⟨q, q1, _⟩; (exact q); (rw [q1] at c51; cases c51))) _ _ hW ls (lv_sub hl [2, 0, 1] rfl)
        exact L39 101 0 0 none (upG nw 5 mtd) (by omega) (by omega) (fun q hq => by cases hq) (Or.inl ⟨rfl, rfl⟩) _ _ hW ls (lv_sub hl [1, 2, 0] rfl)
      · exfalso; omega
    | succ n ih14 =>
      intro i hi H locs hW ls hl
      refine lv_iload_n hx hb d_Model_rules_14 rfl (lv_at hl 2 rfl) ?_
      refine lv_iconst (v := (nI 5)) hx hb d_Model_rules_15 (by decide +kernel) ?_
      refine N_icmp_ge_NN hx hb (by omega) (by decide) (tgt := 37) d_Model_rules_16 (by decide) (fun c16 => ?_) (fun c16 => ?_)
      · exfalso; omega
      · refine lv_aload_n hx hb d_Model_rules_19 rfl (lv_at hl 0 rfl) ?_
        refine R_get X hW i_Model rfl 12 (by decide) kf_Model_35 0 rfl rfl d_Model_rules_20 ?_
        refine lv_iload_n hx hb d_Model_rules_23 rfl (lv_at hl 2 rfl) ?_
        refine lv_aload_n hx hb d_Model_rules_24 rfl (lv_at hl 0 rfl) ?_
        refine R_get X hW i_Model rfl 11 (by decide) kf_Model_32 0 rfl rfl d_Model_rules_25 ?_
        refine lv_iload_n hx hb d_Model_rules_28 rfl (lv_at hl 2 rfl) ?_
        refine R_iald X hW (t0 := 0) rfl 8 rfl (k := i) (by omega) (by decide) d_Model_rules_29 ?_
        refine R_iast X hW (t0 := 0) rfl 9 rfl (k := i) (by omega) (by decide) (nw i) rfl d_Model_rules_30 (fun H locs hW => ?_)
        have hW : Wr G A s.heap (w_M hm cI cZ cJ 0 np ne ns tl none gr stt sp sq sec ans rt nw (va_up (upG nw i mtd) i (nw i)) un mss msc mip mcb msco mtim) H locs := hW
        refine lv_iinc (v := (nI (i + 1))) (lv' := [(2, .int (nI (i + 1))), (0, .ref (hm 0)), (1, .int (nI 0))]) hx hb d_Model_rules_31 hl (k := 2) rfl (N_inc i) (by decide) rfl (fun ls hl => ?_)
        refine lv_goto (tgt := 14) hx hb d_Model_rules_34 (by decide) ?_
        exact ih14 (i + 1) (by omega) _ _ hW ls (lv_sub hl [1, 2, 0] rfl)
  exact L14 5 0 (by omega) _ _ hW ls (lv_sub hl [2, 1, 0] rfl)
