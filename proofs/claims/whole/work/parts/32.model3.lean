set_option maxHeartbeats 4000000 in
set_option maxRecDepth 100000 in
theorem m_tellPair (l : Launch) (G : va_G) (cI cZ cJ : ClassId) (hm : Nat → Nat) (mth : Nat) (np : Nat) (ne : Nat) (ns : Nat) (tl : Nat) (mbd : Option Nat) (gr : Nat → Nat) (stt : Nat → Option Nat) (sp : Nat → Nat) (sq : Nat → Nat) (sec : Nat → Nat) (ans : Nat → Nat) (rt : Nat → Bool) (nw : Nat → Nat) (mtd : Nat → Nat) (un : Nat → Nat) (mss : Nat → Nat) (msc : Nat → Nat) (mip : Nat → Bool) (mcb : Nat → Bool) (msco : Nat → Nat) (mtim : Nat → Nat) (a : Nat) (b : Nat) (f : Nat) (w : Nat) (ha : a < 300) (hw0 : w ≤ 3) : Ct l G (tyL cI cZ cJ) y_Model_tellPair b_Model_tellPair 5 (some .int) (rmL 0) [.ref (hm 0), .int (nI a), .int (nI b), .int (nI f), .int (nI w)] (w_M hm cI cZ cJ mth np ne ns tl mbd gr stt sp sq sec ans rt nw mtd un mss msc mip mcb msco mtim) (some (.int (nI (tlM sp sq a b f w)))) (w_M hm cI cZ cJ mth np ne ns tl mbd gr stt sp sq sec ans rt nw mtd un mss msc mip mcb msco mtim) := by
  refine M_start (by decide) (Nat.le_of_ble_eq_true rfl) ?_
  intro p e s m args below meth c A Q ls X Y hW hl
  have hx := X.1.1
  have hb := X.1.2.1
  have hl : lv_has ls 5 [(0, .ref (hm 0)), (1, .int (nI a)), (2, .int (nI b)), (3, .int (nI f)), (4, .int (nI w))] := hl
  rcases (show w = 0 ∨ w = 1 ∨ w = 2 ∨ w = 3 by omega) with h9 | h9 | h9 | h9
  · subst h9
    refine lv_iload hx hb d_Model_tellPair_0 (lv_at hl 4 rfl) ?_
    refine lv_tableIn (tgt := 32) hx hb d_Model_tellPair_2 (by decide +kernel) (by decide +kernel) (off := 30) (by decide +kernel) (by decide) ?_
    refine lv_aload_n hx hb d_Model_tellPair_32 rfl (lv_at hl 0 rfl) ?_
    refine R_get X hW i_Model rfl 6 (by decide) kf_Model_16 0 rfl rfl d_Model_tellPair_33 ?_
    refine lv_iload_n hx hb d_Model_tellPair_36 rfl (lv_at hl 1 rfl) ?_
    refine R_iald X hW (t0 := 0) rfl 3 rfl (k := a) (by omega) (by decide) d_Model_tellPair_37 ?_
    exact R_iret X Y hW rfl rfl d_Model_tellPair_38
  · subst h9
    refine lv_iload hx hb d_Model_tellPair_0 (lv_at hl 4 rfl) ?_
    refine lv_tableIn (tgt := 39) hx hb d_Model_tellPair_2 (by decide +kernel) (by decide +kernel) (off := 37) (by decide +kernel) (by decide) ?_
    refine lv_iload_n hx hb d_Model_tellPair_39 rfl (lv_at hl 2 rfl) ?_
    exact R_iret X Y hW rfl rfl d_Model_tellPair_40
  · subst h9
    refine lv_iload hx hb d_Model_tellPair_0 (lv_at hl 4 rfl) ?_
    refine lv_tableIn (tgt := 41) hx hb d_Model_tellPair_2 (by decide +kernel) (by decide +kernel) (off := 39) (by decide +kernel) (by decide) ?_
    refine lv_aload_n hx hb d_Model_tellPair_41 rfl (lv_at hl 0 rfl) ?_
    refine R_get X hW i_Model rfl 7 (by decide) kf_Model_19 0 rfl rfl d_Model_tellPair_42 ?_
    refine lv_iload_n hx hb d_Model_tellPair_45 rfl (lv_at hl 1 rfl) ?_
    refine R_iald X hW (t0 := 0) rfl 4 rfl (k := a) (by omega) (by decide) d_Model_tellPair_46 ?_
    exact R_iret X Y hW rfl rfl d_Model_tellPair_47
  · subst h9
    refine lv_iload hx hb d_Model_tellPair_0 (lv_at hl 4 rfl) ?_
    refine lv_tableIn (tgt := 48) hx hb d_Model_tellPair_2 (by decide +kernel) (by decide +kernel) (off := 46) (by decide +kernel) (by decide) ?_
    refine lv_iload_n hx hb d_Model_tellPair_48 rfl (lv_at hl 3 rfl) ?_
    exact R_iret X Y hW rfl rfl d_Model_tellPair_49

set_option maxHeartbeats 4000000 in
set_option maxRecDepth 100000 in
theorem m_tellPair_bad (l : Launch) (G : va_G) (cI cZ cJ : ClassId) (hm : Nat → Nat) (mth : Nat) (np : Nat) (ne : Nat) (ns : Nat) (tl : Nat) (mbd : Option Nat) (gr : Nat → Nat) (stt : Nat → Option Nat) (sp : Nat → Nat) (sq : Nat → Nat) (sec : Nat → Nat) (ans : Nat → Nat) (rt : Nat → Bool) (nw : Nat → Nat) (mtd : Nat → Nat) (un : Nat → Nat) (mss : Nat → Nat) (msc : Nat → Nat) (mip : Nat → Bool) (mcb : Nat → Bool) (msco : Nat → Nat) (mtim : Nat → Nat) (a : Nat) (b : Nat) (f : Nat) (w : Int32) (hw0 : ¬ (0 ≤ w.toInt ∧ w.toInt ≤ 3)) : Ct l G (tyL cI cZ cJ) y_Model_tellPair b_Model_tellPair 5 (some .int) (rmL 0) [.ref (hm 0), .int (nI a), .int (nI b), .int (nI f), .int w] (w_M hm cI cZ cJ mth np ne ns tl mbd gr stt sp sq sec ans rt nw mtd un mss msc mip mcb msco mtim) (some (.int (-1))) (w_M hm cI cZ cJ mth np ne ns tl mbd gr stt sp sq sec ans rt nw mtd un mss msc mip mcb msco mtim) := by
  refine M_start (by decide) (Nat.le_of_ble_eq_true rfl) ?_
  intro p e s m args below meth c A Q ls X Y hW hl
  have hx := X.1.1
  have hb := X.1.2.1
  have hl : lv_has ls 5 [(0, .ref (hm 0)), (1, .int (nI a)), (2, .int (nI b)), (3, .int (nI f)), (4, .int w)] := hl
  refine lv_iload hx hb d_Model_tellPair_0 (lv_at hl 4 rfl) ?_
  refine lv_tableOut (tgt := 50) hx hb d_Model_tellPair_2 (by omega) (by decide) ?_
  refine lv_iconst (v := (-1)) hx hb d_Model_tellPair_50 (by decide +kernel) ?_
  exact R_iret X Y hW rfl rfl d_Model_tellPair_51

theorem kf_Model_47 : Cond.fieldLink "ContestRowsModel" 47 "ContestRowsModel" "isPut" "[Z" ∈ TBL := TBL_t (List.mem_append_right _ (List.mem_append_right _ (List.mem_of_getElem? (i := 35) rfl))) rfl
set_option maxHeartbeats 4000000 in
set_option maxRecDepth 100000 in
theorem m_next (l : Launch) (G : va_G) (cI cZ cJ : ClassId) (hm : Nat → Nat) (mth : Nat) (np : Nat) (ne : Nat) (ns : Nat) (tl : Nat) (mbd : Option Nat) (gr : Nat → Nat) (stt : Nat → Option Nat) (sp : Nat → Nat) (sq : Nat → Nat) (sec : Nat → Nat) (ans : Nat → Nat) (rt : Nat → Bool) (nw : Nat → Nat) (mtd : Nat → Nat) (un : Nat → Nat) (mss : Nat → Nat) (msc : Nat → Nat) (mip : Nat → Bool) (mcb : Nat → Bool) (msco : Nat → Nat) (mtim : Nat → Nat)  (hnp : np ≤ 20) (hgr : ∀ i, i < 20 → gr i ≤ 100) : Ct l G (tyL cI cZ cJ) y_Model_next b_Model_next 3 (some .int) (rmL 0) [.ref (hm 0)] (w_M hm cI cZ cJ mth np ne ns tl mbd gr stt sp sq sec ans rt nw mtd un mss msc mip mcb msco mtim) (some (.int (oI (nxF gr mip np)))) (w_M hm cI cZ cJ mth np ne ns tl mbd gr stt sp sq sec ans rt nw mtd un mss msc mip mcb msco mtim) := by
  refine M_start (by decide) (Nat.le_of_ble_eq_true rfl) ?_
  intro p e s m args below meth c A Q ls X Y hW hl
  have hx := X.1.1
  have hb := X.1.2.1
  have hl : lv_has ls 3 [(0, .ref (hm 0))] := hl
  refine lv_iconst (v := (-1)) hx hb d_Model_next_0 (by decide +kernel) ?_
  refine lv_istore_n (lv' := [(1, .int (-1)), (0, .ref (hm 0))]) hx hb d_Model_next_1 rfl hl (by decide) rfl (fun ls hl => ?_)
  refine lv_iconst (v := (nI 0)) hx hb d_Model_next_2 (by decide +kernel) ?_
  refine lv_istore_n (lv' := [(2, .int (nI 0)), (1, .int (-1)), (0, .ref (hm 0))]) hx hb d_Model_next_3 rfl hl (by decide) rfl (fun ls hl => ?_)
  have L4 : ∀ (n : Nat) (bo : Option Nat) (i : Nat) (hi : i + n = np) (hbo : ∀ z, bo = some z → z < np) (he : nxG gr mip n i bo = nxF gr mip np) (H : Heap) (locs : List Loc) (hW : Wr G A s.heap (w_M hm cI cZ cJ mth np ne ns tl mbd gr stt sp sq sec ans rt nw mtd un mss msc mip mcb msco mtim) H locs) (ls : Array Slot) (hl : lv_has ls 3 [(0, .ref (hm 0)), (1, .int (oI bo)), (2, .int (nI i))]), W p l e (rmL 0) s m args below meth c H locs 0 0 Q (F0 m 4 ls []) := by
    intro n
    induction n with
    | zero =>
      intro bo i hi hbo he H locs hW ls hl
      refine lv_iload_n hx hb d_Model_next_4 rfl (lv_at hl 2 rfl) ?_
      refine lv_aload_n hx hb d_Model_next_5 rfl (lv_at hl 0 rfl) ?_
      refine R_get X hW i_Model rfl 1 (by decide) kf_Model_64 0 rfl rfl d_Model_next_6 ?_
      refine N_icmp_ge_NN hx hb (by omega) (by omega) (tgt := 48) d_Model_next_9 (by decide) (fun c9 => ?_) (fun c9 => ?_)
      · refine lv_iload_n hx hb d_Model_next_48 rfl (lv_at hl 1 rfl) ?_
        exact R_iret X Y hW rfl (by rw [← he]; rfl) d_Model_next_49
      · exfalso; omega
    | succ n ih4 =>
      intro bo i hi hbo he H locs hW ls hl
      refine lv_iload_n hx hb d_Model_next_4 rfl (lv_at hl 2 rfl) ?_
      refine lv_aload_n hx hb d_Model_next_5 rfl (lv_at hl 0 rfl) ?_
      refine R_get X hW i_Model rfl 1 (by decide) kf_Model_64 0 rfl rfl d_Model_next_6 ?_
      refine N_icmp_ge_NN hx hb (by omega) (by omega) (tgt := 48) d_Model_next_9 (by decide) (fun c9 => ?_) (fun c9 => ?_)
      · exfalso; omega
      · refine lv_aload_n hx hb d_Model_next_12 rfl (lv_at hl 0 rfl) ?_
        refine R_get X hW i_Model rfl 18 (by decide) kf_Model_47 0 rfl rfl d_Model_next_13 ?_
        refine lv_iload_n hx hb d_Model_next_16 rfl (lv_at hl 2 rfl) ?_
        refine R_zald X hW (t0 := 1) rfl 13 rfl (k := i) (by omega) (by decide) d_Model_next_17 ?_
        refine N_if_ne_B hx hb  (tgt := 42) d_Model_next_18 (by decide) (fun c18 => ?_) (fun c18 => ?_)
        · refine lv_iinc (v := (nI (i + 1))) (lv' := [(2, .int (nI (i + 1))), (0, .ref (hm 0)), (1, .int (oI bo))]) hx hb d_Model_next_42 hl (k := 2) rfl (N_inc i) (by decide) rfl (fun ls hl => ?_)
          refine lv_goto (tgt := 4) hx hb d_Model_next_45 (by decide) ?_
          exact ih4 bo (i + 1) (by omega) hbo (by rw [← he, nxG, if_neg (by simp [c18])]) _ _ hW ls (lv_sub hl [1, 2, 0] rfl)
        · refine lv_iload_n hx hb d_Model_next_21 rfl (lv_at hl 1 rfl) ?_
          refine N_if_lt_O hx hb (fun z hz => by have := hbo z hz; omega) (tgt := 40) d_Model_next_22 (by decide) (fun c22 => ?_) (fun c22 => ?_)
          · refine lv_iload_n hx hb d_Model_next_40 rfl (lv_at hl 2 rfl) ?_
            refine lv_istore_n (lv' := [(1, .int (nI i)), (0, .ref (hm 0)), (2, .int (nI i))]) hx hb d_Model_next_41 rfl hl (by decide) rfl (fun ls hl => ?_)
            refine lv_iinc (v := (nI (i + 1))) (lv' := [(2, .int (nI (i + 1))), (1, .int (nI i)), (0, .ref (hm 0))]) hx hb d_Model_next_42 hl (k := 2) rfl (N_inc i) (by decide) rfl (fun ls hl => ?_)
            refine lv_goto (tgt := 4) hx hb d_Model_next_45 (by decide) ?_
            exact ih4 (some i) (i + 1) (by omega) (fun z hz => by cases hz; omega) (by rw [← he, nxG, if_pos ⟨c18, Or.inl c22⟩]) _ _ hW ls (lv_sub hl [2, 1, 0] rfl)
          · obtain ⟨w, hw⟩ : ∃ q, bo = some q := by cases hq : bo with | none => exact absurd hq c22 | some q => exact ⟨q, rfl⟩
            have y5 := hbo w hw
            have y6 := hgr w (by omega)
            have y7 := hgr i (by omega)
            refine lv_aload_n hx hb d_Model_next_25 rfl (lv_at hl 0 rfl) ?_
            refine R_get X hW i_Model rfl 4 (by decide) kf_Model_7 0 rfl rfl d_Model_next_26 ?_
            refine lv_iload_n hx hb d_Model_next_29 rfl (lv_at hl 2 rfl) ?_
            refine R_iald X hW (t0 := 0) rfl 1 rfl (k := i) (by omega) (by decide) d_Model_next_30 ?_
            refine lv_aload_n hx hb d_Model_next_31 rfl (lv_at hl 0 rfl) ?_
            refine R_get X hW i_Model rfl 4 (by decide) kf_Model_7 0 rfl rfl d_Model_next_32 ?_
            refine lv_iload_n hx hb d_Model_next_35 rfl (lv_at hl 1 rfl) ?_
            refine W.eq (g2 := F0 m 36 ls (.int (nI w) :: .ref (hm 1) :: .int (nI (gr i)) :: [])) (by rw [hw]; first | done | rfl) ?_
            refine R_iald X hW (t0 := 0) rfl 1 rfl (k := w) (by omega) (by decide) d_Model_next_36 ?_
            refine N_icmp_le_NN hx hb (by omega) (by omega) (tgt := 42) d_Model_next_37 (by decide) (fun c37 => ?_) (fun c37 => ?_)
            · refine lv_iinc (v := (nI (i + 1))) (lv' := [(2, .int (nI (i + 1))), (0, .ref (hm 0)), (1, .int (oI bo))]) hx hb d_Model_next_42 hl (k := 2) rfl (N_inc i) (by decide) rfl (fun ls hl => ?_)
              refine lv_goto (tgt := 4) hx hb d_Model_next_45 (by decide) ?_
              exact ih4 bo (i + 1) (by omega) hbo (by rw [← he, nxG, if_neg (by rw [hw]; simp; omega)]) _ _ hW ls (lv_sub hl [1, 2, 0] rfl)
            · refine lv_iload_n hx hb d_Model_next_40 rfl (lv_at hl 2 rfl) ?_
              refine lv_istore_n (lv' := [(1, .int (nI i)), (0, .ref (hm 0)), (2, .int (nI i))]) hx hb d_Model_next_41 rfl hl (by decide) rfl (fun ls hl => ?_)
              refine lv_iinc (v := (nI (i + 1))) (lv' := [(2, .int (nI (i + 1))), (1, .int (nI i)), (0, .ref (hm 0))]) hx hb d_Model_next_42 hl (k := 2) rfl (N_inc i) (by decide) rfl (fun ls hl => ?_)
              refine lv_goto (tgt := 4) hx hb d_Model_next_45 (by decide) ?_
              exact ih4 (some i) (i + 1) (by omega) (fun z hz => by cases hz; omega) (by rw [← he, nxG, if_pos ⟨c18, Or.inr (by rw [hw]; exact c37)⟩]) _ _ hW ls (lv_sub hl [2, 1, 0] rfl)
  exact L4 np none 0 (by omega) (fun z hz => by cases hz) rfl _ _ hW ls (lv_sub hl [2, 1, 0] rfl)

set_option maxHeartbeats 4000000 in
set_option maxRecDepth 100000 in
theorem m_apart_none (l : Launch) (G : va_G) (cI cZ cJ : ClassId) (hm : Nat → Nat) (mth : Nat) (np : Nat) (ne : Nat) (ns : Nat) (tl : Nat) (mbd : Option Nat) (gr : Nat → Nat) (stt : Nat → Option Nat) (sp : Nat → Nat) (sq : Nat → Nat) (sec : Nat → Nat) (ans : Nat → Nat) (rt : Nat → Bool) (nw : Nat → Nat) (mtd : Nat → Nat) (un : Nat → Nat) (mss : Nat → Nat) (msc : Nat → Nat) (mip : Nat → Bool) (mcb : Nat → Bool) (msco : Nat → Nat) (mtim : Nat → Nat)  (hn : np = 0) : Ct l G (tyL cI cZ cJ) y_Model_apart b_Model_apart 4 (some .int) (rmL 0) [.ref (hm 0)] (w_M hm cI cZ cJ mth np ne ns tl mbd gr stt sp sq sec ans rt nw mtd un mss msc mip mcb msco mtim) (some (.int (-1))) (w_M hm cI cZ cJ 0 np ne ns tl mbd gr stt sp sq sec ans rt nw mtd un mss msc mip mcb msco mtim) := by
  refine M_start (by decide) (Nat.le_of_ble_eq_true rfl) ?_
  intro p e s m args below meth c A Q ls X Y hW hl
  have hx := X.1.1
  have hb := X.1.2.1
  have hl : lv_has ls 4 [(0, .ref (hm 0))] := hl
  refine lv_aload_n hx hb d_Model_apart_0 rfl (lv_at hl 0 rfl) ?_
  refine lv_iconst (v := (nI 0)) hx hb d_Model_apart_1 (by decide +kernel) ?_
  refine R_put X hW i_Model rfl t_Model t_Model_ok n_Model 0 (by decide) kf_Model_60 rfl (ty := .int) (by decide +kernel) 0 rfl (v := .int (nI 0)) rfl rfl (Nat.le_of_ble_eq_true rfl) d_Model_apart_2 (fun H locs hW => ?_)
  have hW : Wr G A s.heap (w_M hm cI cZ cJ 0 np ne ns tl mbd gr stt sp sq sec ans rt nw mtd un mss msc mip mcb msco mtim) H locs := hW
  refine lv_aload_n hx hb d_Model_apart_5 rfl (lv_at hl 0 rfl) ?_
  refine R_get X hW i_Model rfl 1 (by decide) kf_Model_64 0 rfl rfl d_Model_apart_6 ?_
  refine N_if_ne_N hx hb (by omega) (tgt := 14) d_Model_apart_9 (by decide) (fun c9 => ?_) (fun c9 => ?_)
  · exfalso; omega
  · refine lv_iconst (v := (-1)) hx hb d_Model_apart_12 (by decide +kernel) ?_
    exact R_iret X Y hW rfl rfl d_Model_apart_13

theorem kf_Model_50 : Cond.fieldLink "ContestRowsModel" 50 "ContestRowsModel" "canBe" "[Z" ∈ TBL := TBL_t (List.mem_append_right _ (List.mem_append_right _ (List.mem_of_getElem? (i := 36) rfl))) rfl
set_option maxHeartbeats 4000000 in
set_option maxRecDepth 100000 in
theorem m_apart_some (l : Launch) (G : va_G) (cI cZ cJ : ClassId) (hm : Nat → Nat) (mth : Nat) (np : Nat) (ne : Nat) (ns : Nat) (tl : Nat) (mbd : Option Nat) (gr : Nat → Nat) (stt : Nat → Option Nat) (sp : Nat → Nat) (sq : Nat → Nat) (sec : Nat → Nat) (ans : Nat → Nat) (rt : Nat → Bool) (nw : Nat → Nat) (mtd : Nat → Nat) (un : Nat → Nat) (mss : Nat → Nat) (msc : Nat → Nat) (mip : Nat → Bool) (mcb : Nat → Bool) (msco : Nat → Nat) (mtim : Nat → Nat)  (hn : 0 < np ∧ np ≤ 20) (hgr : ∀ i, i < np → 1 ≤ gr i ∧ gr i ≤ 100) : Ct l G (tyL cI cZ cJ) y_Model_apart b_Model_apart 4 (some .int) (rmL 0) [.ref (hm 0)] (w_M hm cI cZ cJ mth np ne ns tl mbd gr stt sp sq sec ans rt nw mtd un mss msc mip mcb msco mtim) (some (.int (nI (sumF gr np - 2 * lowG (cbA gr np (upG (fun v => decide (v = 0)) 2001 mcb)) (sumF gr np / 2))))) (w_M hm cI cZ cJ 0 np ne ns tl mbd gr stt sp sq sec ans rt nw mtd un mss msc mip (cbA gr np (upG (fun v => decide (v = 0)) 2001 mcb)) msco mtim) := by
  refine M_start (by decide) (Nat.le_of_ble_eq_true rfl) ?_
  intro p e s m args below meth c A Q ls X Y hW hl
  have hx := X.1.1
  have hb := X.1.2.1
  have hl : lv_has ls 4 [(0, .ref (hm 0))] := hl
  refine lv_aload_n hx hb d_Model_apart_0 rfl (lv_at hl 0 rfl) ?_
  refine lv_iconst (v := (nI 0)) hx hb d_Model_apart_1 (by decide +kernel) ?_
  refine R_put X hW i_Model rfl t_Model t_Model_ok n_Model 0 (by decide) kf_Model_60 rfl (ty := .int) (by decide +kernel) 0 rfl (v := .int (nI 0)) rfl rfl (Nat.le_of_ble_eq_true rfl) d_Model_apart_2 (fun H locs hW => ?_)
  have hW : Wr G A s.heap (w_M hm cI cZ cJ 0 np ne ns tl mbd gr stt sp sq sec ans rt nw mtd un mss msc mip mcb msco mtim) H locs := hW
  refine lv_aload_n hx hb d_Model_apart_5 rfl (lv_at hl 0 rfl) ?_
  refine R_get X hW i_Model rfl 1 (by decide) kf_Model_64 0 rfl rfl d_Model_apart_6 ?_
  refine N_if_ne_N hx hb (by omega) (tgt := 14) d_Model_apart_9 (by decide) (fun c9 => ?_) (fun c9 => ?_)
  · refine lv_iconst (v := (nI 0)) hx hb d_Model_apart_14 (by decide +kernel) ?_
    refine lv_istore_n (lv' := [(1, .int (nI 0)), (0, .ref (hm 0))]) hx hb d_Model_apart_15 rfl hl (by decide) rfl (fun ls hl => ?_)
    refine lv_iconst (v := (nI 0)) hx hb d_Model_apart_16 (by decide +kernel) ?_
    refine lv_istore_n (lv' := [(2, .int (nI 0)), (1, .int (nI 0)), (0, .ref (hm 0))]) hx hb d_Model_apart_17 rfl hl (by decide) rfl (fun ls hl => ?_)
    have L18 : ∀ (n : Nat) (i : Nat) (hi : i + n = 2001) (H : Heap) (locs : List Loc) (hW : Wr G A s.heap (w_M hm cI cZ cJ 0 np ne ns tl mbd gr stt sp sq sec ans rt nw mtd un mss msc mip (upG (fun v => decide (v = 0)) i mcb) msco mtim) H locs) (ls : Array Slot) (hl : lv_has ls 4 [(0, .ref (hm 0)), (1, .int (nI 0)), (2, .int (nI i))]), W p l e (rmL 0) s m args below meth c H locs 0 0 Q (F0 m 18 ls []) := by
      intro n
      induction n with
      | zero =>
        intro i hi H locs hW ls hl
        refine lv_iload_n hx hb d_Model_apart_18 rfl (lv_at hl 2 rfl) ?_
        refine lv_sipush (v := (nI 2001)) hx hb d_Model_apart_19 (by decide +kernel) ?_
        refine N_icmp_ge_NN hx hb (by omega) (by decide) (tgt := 46) d_Model_apart_22 (by decide) (fun c22 => ?_) (fun c22 => ?_)
        · have e9 : 2001 = i := by omega
          subst e9
          refine lv_iconst (v := (nI 0)) hx hb d_Model_apart_46 (by decide +kernel) ?_
          refine lv_istore_n (lv' := [(2, .int (nI 0)), (0, .ref (hm 0)), (1, .int (nI 0))]) hx hb d_Model_apart_47 rfl hl (by decide) rfl (fun ls hl => ?_)
          have L48 : ∀ (n2 : Nat) (s9 : Nat) (k2 : Nat) (hk2 : k2 + n2 = np) (hs : s9 = sumF gr k2) (H : Heap) (locs : List Loc) (hW : Wr G A s.heap (w_M hm cI cZ cJ 0 np ne ns tl mbd gr stt sp sq sec ans rt nw mtd un mss msc mip (cbA gr k2 (upG (fun v => decide (v = 0)) 2001 mcb)) msco mtim) H locs) (ls : Array Slot) (hl : lv_has ls 4 [(0, .ref (hm 0)), (1, .int (nI s9)), (2, .int (nI k2))]), W p l e (rmL 0) s m args below meth c H locs 0 0 Q (F0 m 48 ls []) := by
            intro n2
            induction n2 with
            | zero =>
              intro s9 k2 hk2 hs H locs hW ls hl
              refine lv_iload_n hx hb d_Model_apart_48 rfl (lv_at hl 2 rfl) ?_
              refine lv_aload_n hx hb d_Model_apart_49 rfl (lv_at hl 0 rfl) ?_
              refine R_get X hW i_Model rfl 1 (by decide) kf_Model_64 0 rfl rfl d_Model_apart_50 ?_
              refine N_icmp_ge_NN hx hb (by omega) (by omega) (tgt := 127) d_Model_apart_53 (by decide) (fun c53 => ?_) (fun c53 => ?_)
              · have hs9 := sumF_le gr 100 np (fun i hi => (hgr i hi).2)
                have h09 : cbA gr np (upG (fun v => decide (v = 0)) 2001 mcb) 0 = true := by rw [cbA_0 gr np _ (fun i hi => (hgr i hi).1), upG_lt _ _ _ _ (by omega)]; rfl
                have e9 : np = k2 := by omega
                subst e9
                refine lv_iload_n hx hb d_Model_apart_127 rfl (lv_at hl 1 rfl) ?_
                refine W.eq (g2 := F0 m 128 ls (.int (nI (sumF gr np)) :: [])) (by rw [hs]) ?_
                have hl : lv_has ls 4 [(0, .ref (hm 0)), (1, .int (nI (sumF gr np))), (2, .int (nI np))] := by rw [← hs]; exact hl
                refine lv_iconst (v := (nI 2)) hx hb d_Model_apart_128 (by decide +kernel) ?_
                refine N_idiv hx hb (by omega) (by decide) (by decide) d_Model_apart_129 ?_
                refine lv_istore_n (lv' := [(2, .int (nI ((sumF gr np) / 2))), (0, .ref (hm 0)), (1, .int (nI (sumF gr np)))]) hx hb d_Model_apart_130 rfl hl (by decide) rfl (fun ls hl => ?_)
                have L131 : ∀ (v : Nat)  (hv : v ≤ sumF gr np / 2) (he : lowG (cbA gr np (upG (fun v => decide (v = 0)) 2001 mcb)) v = lowG (cbA gr np (upG (fun v => decide (v = 0)) 2001 mcb)) (sumF gr np / 2)) (H : Heap) (locs : List Loc) (hW : Wr G A s.heap (w_M hm cI cZ cJ 0 np ne ns tl mbd gr stt sp sq sec ans rt nw mtd un mss msc mip (cbA gr np (upG (fun v => decide (v = 0)) 2001 mcb)) msco mtim) H locs) (ls : Array Slot) (hl : lv_has ls 4 [(0, .ref (hm 0)), (1, .int (nI (sumF gr np))), (2, .int (nI v))]), W p l e (rmL 0) s m args below meth c H locs 0 0 Q (F0 m 131 ls []) := by
                  intro v
                  induction v with
                  | zero =>
                    intro  hv he H locs hW ls hl
                    refine lv_aload_n hx hb d_Model_apart_131 rfl (lv_at hl 0 rfl) ?_
                    refine R_get X hW i_Model rfl 19 (by decide) kf_Model_50 0 rfl rfl d_Model_apart_132 ?_
                    refine lv_iload_n hx hb d_Model_apart_135 rfl (lv_at hl 2 rfl) ?_
                    refine R_zald X hW (t0 := 1) rfl 14 rfl (k := 0) (by omega) (by decide) d_Model_apart_136 ?_
                    refine N_if_ne_B hx hb  (tgt := 146) d_Model_apart_137 (by decide) (fun c137 => ?_) (fun c137 => ?_)
                    · refine lv_iload_n hx hb d_Model_apart_146 rfl (lv_at hl 1 rfl) ?_
                      refine lv_iconst (v := (nI 2)) hx hb d_Model_apart_147 (by decide +kernel) ?_
                      refine lv_iload_n hx hb d_Model_apart_148 rfl (lv_at hl 2 rfl) ?_
                      refine N_imul hx hb d_Model_apart_149 ?_
                      refine N_isub (r := (sumF gr np) - (2 * 0)) hx hb (by omega) (by omega) d_Model_apart_150 ?_
                      exact R_iret X Y hW rfl (by rw [← he]; rfl) d_Model_apart_151
                    · exfalso; rw [h09] at c137; cases c137
                  | succ v ih131 =>
                    intro  hv he H locs hW ls hl
                    refine lv_aload_n hx hb d_Model_apart_131 rfl (lv_at hl 0 rfl) ?_
                    refine R_get X hW i_Model rfl 19 (by decide) kf_Model_50 0 rfl rfl d_Model_apart_132 ?_
                    refine lv_iload_n hx hb d_Model_apart_135 rfl (lv_at hl 2 rfl) ?_
                    refine R_zald X hW (t0 := 1) rfl 14 rfl (k := (v + 1)) (by omega) (by decide) d_Model_apart_136 ?_
                    refine N_if_ne_B hx hb  (tgt := 146) d_Model_apart_137 (by decide) (fun c137 => ?_) (fun c137 => ?_)
                    · refine lv_iload_n hx hb d_Model_apart_146 rfl (lv_at hl 1 rfl) ?_
                      refine lv_iconst (v := (nI 2)) hx hb d_Model_apart_147 (by decide +kernel) ?_
                      refine lv_iload_n hx hb d_Model_apart_148 rfl (lv_at hl 2 rfl) ?_
                      refine N_imul hx hb d_Model_apart_149 ?_
                      refine N_isub (r := (sumF gr np) - (2 * (v + 1))) hx hb (by omega) (by omega) d_Model_apart_150 ?_
                      exact R_iret X Y hW rfl (by rw [← he, lowG, if_pos c137]) d_Model_apart_151
                    · refine lv_iinc (v := (nI v)) (lv' := [(2, .int (nI v)), (0, .ref (hm 0)), (1, .int (nI (sumF gr np)))]) hx hb d_Model_apart_140 hl (k := 2) rfl (N_dec (r := v) (by omega) (by omega)) (by decide) rfl (fun ls hl => ?_)
                      refine lv_goto (tgt := 131) hx hb d_Model_apart_143 (by decide) ?_
                      exact ih131  (by omega) (by rw [← he, lowG, if_neg (by simp [c137])]) _ _ hW ls (lv_sub hl [1, 2, 0] rfl)
                exact L131 (sumF gr np / 2)  (Nat.le_refl _) rfl _ _ hW ls (lv_sub hl [1, 2, 0] rfl)
              · exfalso; omega
            | succ n2 ih48 =>
              intro s9 k2 hk2 hs H locs hW ls hl
              refine lv_iload_n hx hb d_Model_apart_48 rfl (lv_at hl 2 rfl) ?_
              refine lv_aload_n hx hb d_Model_apart_49 rfl (lv_at hl 0 rfl) ?_
              refine R_get X hW i_Model rfl 1 (by decide) kf_Model_64 0 rfl rfl d_Model_apart_50 ?_
              refine N_icmp_ge_NN hx hb (by omega) (by omega) (tgt := 127) d_Model_apart_53 (by decide) (fun c53 => ?_) (fun c53 => ?_)
              · exfalso; omega
              · have g1 := hgr k2 (by omega)
                refine lv_iload_n hx hb d_Model_apart_56 rfl (lv_at hl 1 rfl) ?_
                refine lv_aload_n hx hb d_Model_apart_57 rfl (lv_at hl 0 rfl) ?_
                refine R_get X hW i_Model rfl 4 (by decide) kf_Model_7 0 rfl rfl d_Model_apart_58 ?_
                refine lv_iload_n hx hb d_Model_apart_61 rfl (lv_at hl 2 rfl) ?_
                refine R_iald X hW (t0 := 0) rfl 1 rfl (k := k2) (by omega) (by decide) d_Model_apart_62 ?_
                refine N_iadd hx hb d_Model_apart_63 ?_
                refine lv_istore_n (lv' := [(1, .int (nI (s9 + (gr k2)))), (0, .ref (hm 0)), (2, .int (nI k2))]) hx hb d_Model_apart_64 rfl hl (by decide) rfl (fun ls hl => ?_)
                refine lv_sipush (v := (nI 2000)) hx hb d_Model_apart_65 (by decide +kernel) ?_
                refine lv_istore_n (lv' := [(3, .int (nI 2000)), (1, .int (nI (s9 + (gr k2)))), (0, .ref (hm 0)), (2, .int (nI k2))]) hx hb d_Model_apart_68 rfl hl (by decide) rfl (fun ls hl => ?_)
                have L69 : ∀ (v : Nat) (f : Nat → Bool) (hv : v ≤ 2000) (he : cbG (gr k2) v f = cbG (gr k2) 2000 (cbA gr k2 (upG (fun v => decide (v = 0)) 2001 mcb))) (H : Heap) (locs : List Loc) (hW : Wr G A s.heap (w_M hm cI cZ cJ 0 np ne ns tl mbd gr stt sp sq sec ans rt nw mtd un mss msc mip f msco mtim) H locs) (ls : Array Slot) (hl : lv_has ls 4 [(0, .ref (hm 0)), (1, .int (nI (s9 + (gr k2)))), (2, .int (nI k2)), (3, .int (nI v))]), W p l e (rmL 0) s m args below meth c H locs 0 0 Q (F0 m 69 ls []) := by
                  intro v
                  induction v with
                  | zero =>
                    intro f hv he H locs hW ls hl
                    refine lv_iload_n hx hb d_Model_apart_69 rfl (lv_at hl 3 rfl) ?_
                    refine lv_aload_n hx hb d_Model_apart_70 rfl (lv_at hl 0 rfl) ?_
                    refine R_get X hW i_Model rfl 4 (by decide) kf_Model_7 0 rfl rfl d_Model_apart_71 ?_
                    refine lv_iload_n hx hb d_Model_apart_74 rfl (lv_at hl 2 rfl) ?_
                    refine R_iald X hW (t0 := 0) rfl 1 rfl (k := k2) (by omega) (by decide) d_Model_apart_75 ?_
                    refine N_icmp_lt_NN hx hb (by decide) (by omega) (tgt := 121) d_Model_apart_76 (by decide) (fun c76 => ?_) (fun c76 => ?_)
                    · have e7 : f = cbG (gr k2) 2000 (cbA gr k2 (upG (fun v => decide (v = 0)) 2001 mcb)) := by rw [← he]; rfl
                      rw [e7] at hW
                      have hW : Wr G A s.heap (w_M hm cI cZ cJ 0 np ne ns tl mbd gr stt sp sq sec ans rt nw mtd un mss msc mip (cbA gr (k2 + 1) (upG (fun v => decide (v = 0)) 2001 mcb)) msco mtim) H locs := hW
                      refine lv_iinc (v := (nI (k2 + 1))) (lv' := [(2, .int (nI (k2 + 1))), (0, .ref (hm 0)), (1, .int (nI (s9 + (gr k2)))), (3, .int (nI 0))]) hx hb d_Model_apart_121 hl (k := 2) rfl (N_inc k2) (by decide) rfl (fun ls hl => ?_)
                      refine lv_goto (tgt := 48) hx hb d_Model_apart_124 (by decide) ?_
                      exact ih48 (s9 + (gr k2)) (k2 + 1) (by omega) (by rw [hs]; rfl) _ _ hW ls (lv_sub hl [1, 2, 0] rfl)
                    · exfalso; omega
                  | succ v ih69 =>
                    intro f hv he H locs hW ls hl
                    refine lv_iload_n hx hb d_Model_apart_69 rfl (lv_at hl 3 rfl) ?_
                    refine lv_aload_n hx hb d_Model_apart_70 rfl (lv_at hl 0 rfl) ?_
                    refine R_get X hW i_Model rfl 4 (by decide) kf_Model_7 0 rfl rfl d_Model_apart_71 ?_
                    refine lv_iload_n hx hb d_Model_apart_74 rfl (lv_at hl 2 rfl) ?_
                    refine R_iald X hW (t0 := 0) rfl 1 rfl (k := k2) (by omega) (by decide) d_Model_apart_75 ?_
                    refine N_icmp_lt_NN hx hb (by omega) (by omega) (tgt := 121) d_Model_apart_76 (by decide) (fun c76 => ?_) (fun c76 => ?_)
                    · have e7 : f = cbG (gr k2) 2000 (cbA gr k2 (upG (fun v => decide (v = 0)) 2001 mcb)) := by rw [← he, cbG, if_pos c76]
                      rw [e7] at hW
                      have hW : Wr G A s.heap (w_M hm cI cZ cJ 0 np ne ns tl mbd gr stt sp sq sec ans rt nw mtd un mss msc mip (cbA gr (k2 + 1) (upG (fun v => decide (v = 0)) 2001 mcb)) msco mtim) H locs := hW
                      refine lv_iinc (v := (nI (k2 + 1))) (lv' := [(2, .int (nI (k2 + 1))), (0, .ref (hm 0)), (1, .int (nI (s9 + (gr k2)))), (3, .int (nI (v + 1)))]) hx hb d_Model_apart_121 hl (k := 2) rfl (N_inc k2) (by decide) rfl (fun ls hl => ?_)
                      refine lv_goto (tgt := 48) hx hb d_Model_apart_124 (by decide) ?_
                      exact ih48 (s9 + (gr k2)) (k2 + 1) (by omega) (by rw [hs]; rfl) _ _ hW ls (lv_sub hl [1, 2, 0] rfl)
                    · refine lv_aload_n hx hb d_Model_apart_79 rfl (lv_at hl 0 rfl) ?_
                      refine R_get X hW i_Model rfl 19 (by decide) kf_Model_50 0 rfl rfl d_Model_apart_80 ?_
                      refine lv_iload_n hx hb d_Model_apart_83 rfl (lv_at hl 3 rfl) ?_
                      refine lv_aload_n hx hb d_Model_apart_84 rfl (lv_at hl 0 rfl) ?_
                      refine R_get X hW i_Model rfl 19 (by decide) kf_Model_50 0 rfl rfl d_Model_apart_85 ?_
                      refine lv_iload_n hx hb d_Model_apart_88 rfl (lv_at hl 3 rfl) ?_
                      refine R_zald X hW (t0 := 1) rfl 14 rfl (k := (v + 1)) (by omega) (by decide) d_Model_apart_89 ?_
                      refine N_if_ne_B hx hb  (tgt := 109) d_Model_apart_90 (by decide) (fun c90 => ?_) (fun c90 => ?_)
                      · refine lv_iconst (v := (nI 1)) hx hb d_Model_apart_109 (by decide +kernel) ?_
                        refine lv_goto (tgt := 114) hx hb d_Model_apart_110 (by decide) ?_
                        refine R_zast X hW (t0 := 1) rfl 14 rfl (k := (v + 1)) (by omega) (by decide) true (by decide +kernel) d_Model_apart_114 (fun H locs hW => ?_)
                        have hW : Wr G A s.heap (w_M hm cI cZ cJ 0 np ne ns tl mbd gr stt sp sq sec ans rt nw mtd un mss msc mip (va_up f (v + 1) true) msco mtim) H locs := hW
                        refine lv_iinc (v := (nI v)) (lv' := [(3, .int (nI v)), (0, .ref (hm 0)), (1, .int (nI (s9 + (gr k2)))), (2, .int (nI k2))]) hx hb d_Model_apart_115 hl (k := 3) rfl (N_dec (r := v) (by omega) (by omega)) (by decide) rfl (fun ls hl => ?_)
                        refine lv_goto (tgt := 69) hx hb d_Model_apart_118 (by decide) ?_
                        exact ih69 (va_up f (v + 1) true) (by omega) (by rw [← he, cbG, if_neg (by omega), c90, Bool.true_or]) _ _ hW ls (lv_sub hl [1, 2, 3, 0] rfl)
                      · refine lv_aload_n hx hb d_Model_apart_93 rfl (lv_at hl 0 rfl) ?_
                        refine R_get X hW i_Model rfl 19 (by decide) kf_Model_50 0 rfl rfl d_Model_apart_94 ?_
                        refine lv_iload_n hx hb d_Model_apart_97 rfl (lv_at hl 3 rfl) ?_
                        refine lv_aload_n hx hb d_Model_apart_98 rfl (lv_at hl 0 rfl) ?_
                        refine R_get X hW i_Model rfl 4 (by decide) kf_Model_7 0 rfl rfl d_Model_apart_99 ?_
                        refine lv_iload_n hx hb d_Model_apart_102 rfl (lv_at hl 2 rfl) ?_
                        refine R_iald X hW (t0 := 0) rfl 1 rfl (k := k2) (by omega) (by decide) d_Model_apart_103 ?_
                        refine N_isub (r := (v + 1) - (gr k2)) hx hb (by omega) (by omega) d_Model_apart_104 ?_
                        refine R_zald X hW (t0 := 1) rfl 14 rfl (k := ((v + 1) - (gr k2))) (by omega) (by decide) d_Model_apart_105 ?_
                        refine N_if_eq_B hx hb  (tgt := 113) d_Model_apart_106 (by decide) (fun c106 => ?_) (fun c106 => ?_)
                        · refine lv_iconst (v := (nI 0)) hx hb d_Model_apart_113 (by decide +kernel) ?_
                          refine R_zast X hW (t0 := 1) rfl 14 rfl (k := (v + 1)) (by omega) (by decide) false (by decide +kernel) d_Model_apart_114 (fun H locs hW => ?_)
                          have hW : Wr G A s.heap (w_M hm cI cZ cJ 0 np ne ns tl mbd gr stt sp sq sec ans rt nw mtd un mss msc mip (va_up f (v + 1) false) msco mtim) H locs := hW
                          refine lv_iinc (v := (nI v)) (lv' := [(3, .int (nI v)), (0, .ref (hm 0)), (1, .int (nI (s9 + (gr k2)))), (2, .int (nI k2))]) hx hb d_Model_apart_115 hl (k := 3) rfl (N_dec (r := v) (by omega) (by omega)) (by decide) rfl (fun ls hl => ?_)
                          refine lv_goto (tgt := 69) hx hb d_Model_apart_118 (by decide) ?_
                          exact ih69 (va_up f (v + 1) false) (by omega) (by rw [← he, cbG, if_neg (by omega), c90, c106]; rfl) _ _ hW ls (lv_sub hl [1, 2, 3, 0] rfl)
                        · refine lv_iconst (v := (nI 1)) hx hb d_Model_apart_109 (by decide +kernel) ?_
                          refine lv_goto (tgt := 114) hx hb d_Model_apart_110 (by decide) ?_
                          refine R_zast X hW (t0 := 1) rfl 14 rfl (k := (v + 1)) (by omega) (by decide) true (by decide +kernel) d_Model_apart_114 (fun H locs hW => ?_)
                          have hW : Wr G A s.heap (w_M hm cI cZ cJ 0 np ne ns tl mbd gr stt sp sq sec ans rt nw mtd un mss msc mip (va_up f (v + 1) true) msco mtim) H locs := hW
                          refine lv_iinc (v := (nI v)) (lv' := [(3, .int (nI v)), (0, .ref (hm 0)), (1, .int (nI (s9 + (gr k2)))), (2, .int (nI k2))]) hx hb d_Model_apart_115 hl (k := 3) rfl (N_dec (r := v) (by omega) (by omega)) (by decide) rfl (fun ls hl => ?_)
                          refine lv_goto (tgt := 69) hx hb d_Model_apart_118 (by decide) ?_
                          exact ih69 (va_up f (v + 1) true) (by omega) (by rw [← he, cbG, if_neg (by omega), c90, c106]; rfl) _ _ hW ls (lv_sub hl [1, 2, 3, 0] rfl)
                exact L69 2000 (cbA gr k2 (upG (fun v => decide (v = 0)) 2001 mcb)) (by omega) rfl _ _ hW ls (lv_sub hl [2, 1, 3, 0] rfl)
          exact L48 np 0 0 (by omega) rfl _ _ hW ls (lv_sub hl [1, 2, 0] rfl)
        · exfalso; omega
      | succ n ih18 =>
        intro i hi H locs hW ls hl
        refine lv_iload_n hx hb d_Model_apart_18 rfl (lv_at hl 2 rfl) ?_
        refine lv_sipush (v := (nI 2001)) hx hb d_Model_apart_19 (by decide +kernel) ?_
        refine N_icmp_ge_NN hx hb (by omega) (by decide) (tgt := 46) d_Model_apart_22 (by decide) (fun c22 => ?_) (fun c22 => ?_)
        · exfalso; omega
        · refine lv_aload_n hx hb d_Model_apart_25 rfl (lv_at hl 0 rfl) ?_
          refine R_get X hW i_Model rfl 19 (by decide) kf_Model_50 0 rfl rfl d_Model_apart_26 ?_
          refine lv_iload_n hx hb d_Model_apart_29 rfl (lv_at hl 2 rfl) ?_
          refine lv_iload_n hx hb d_Model_apart_30 rfl (lv_at hl 2 rfl) ?_
          refine N_if_ne_N hx hb (by omega) (tgt := 38) d_Model_apart_31 (by decide) (fun c31 => ?_) (fun c31 => ?_)
          · refine lv_iconst (v := (nI 0)) hx hb d_Model_apart_38 (by decide +kernel) ?_
            refine R_zast X hW (t0 := 1) rfl 14 rfl (k := i) (by omega) (by decide) false (by decide +kernel) d_Model_apart_39 (fun H locs hW => ?_)
            have hW : Wr G A s.heap (w_M hm cI cZ cJ 0 np ne ns tl mbd gr stt sp sq sec ans rt nw mtd un mss msc mip (va_up (upG (fun v => decide (v = 0)) i mcb) i false) msco mtim) H locs := hW
            have e6 : va_up (upG (fun v => decide (v = 0)) i mcb) i false = upG (fun v => decide (v = 0)) (i + 1) mcb := by show _ = va_up _ i (decide (i = 0)); rw [decide_eq_false (by omega)]
            rw [e6] at hW
            refine lv_iinc (v := (nI (i + 1))) (lv' := [(2, .int (nI (i + 1))), (0, .ref (hm 0)), (1, .int (nI 0))]) hx hb d_Model_apart_40 hl (k := 2) rfl (N_inc i) (by decide) rfl (fun ls hl => ?_)
            refine lv_goto (tgt := 18) hx hb d_Model_apart_43 (by decide) ?_
            exact ih18 (i + 1) (by omega) _ _ hW ls (lv_sub hl [1, 2, 0] rfl)
          · refine lv_iconst (v := (nI 1)) hx hb d_Model_apart_34 (by decide +kernel) ?_
            refine lv_goto (tgt := 39) hx hb d_Model_apart_35 (by decide) ?_
            refine R_zast X hW (t0 := 1) rfl 14 rfl (k := i) (by omega) (by decide) true (by decide +kernel) d_Model_apart_39 (fun H locs hW => ?_)
            have hW : Wr G A s.heap (w_M hm cI cZ cJ 0 np ne ns tl mbd gr stt sp sq sec ans rt nw mtd un mss msc mip (va_up (upG (fun v => decide (v = 0)) i mcb) i true) msco mtim) H locs := hW
            have e6 : va_up (upG (fun v => decide (v = 0)) i mcb) i true = upG (fun v => decide (v = 0)) (i + 1) mcb := by show _ = va_up _ i (decide (i = 0)); rw [decide_eq_true (by omega)]
            rw [e6] at hW
            refine lv_iinc (v := (nI (i + 1))) (lv' := [(2, .int (nI (i + 1))), (0, .ref (hm 0)), (1, .int (nI 0))]) hx hb d_Model_apart_40 hl (k := 2) rfl (N_inc i) (by decide) rfl (fun ls hl => ?_)
            refine lv_goto (tgt := 18) hx hb d_Model_apart_43 (by decide) ?_
            exact ih18 (i + 1) (by omega) _ _ hW ls (lv_sub hl [1, 2, 0] rfl)
    exact L18 2001 0 (by omega) _ _ hW ls (lv_sub hl [2, 1, 0] rfl)
  · exfalso; omega

set_option maxHeartbeats 4000000 in
set_option maxRecDepth 100000 in
theorem m_firstWrong (l : Launch) (G : va_G) (cI cZ cJ : ClassId) (hm : Nat → Nat) (mth : Nat) (np : Nat) (ne : Nat) (ns : Nat) (tl : Nat) (mbd : Option Nat) (gr : Nat → Nat) (stt : Nat → Option Nat) (sp : Nat → Nat) (sq : Nat → Nat) (sec : Nat → Nat) (ans : Nat → Nat) (rt : Nat → Bool) (nw : Nat → Nat) (mtd : Nat → Nat) (un : Nat → Nat) (mss : Nat → Nat) (msc : Nat → Nat) (mip : Nat → Bool) (mcb : Nat → Bool) (msco : Nat → Nat) (mtim : Nat → Nat) (x : Nat) (y : Nat) (w : Nat) (hx0 : x < 20) (hy0 : y < 20) (hw0 : w < 2 ^ 31) (hI : IS np ne ns gr nw sp sq sec (fun i => i) ans stt) : Ct l G (tyL cI cZ cJ) y_Model_firstWrong b_Model_firstWrong 5 (some .int) (rmL 1) [.ref (hm 0), .int (nI x), .int (nI y), .int (nI w)] (w_M hm cI cZ cJ mth np ne ns tl mbd gr stt sp sq sec ans rt nw mtd un mss msc mip mcb msco mtim) (some (.int (oI (fstG (fwM sp sq ans rt x y w) ns 0)))) (w_M hm cI cZ cJ mth np ne ns tl mbd gr stt sp sq sec ans rt nw mtd un mss msc mip mcb msco mtim) := by
  refine M_start (by decide) (Nat.le_of_ble_eq_true rfl) ?_
  intro p e s m args below meth c A Q ls X Y hW hl
  have hx := X.1.1
  have hb := X.1.2.1
  have hl : lv_has ls 5 [(0, .ref (hm 0)), (1, .int (nI x)), (2, .int (nI y)), (3, .int (nI w))] := hl
  obtain ⟨z1, z2, z3, z4, z5, z6, z7, z8, z9, z10, z11, z12, z13⟩ := id hI
  refine lv_iconst (v := (nI 0)) hx hb d_Model_firstWrong_0 (by decide +kernel) ?_
  refine lv_istore (lv' := [(4, .int (nI 0)), (0, .ref (hm 0)), (1, .int (nI x)), (2, .int (nI y)), (3, .int (nI w))]) hx hb d_Model_firstWrong_1 hl (by decide) rfl (fun ls hl => ?_)
  have L3 : ∀ (n : Nat) (i : Nat) (hi : i + n = ns) (he : fstG (fwM sp sq ans rt x y w) n i = fstG (fwM sp sq ans rt x y w) ns 0) (H : Heap) (locs : List Loc) (hW : Wr G A s.heap (w_M hm cI cZ cJ mth np ne ns tl mbd gr stt sp sq sec ans rt nw mtd un mss msc mip mcb msco mtim) H locs) (ls : Array Slot) (hl : lv_has ls 5 [(0, .ref (hm 0)), (1, .int (nI x)), (2, .int (nI y)), (3, .int (nI w)), (4, .int (nI i))]), W p l e (rmL 1) s m args below meth c H locs 0 0 Q (F0 m 3 ls []) := by
    intro n
    induction n with
    | zero =>
      intro i hi he H locs hW ls hl
      refine lv_iload hx hb d_Model_firstWrong_3 (lv_at hl 4 rfl) ?_
      refine lv_aload_n hx hb d_Model_firstWrong_5 rfl (lv_at hl 0 rfl) ?_
      refine R_get X hW i_Model rfl 3 (by decide) kf_Model_70 0 rfl rfl d_Model_firstWrong_6 ?_
      refine N_icmp_ge_NN hx hb (by omega) (by omega) (tgt := 53) d_Model_firstWrong_9 (by decide) (fun c9 => ?_) (fun c9 => ?_)
      · refine lv_iconst (v := (-1)) hx hb d_Model_firstWrong_53 (by decide +kernel) ?_
        exact R_iret X Y hW rfl (by rw [← he]; rfl) d_Model_firstWrong_54
      · exfalso; omega
    | succ n ih3 =>
      intro i hi he H locs hW ls hl
      refine lv_iload hx hb d_Model_firstWrong_3 (lv_at hl 4 rfl) ?_
      refine lv_aload_n hx hb d_Model_firstWrong_5 rfl (lv_at hl 0 rfl) ?_
      refine R_get X hW i_Model rfl 3 (by decide) kf_Model_70 0 rfl rfl d_Model_firstWrong_6 ?_
      refine N_icmp_ge_NN hx hb (by omega) (by omega) (tgt := 53) d_Model_firstWrong_9 (by decide) (fun c9 => ?_) (fun c9 => ?_)
      · exfalso; omega
      · have q1 := z10 i (by omega)
        refine lv_aload_n hx hb d_Model_firstWrong_12 rfl (lv_at hl 0 rfl) ?_
        refine lv_iload hx hb d_Model_firstWrong_13 (lv_at hl 4 rfl) ?_
        refine lv_iload_n hx hb d_Model_firstWrong_15 rfl (lv_at hl 1 rfl) ?_
        refine lv_iload_n hx hb d_Model_firstWrong_16 rfl (lv_at hl 2 rfl) ?_
        refine R_callV (q0 := 0) (m_isOf l G cI cZ cJ hm mth np ne ns tl mbd gr stt sp sq sec ans rt nw mtd un mss msc mip mcb msco mtim i x y (by omega) hx0 hy0 z13) X rfl hW cw_Model_109 ki_Model_isOf ks_Model_isOf rfl rfl ⟨rfl, rfl⟩ ⟨by decide, by decide⟩ ⟨Nat.zero_le _, Nat.zero_le _⟩ [true, true, true, true, true, true, true, true, true, true, true, true, true, true, true, true, true] rfl (Nat.le_of_ble_eq_true rfl) rfl rfl hl.1 rfl rfl (Nat.le_of_ble_eq_true rfl) d_Model_firstWrong_17 rfl (fun H locs hW => ?_)
        have hW : Wr G A s.heap (w_M hm cI cZ cJ mth np ne ns tl mbd gr stt sp sq sec ans rt nw mtd un mss msc mip mcb msco mtim) H locs := hW
        refine N_if_eq_B hx hb  (tgt := 47) d_Model_firstWrong_20 (by decide) (fun c20 => ?_) (fun c20 => ?_)
        · refine lv_iinc (v := (nI (i + 1))) (lv' := [(4, .int (nI (i + 1))), (0, .ref (hm 0)), (1, .int (nI x)), (2, .int (nI y)), (3, .int (nI w))]) hx hb d_Model_firstWrong_47 hl (k := 4) rfl (N_inc i) (by decide) rfl (fun ls hl => ?_)
          refine lv_goto (tgt := 3) hx hb d_Model_firstWrong_50 (by decide) ?_
          exact ih3 (i + 1) (by omega) (by rw [← he, fstG, if_neg (by simp [fwM, c20])]) _ _ hW ls (lv_sub hl [1, 2, 3, 4, 0] rfl)
        · refine lv_aload_n hx hb d_Model_firstWrong_23 rfl (lv_at hl 0 rfl) ?_
          refine R_get X hW i_Model rfl 10 (by decide) kf_Model_28 0 rfl rfl d_Model_firstWrong_24 ?_
          refine lv_iload hx hb d_Model_firstWrong_27 (lv_at hl 4 rfl) ?_
          refine R_zald X hW (t0 := 1) rfl 7 rfl (k := i) (by omega) (by decide) d_Model_firstWrong_29 ?_
          refine N_if_ne_B hx hb  (tgt := 47) d_Model_firstWrong_30 (by decide) (fun c30 => ?_) (fun c30 => ?_)
          · refine lv_iinc (v := (nI (i + 1))) (lv' := [(4, .int (nI (i + 1))), (0, .ref (hm 0)), (1, .int (nI x)), (2, .int (nI y)), (3, .int (nI w))]) hx hb d_Model_firstWrong_47 hl (k := 4) rfl (N_inc i) (by decide) rfl (fun ls hl => ?_)
            refine lv_goto (tgt := 3) hx hb d_Model_firstWrong_50 (by decide) ?_
            exact ih3 (i + 1) (by omega) (by rw [← he, fstG, if_neg (by simp [fwM, c30])]) _ _ hW ls (lv_sub hl [1, 2, 3, 4, 0] rfl)
          · refine lv_aload_n hx hb d_Model_firstWrong_33 rfl (lv_at hl 0 rfl) ?_
            refine R_get X hW i_Model rfl 9 (by decide) kf_Model_25 0 rfl rfl d_Model_firstWrong_34 ?_
            refine lv_iload hx hb d_Model_firstWrong_37 (lv_at hl 4 rfl) ?_
            refine R_iald X hW (t0 := 0) rfl 6 rfl (k := i) (by omega) (by decide) d_Model_firstWrong_39 ?_
            refine lv_iload_n hx hb d_Model_firstWrong_40 rfl (lv_at hl 3 rfl) ?_
            refine N_icmp_ne_NN hx hb (by omega) (by omega) (tgt := 47) d_Model_firstWrong_41 (by decide) (fun c41 => ?_) (fun c41 => ?_)
            · refine lv_iinc (v := (nI (i + 1))) (lv' := [(4, .int (nI (i + 1))), (0, .ref (hm 0)), (1, .int (nI x)), (2, .int (nI y)), (3, .int (nI w))]) hx hb d_Model_firstWrong_47 hl (k := 4) rfl (N_inc i) (by decide) rfl (fun ls hl => ?_)
              refine lv_goto (tgt := 3) hx hb d_Model_firstWrong_50 (by decide) ?_
              exact ih3 (i + 1) (by omega) (by rw [← he, fstG, if_neg (by simp [fwM, c41])]) _ _ hW ls (lv_sub hl [1, 2, 3, 4, 0] rfl)
            · refine lv_iload hx hb d_Model_firstWrong_44 (lv_at hl 4 rfl) ?_
              exact R_iret X Y hW rfl (by rw [← he, fstG, if_pos (by simp [fwM, c20, c30, c41])]; rfl) d_Model_firstWrong_46
  exact L3 ns 0 (by omega) rfl _ _ hW ls (lv_sub hl [1, 2, 3, 4, 0] rfl)

set_option maxHeartbeats 4000000 in
set_option maxRecDepth 100000 in
theorem m_even_bad (l : Launch) (G : va_G) (cI cZ cJ : ClassId) (hm : Nat → Nat) (mth : Nat) (np : Nat) (ne : Nat) (ns : Nat) (tl : Nat) (mbd : Option Nat) (gr : Nat → Nat) (stt : Nat → Option Nat) (sp : Nat → Nat) (sq : Nat → Nat) (sec : Nat → Nat) (ans : Nat → Nat) (rt : Nat → Bool) (nw : Nat → Nat) (mtd : Nat → Nat) (un : Nat → Nat) (mss : Nat → Nat) (msc : Nat → Nat) (mip : Nat → Bool) (mcb : Nat → Bool) (msco : Nat → Nat) (mtim : Nat → Nat) (k : Int32) (q : Int32) (hbad : ¬ (1 ≤ k.toInt ∧ k.toInt ≤ 6 ∧ inB q np = true)) (hn : np ≤ 20) : Ct l G (tyL cI cZ cJ) y_Model_even b_Model_even 6 (some .int) (rmL 1) [.ref (hm 0), .int k, .int q] (w_M hm cI cZ cJ mth np ne ns tl mbd gr stt sp sq sec ans rt nw mtd un mss msc mip mcb msco mtim) (some (.int (-1))) (w_M hm cI cZ cJ 0 np ne ns tl mbd gr stt sp sq sec ans rt nw mtd un mss msc mip mcb msco mtim) := by
  refine M_start (by decide) (Nat.le_of_ble_eq_true rfl) ?_
  intro p e s m args below meth c A Q ls X Y hW hl
  have hx := X.1.1
  have hb := X.1.2.1
  have hl : lv_has ls 6 [(0, .ref (hm 0)), (1, .int k), (2, .int q)] := hl
  refine lv_aload_n hx hb d_Model_even_0 rfl (lv_at hl 0 rfl) ?_
  refine lv_iconst (v := (nI 0)) hx hb d_Model_even_1 (by decide +kernel) ?_
  refine R_put X hW i_Model rfl t_Model t_Model_ok n_Model 0 (by decide) kf_Model_60 rfl (ty := .int) (by decide +kernel) 0 rfl (v := .int (nI 0)) rfl rfl (Nat.le_of_ble_eq_true rfl) d_Model_even_2 (fun H locs hW => ?_)
  have hW : Wr G A s.heap (w_M hm cI cZ cJ 0 np ne ns tl mbd gr stt sp sq sec ans rt nw mtd un mss msc mip mcb msco mtim) H locs := hW
  refine lv_iload_n hx hb d_Model_even_5 rfl (lv_at hl 1 rfl) ?_
  refine lv_iconst (v := (nI 1)) hx hb d_Model_even_6 (by decide +kernel) ?_
  refine N_icmp_lt_RN hx hb (by decide) (tgt := 24) d_Model_even_7 (by decide) (fun c7 => ?_) (fun c7 => ?_)
  · refine lv_iconst (v := (-1)) hx hb d_Model_even_24 (by decide +kernel) ?_
    exact R_iret X Y hW rfl rfl d_Model_even_25
  · refine lv_iload_n hx hb d_Model_even_10 rfl (lv_at hl 1 rfl) ?_
    refine lv_bipush (v := (nI 6)) hx hb d_Model_even_11 (by decide +kernel) ?_
    refine N_icmp_gt_RN hx hb (by decide) (tgt := 24) d_Model_even_13 (by decide) (fun c13 => ?_) (fun c13 => ?_)
    · refine lv_iconst (v := (-1)) hx hb d_Model_even_24 (by decide +kernel) ?_
      exact R_iret X Y hW rfl rfl d_Model_even_25
    · refine lv_aload_n hx hb d_Model_even_16 rfl (lv_at hl 0 rfl) ?_
      refine lv_iload_n hx hb d_Model_even_17 rfl (lv_at hl 2 rfl) ?_
      refine R_callV (q0 := 0) (m_isPuzzle l G cI cZ cJ hm 0 np ne ns tl mbd gr stt sp sq sec ans rt nw mtd un mss msc mip mcb msco mtim q (by omega)) X rfl hW cw_Model_97 ki_Model_isPuzzle ks_Model_isPuzzle rfl rfl ⟨rfl, rfl⟩ ⟨by decide, by decide⟩ ⟨Nat.zero_le _, Nat.zero_le _⟩ [true, true, true, true, true, true, true, true, true, true, true, true, true, true, true, true, true] rfl (Nat.le_of_ble_eq_true rfl) rfl rfl hl.1 rfl rfl (Nat.le_of_ble_eq_true rfl) d_Model_even_18 rfl (fun H locs hW => ?_)
      have hW : Wr G A s.heap (w_M hm cI cZ cJ 0 np ne ns tl mbd gr stt sp sq sec ans rt nw mtd un mss msc mip mcb msco mtim) H locs := hW
      refine N_if_ne_B hx hb  (tgt := 26) d_Model_even_21 (by decide) (fun c21 => ?_) (fun c21 => ?_)
      · exact absurd ⟨by omega, by omega, c21⟩ hbad
      · refine lv_iconst (v := (-1)) hx hb d_Model_even_24 (by decide +kernel) ?_
        exact R_iret X Y hW rfl rfl d_Model_even_25

theorem kb_Model_next : Cond.code y_Model_next b_Model_next 3 (some .int) ∈ TBL := TBL_t (List.mem_append_right _ (List.mem_append_right _ (List.mem_of_getElem? (i := 224) rfl))) rfl
theorem km_Model_151 : Cond.methodLink "ContestRowsModel" 151 y_Model_next ∈ TBL := TBL_t (List.mem_append_right _ (List.mem_append_right _ (List.mem_of_getElem? (i := 221) rfl))) rfl
theorem cw_Model_151 : Cw "ContestRowsModel" 151 y_Model_next b_Model_next 3 (some .int) 0 := ⟨kb_Model_next, kn_Model, km_Model_151, by decide +kernel⟩
theorem ki_Model_next : Cond.instanceMethod y_Model_next ∈ TBL := TBL_t (List.mem_append_right _ (List.mem_append_right _ (List.mem_of_getElem? (i := 223) rfl))) rfl
theorem ks_Model_next : Cond.selects "ContestRowsModel" y_Model_next y_Model_next ∈ TBL := TBL_in (List.mem_append_left _ (List.mem_map.mpr ⟨(y_Model_next, 22), by decide +kernel, rfl⟩)) rfl
theorem kf_Model_41 : Cond.fieldLink "ContestRowsModel" 41 "ContestRowsModel" "sums" "[I" ∈ TBL := TBL_t (List.mem_append_right _ (List.mem_append_right _ (List.mem_of_getElem? (i := 33) rfl))) rfl
theorem kf_Model_44 : Cond.fieldLink "ContestRowsModel" 44 "ContestRowsModel" "counts" "[I" ∈ TBL := TBL_t (List.mem_append_right _ (List.mem_append_right _ (List.mem_of_getElem? (i := 34) rfl))) rfl
set_option maxHeartbeats 4000000 in
set_option maxRecDepth 100000 in
theorem m_even_ok (l : Launch) (G : va_G) (cI cZ cJ : ClassId) (hm : Nat → Nat) (mth : Nat) (np : Nat) (ne : Nat) (ns : Nat) (tl : Nat) (mbd : Option Nat) (gr : Nat → Nat) (stt : Nat → Option Nat) (sp : Nat → Nat) (sq : Nat → Nat) (sec : Nat → Nat) (ans : Nat → Nat) (rt : Nat → Bool) (nw : Nat → Nat) (mtd : Nat → Nat) (un : Nat → Nat) (mss : Nat → Nat) (msc : Nat → Nat) (mip : Nat → Bool) (mcb : Nat → Bool) (msco : Nat → Nat) (mtim : Nat → Nat) (k : Nat) (q : Nat) (hk : 1 ≤ k ∧ k ≤ 6) (hq : q < np) (hn : np ≤ 20) (hgr : ∀ i, i < 20 → gr i ≤ 100) : Ct l G (tyL cI cZ cJ) y_Model_even b_Model_even 6 (some .int) (rmL 1) [.ref (hm 0), .int (nI k), .int (nI q)] (w_M hm cI cZ cJ mth np ne ns tl mbd gr stt sp sq sec ans rt nw mtd un mss msc mip mcb msco mtim) (some (.int (nI ((evG gr np k q 21 0 (upK 0 6 mss) (upK 0 6 msc) (upK false 20 mip)).1)))) (w_M hm cI cZ cJ 0 np ne ns tl mbd gr stt sp sq sec ans rt nw mtd un ((evG gr np k q 21 0 (upK 0 6 mss) (upK 0 6 msc) (upK false 20 mip)).2.1) ((evG gr np k q 21 0 (upK 0 6 mss) (upK 0 6 msc) (upK false 20 mip)).2.2.1) ((evG gr np k q 21 0 (upK 0 6 mss) (upK 0 6 msc) (upK false 20 mip)).2.2.2) mcb msco mtim) := by
  refine M_start (by decide) (Nat.le_of_ble_eq_true rfl) ?_
  intro p e s m args below meth c A Q ls X Y hW hl
  have hx := X.1.1
  have hb := X.1.2.1
  have hl : lv_has ls 6 [(0, .ref (hm 0)), (1, .int (nI k)), (2, .int (nI q))] := hl
  refine lv_aload_n hx hb d_Model_even_0 rfl (lv_at hl 0 rfl) ?_
  refine lv_iconst (v := (nI 0)) hx hb d_Model_even_1 (by decide +kernel) ?_
  refine R_put X hW i_Model rfl t_Model t_Model_ok n_Model 0 (by decide) kf_Model_60 rfl (ty := .int) (by decide +kernel) 0 rfl (v := .int (nI 0)) rfl rfl (Nat.le_of_ble_eq_true rfl) d_Model_even_2 (fun H locs hW => ?_)
  have hW : Wr G A s.heap (w_M hm cI cZ cJ 0 np ne ns tl mbd gr stt sp sq sec ans rt nw mtd un mss msc mip mcb msco mtim) H locs := hW
  refine lv_iload_n hx hb d_Model_even_5 rfl (lv_at hl 1 rfl) ?_
  refine lv_iconst (v := (nI 1)) hx hb d_Model_even_6 (by decide +kernel) ?_
  refine N_icmp_lt_NN hx hb (by omega) (by decide) (tgt := 24) d_Model_even_7 (by decide) (fun c7 => ?_) (fun c7 => ?_)
  · exfalso; omega
  · refine lv_iload_n hx hb d_Model_even_10 rfl (lv_at hl 1 rfl) ?_
    refine lv_bipush (v := (nI 6)) hx hb d_Model_even_11 (by decide +kernel) ?_
    refine N_icmp_gt_NN hx hb (by omega) (by decide) (tgt := 24) d_Model_even_13 (by decide) (fun c13 => ?_) (fun c13 => ?_)
    · exfalso; omega
    · refine lv_aload_n hx hb d_Model_even_16 rfl (lv_at hl 0 rfl) ?_
      refine lv_iload_n hx hb d_Model_even_17 rfl (lv_at hl 2 rfl) ?_
      refine R_callV (q0 := 0) (m_isPuzzle l G cI cZ cJ hm 0 np ne ns tl mbd gr stt sp sq sec ans rt nw mtd un mss msc mip mcb msco mtim (nI q) (by omega)) X rfl hW cw_Model_97 ki_Model_isPuzzle ks_Model_isPuzzle rfl rfl ⟨rfl, rfl⟩ ⟨by decide, by decide⟩ ⟨Nat.zero_le _, Nat.zero_le _⟩ [true, true, true, true, true, true, true, true, true, true, true, true, true, true, true, true, true] rfl (Nat.le_of_ble_eq_true rfl) rfl rfl hl.1 rfl rfl (Nat.le_of_ble_eq_true rfl) d_Model_even_18 rfl (fun H locs hW => ?_)
      have hW : Wr G A s.heap (w_M hm cI cZ cJ 0 np ne ns tl mbd gr stt sp sq sec ans rt nw mtd un mss msc mip mcb msco mtim) H locs := hW
      refine N_if_ne_B hx hb  (tgt := 26) d_Model_even_21 (by decide) (fun c21 => ?_) (fun c21 => ?_)
      · refine lv_iconst (v := (nI 0)) hx hb d_Model_even_26 (by decide +kernel) ?_
        refine lv_istore_n (lv' := [(3, .int (nI 0)), (0, .ref (hm 0)), (1, .int (nI k)), (2, .int (nI q))]) hx hb d_Model_even_27 rfl hl (by decide) rfl (fun ls hl => ?_)
        have L28 : ∀ (n : Nat) (i : Nat) (hi : i + n = 6) (H : Heap) (locs : List Loc) (hW : Wr G A s.heap (w_M hm cI cZ cJ 0 np ne ns tl mbd gr stt sp sq sec ans rt nw mtd un (upK 0 i mss) (upK 0 i msc) mip mcb msco mtim) H locs) (ls : Array Slot) (hl : lv_has ls 6 [(0, .ref (hm 0)), (1, .int (nI k)), (2, .int (nI q)), (3, .int (nI i))]), W p l e (rmL 1) s m args below meth c H locs 0 0 Q (F0 m 28 ls []) := by
          intro n
          induction n with
          | zero =>
            intro i hi H locs hW ls hl
            refine lv_iload_n hx hb d_Model_even_28 rfl (lv_at hl 3 rfl) ?_
            refine lv_bipush (v := (nI 6)) hx hb d_Model_even_29 (by decide +kernel) ?_
            refine N_icmp_ge_NN hx hb (by omega) (by decide) (tgt := 54) d_Model_even_31 (by decide) (fun c31 => ?_) (fun c31 => ?_)
            · have e9 : 6 = i := by omega
              subst e9
              refine lv_iconst (v := (nI 0)) hx hb d_Model_even_54 (by decide +kernel) ?_
              refine lv_istore_n (lv' := [(3, .int (nI 0)), (0, .ref (hm 0)), (1, .int (nI k)), (2, .int (nI q))]) hx hb d_Model_even_55 rfl hl (by decide) rfl (fun ls hl => ?_)
              have L56 : ∀ (n2 : Nat) (i2 : Nat) (hi2 : i2 + n2 = 20) (H : Heap) (locs : List Loc) (hW : Wr G A s.heap (w_M hm cI cZ cJ 0 np ne ns tl mbd gr stt sp sq sec ans rt nw mtd un (upK 0 6 mss) (upK 0 6 msc) (upK false i2 mip) mcb msco mtim) H locs) (ls : Array Slot) (hl : lv_has ls 6 [(0, .ref (hm 0)), (1, .int (nI k)), (2, .int (nI q)), (3, .int (nI i2))]), W p l e (rmL 1) s m args below meth c H locs 0 0 Q (F0 m 56 ls []) := by
                intro n2
                induction n2 with
                | zero =>
                  intro i2 hi2 H locs hW ls hl
                  refine lv_iload_n hx hb d_Model_even_56 rfl (lv_at hl 3 rfl) ?_
                  refine lv_bipush (v := (nI 20)) hx hb d_Model_even_57 (by decide +kernel) ?_
                  refine N_icmp_ge_NN hx hb (by omega) (by decide) (tgt := 75) d_Model_even_59 (by decide) (fun c59 => ?_) (fun c59 => ?_)
                  · have e9 : 20 = i2 := by omega
                    subst e9
                    refine lv_iconst (v := (nI 0)) hx hb d_Model_even_75 (by decide +kernel) ?_
                    refine lv_istore_n (lv' := [(3, .int (nI 0)), (0, .ref (hm 0)), (1, .int (nI k)), (2, .int (nI q))]) hx hb d_Model_even_76 rfl hl (by decide) rfl (fun ls hl => ?_)
                    refine lv_aload_n hx hb d_Model_even_77 rfl (lv_at hl 1 rfl) ?_
                    refine R_callV (q0 := 0) (m_next l G cI cZ cJ hm 0 np ne ns tl mbd gr stt sp sq sec ans rt nw mtd un (upK 0 6 mss) (upK 0 6 msc) (upK false 20 mip) mcb msco mtim hn hgr) X rfl hW cw_Model_151 ki_Model_next ks_Model_next rfl rfl ⟨rfl, rfl⟩ ⟨by decide, by decide⟩ ⟨Nat.zero_le _, Nat.zero_le _⟩ [true, true, true, true, true, true, true, true, true, true, true, true, true, true, true, true, true] rfl (Nat.le_of_ble_eq_true rfl) rfl rfl hl.1 rfl rfl (Nat.le_of_ble_eq_true rfl) d_Model_even_78 rfl (fun H locs hW => ?_)
                    have hW : Wr G A s.heap (w_M hm cI cZ cJ 0 np ne ns tl mbd gr stt sp sq sec ans rt nw mtd un (upK 0 6 mss) (upK 0 6 msc) (upK false 20 mip) mcb msco mtim) H locs := hW
                    refine lv_istore (lv' := [(4, .int (oI (nxF gr (upK false 20 mip) np))), (3, .int (nI 0)), (0, .ref (hm 0)), (1, .int (nI k)), (2, .int (nI q))]) hx hb d_Model_even_81 hl (by decide) rfl (fun ls hl => ?_)
                    have L83 : ∀ (n3 : Nat) (t : Nat) (s1 : Nat → Nat) (c1 : Nat → Nat) (p1 : Nat → Bool) (st : Nat) (hf : cntF (fun j => !(p1 j)) np < n3) (hst : st + cntF (fun j => !(p1 j)) np ≤ 20) (hs1 : ∀ i, i < 6 → s1 i ≤ 100 * st) (hc1 : ∀ i, i < 6 → c1 i ≤ st) (he : evG gr np k q n3 t s1 c1 p1 = evG gr np k q 21 0 (upK 0 6 mss) (upK 0 6 msc) (upK false 20 mip)) (H : Heap) (locs : List Loc) (hW : Wr G A s.heap (w_M hm cI cZ cJ 0 np ne ns tl mbd gr stt sp sq sec ans rt nw mtd un s1 c1 p1 mcb msco mtim) H locs) (ls : Array Slot) (hl : lv_has ls 6 [(0, .ref (hm 0)), (1, .int (nI k)), (2, .int (nI q)), (3, .int (nI t)), (4, .int (oI (nxF gr p1 np)))]), W p l e (rmL 1) s m args below meth c H locs 0 0 Q (F0 m 83 ls []) := by
                      intro n3
                      induction n3 with
                      | zero =>
                        intro t s1 c1 p1 st hf hst hs1 hc1 he H locs hW ls hl
                        exfalso; omega
                      | succ n3 ih83 =>
                        intro t s1 c1 p1 st hf hst hs1 hc1 he H locs hW ls hl
                        refine lv_aload_n hx hb d_Model_even_83 rfl (lv_at hl 0 rfl) ?_
                        refine R_get X hW i_Model rfl 18 (by decide) kf_Model_47 0 rfl rfl d_Model_even_84 ?_
                        refine lv_iload_n hx hb d_Model_even_87 rfl (lv_at hl 2 rfl) ?_
                        refine R_zald X hW (t0 := 1) rfl 13 rfl (k := q) (by omega) (by decide) d_Model_even_88 ?_
                        refine N_if_ne_B hx hb  (tgt := 203) d_Model_even_89 (by decide) (fun c89 => ?_) (fun c89 => ?_)
                        · refine lv_iload_n hx hb d_Model_even_203 rfl (lv_at hl 3 rfl) ?_
                          exact R_iret X Y hW (by rw [← he, evG, if_pos c89]) (by rw [← he, evG, if_pos c89]) d_Model_even_204
                        · have y0 := nxG_some gr p1 np 0 none (Or.inr ⟨q, by omega, by omega, c89⟩)
                          obtain ⟨o, ho⟩ : ∃ q, nxF gr p1 np = some q := by cases hq : nxF gr p1 np with | none => exact absurd hq y0 | some q => exact ⟨q, rfl⟩
                          have y1 := nxG_lt gr p1 np 0 none np (by omega) (fun z hz => by cases hz) o ho
                          have y2 := hgr o (by omega)
                          have y3 := lsF_lt (ss := s1) (sc := c1) hk.1
                          have y4 := cnt_put p1 o y1.2 np y1.1
                          refine lv_iconst (v := (nI 0)) hx hb d_Model_even_92 (by decide +kernel) ?_
                          refine lv_istore_n (lv' := [(3, .int (nI 0)), (0, .ref (hm 0)), (1, .int (nI k)), (2, .int (nI q)), (4, .int (oI (nxF gr p1 np)))]) hx hb d_Model_even_93 rfl hl (by decide) rfl (fun ls hl => ?_)
                          refine lv_iconst (v := (nI 1)) hx hb d_Model_even_94 (by decide +kernel) ?_
                          refine lv_istore (lv' := [(5, .int (nI 1)), (3, .int (nI 0)), (0, .ref (hm 0)), (1, .int (nI k)), (2, .int (nI q)), (4, .int (oI (nxF gr p1 np)))]) hx hb d_Model_even_95 hl (by decide) rfl (fun ls hl => ?_)
                          have L97 : ∀ (n5 : Nat) (b : Nat) (j : Nat) (hj : j + n5 = k ∧ 1 ≤ j ∧ b < j) (he5 : lsG s1 c1 n5 j b = lsF s1 c1 k) (H : Heap) (locs : List Loc) (hW : Wr G A s.heap (w_M hm cI cZ cJ 0 np ne ns tl mbd gr stt sp sq sec ans rt nw mtd un s1 c1 p1 mcb msco mtim) H locs) (ls : Array Slot) (hl : lv_has ls 6 [(0, .ref (hm 0)), (1, .int (nI k)), (2, .int (nI q)), (3, .int (nI b)), (4, .int (oI (nxF gr p1 np))), (5, .int (nI j))]), W p l e (rmL 1) s m args below meth c H locs 0 0 Q (F0 m 97 ls []) := by
                            intro n5
                            induction n5 with
                            | zero =>
                              intro b j hj he5 H locs hW ls hl
                              refine lv_iload hx hb d_Model_even_97 (lv_at hl 5 rfl) ?_
                              refine lv_iload_n hx hb d_Model_even_99 rfl (lv_at hl 1 rfl) ?_
                              refine N_icmp_ge_NN hx hb (by omega) (by omega) (tgt := 160) d_Model_even_100 (by decide) (fun c100 => ?_) (fun c100 => ?_)
                              · have hb9 : b = lsF s1 c1 k := by rw [← he5]; rfl
                                refine lv_aload_n hx hb d_Model_even_160 rfl (lv_at hl 0 rfl) ?_
                                refine R_get X hW i_Model rfl 16 (by decide) kf_Model_41 0 rfl rfl d_Model_even_161 ?_
                                refine lv_iload_n hx hb d_Model_even_164 rfl (lv_at hl 3 rfl) ?_
                                refine lv_dup2_11 hx hb d_Model_even_165 rfl rfl ?_
                                refine R_iald X hW (t0 := 0) rfl 11 rfl (k := b) (by omega) (by decide) d_Model_even_166 ?_
                                refine lv_aload_n hx hb d_Model_even_167 rfl (lv_at hl 0 rfl) ?_
                                refine R_get X hW i_Model rfl 4 (by decide) kf_Model_7 0 rfl rfl d_Model_even_168 ?_
                                refine lv_iload hx hb d_Model_even_171 (lv_at hl 4 rfl) ?_
                                refine W.eq (g2 := F0 m 173 ls (.int (nI o) :: .ref (hm 1) :: .int (nI (s1 b)) :: .int (nI b) :: .ref (hm 11) :: [])) (by rw [ho]; first | done | rfl) ?_
                                refine R_iald X hW (t0 := 0) rfl 1 rfl (k := o) (by omega) (by decide) d_Model_even_173 ?_
                                refine N_iadd hx hb d_Model_even_174 ?_
                                refine R_iast X hW (t0 := 0) rfl 11 rfl (k := b) (by omega) (by decide) ((s1 b) + (gr o)) rfl d_Model_even_175 (fun H locs hW => ?_)
                                have hW : Wr G A s.heap (w_M hm cI cZ cJ 0 np ne ns tl mbd gr stt sp sq sec ans rt nw mtd un (va_up s1 b ((s1 b) + (gr o))) c1 p1 mcb msco mtim) H locs := hW
                                refine lv_aload_n hx hb d_Model_even_176 rfl (lv_at hl 0 rfl) ?_
                                refine R_get X hW i_Model rfl 17 (by decide) kf_Model_44 0 rfl rfl d_Model_even_177 ?_
                                refine lv_iload_n hx hb d_Model_even_180 rfl (lv_at hl 3 rfl) ?_
                                refine lv_dup2_11 hx hb d_Model_even_181 rfl rfl ?_
                                refine R_iald X hW (t0 := 0) rfl 12 rfl (k := b) (by omega) (by decide) d_Model_even_182 ?_
                                refine lv_iconst (v := (nI 1)) hx hb d_Model_even_183 (by decide +kernel) ?_
                                refine N_iadd hx hb d_Model_even_184 ?_
                                refine R_iast X hW (t0 := 0) rfl 12 rfl (k := b) (by omega) (by decide) ((c1 b) + 1) rfl d_Model_even_185 (fun H locs hW => ?_)
                                have hW : Wr G A s.heap (w_M hm cI cZ cJ 0 np ne ns tl mbd gr stt sp sq sec ans rt nw mtd un (va_up s1 b ((s1 b) + (gr o))) (va_up c1 b ((c1 b) + 1)) p1 mcb msco mtim) H locs := hW
                                refine lv_aload_n hx hb d_Model_even_186 rfl (lv_at hl 0 rfl) ?_
                                refine R_get X hW i_Model rfl 18 (by decide) kf_Model_47 0 rfl rfl d_Model_even_187 ?_
                                refine lv_iload hx hb d_Model_even_190 (lv_at hl 4 rfl) ?_
                                refine W.eq (g2 := F0 m 192 ls (.int (nI o) :: .ref (hm 13) :: [])) (by rw [ho]; first | done | rfl) ?_
                                refine lv_iconst (v := (nI 1)) hx hb d_Model_even_192 (by decide +kernel) ?_
                                refine R_zast X hW (t0 := 1) rfl 13 rfl (k := o) (by omega) (by decide) true (by decide +kernel) d_Model_even_193 (fun H locs hW => ?_)
                                have hW : Wr G A s.heap (w_M hm cI cZ cJ 0 np ne ns tl mbd gr stt sp sq sec ans rt nw mtd un (va_up s1 b ((s1 b) + (gr o))) (va_up c1 b ((c1 b) + 1)) (va_up p1 o true) mcb msco mtim) H locs := hW
                                refine lv_aload_n hx hb d_Model_even_194 rfl (lv_at hl 0 rfl) ?_
                                refine R_callV (q0 := 0) (m_next l G cI cZ cJ hm 0 np ne ns tl mbd gr stt sp sq sec ans rt nw mtd un (va_up s1 b ((s1 b) + (gr o))) (va_up c1 b ((c1 b) + 1)) (va_up p1 o true) mcb msco mtim hn hgr) X rfl hW cw_Model_151 ki_Model_next ks_Model_next rfl rfl ⟨rfl, rfl⟩ ⟨by decide, by decide⟩ ⟨Nat.zero_le _, Nat.zero_le _⟩ [true, true, true, true, true, true, true, true, true, true, true, true, true, true, true, true, true] rfl (Nat.le_of_ble_eq_true rfl) rfl rfl hl.1 rfl rfl (Nat.le_of_ble_eq_true rfl) d_Model_even_195 rfl (fun H locs hW => ?_)
                                have hW : Wr G A s.heap (w_M hm cI cZ cJ 0 np ne ns tl mbd gr stt sp sq sec ans rt nw mtd un (va_up s1 b ((s1 b) + (gr o))) (va_up c1 b ((c1 b) + 1)) (va_up p1 o true) mcb msco mtim) H locs := hW
                                refine lv_istore (lv' := [(4, .int (oI (nxF gr (va_up p1 o true) np))), (0, .ref (hm 0)), (1, .int (nI k)), (2, .int (nI q)), (3, .int (nI b)), (5, .int (nI j))]) hx hb d_Model_even_198 hl (by decide) rfl (fun ls hl => ?_)
                                refine lv_goto (tgt := 83) hx hb d_Model_even_200 (by decide) ?_
                                exact ih83 b (va_up s1 b ((s1 b) + (gr o))) (va_up c1 b ((c1 b) + 1)) (va_up p1 o true) (st + 1) (by omega) (by omega) (fun i hi => by have w1 := hs1 i hi; have w2 := hs1 b (by omega); simp only [va_up]; split <;> omega) (fun i hi => by have w1 := hc1 i hi; have w2 := hc1 b (by omega); simp only [va_up]; split <;> omega) (by rw [← he, evG, if_neg (by simp [c89]), ho, hb9]; rfl) _ _ hW ls (lv_sub hl [1, 2, 3, 4, 0] rfl)
                              · exfalso; omega
                            | succ n5 ih97 =>
                              intro b j hj he5 H locs hW ls hl
                              refine lv_iload hx hb d_Model_even_97 (lv_at hl 5 rfl) ?_
                              refine lv_iload_n hx hb d_Model_even_99 rfl (lv_at hl 1 rfl) ?_
                              refine N_icmp_ge_NN hx hb (by omega) (by omega) (tgt := 160) d_Model_even_100 (by decide) (fun c100 => ?_) (fun c100 => ?_)
                              · exfalso; omega
                              · have g1 := hs1 j (by omega)
                                have g2 := hs1 b (by omega)
                                have g3 := hc1 j (by omega)
                                have g4 := hc1 b (by omega)
                                refine lv_aload_n hx hb d_Model_even_103 rfl (lv_at hl 0 rfl) ?_
                                refine R_get X hW i_Model rfl 16 (by decide) kf_Model_41 0 rfl rfl d_Model_even_104 ?_
                                refine lv_iload hx hb d_Model_even_107 (lv_at hl 5 rfl) ?_
                                refine R_iald X hW (t0 := 0) rfl 11 rfl (k := j) (by omega) (by decide) d_Model_even_109 ?_
                                refine lv_aload_n hx hb d_Model_even_110 rfl (lv_at hl 0 rfl) ?_
                                refine R_get X hW i_Model rfl 16 (by decide) kf_Model_41 0 rfl rfl d_Model_even_111 ?_
                                refine lv_iload_n hx hb d_Model_even_114 rfl (lv_at hl 3 rfl) ?_
                                refine R_iald X hW (t0 := 0) rfl 11 rfl (k := b) (by omega) (by decide) d_Model_even_115 ?_
                                refine N_icmp_lt_NN hx hb (by omega) (by omega) (tgt := 151) d_Model_even_116 (by decide) (fun c116 => ?_) (fun c116 => ?_)
                                · refine lv_iload hx hb d_Model_even_151 (lv_at hl 5 rfl) ?_
                                  refine lv_istore_n (lv' := [(3, .int (nI j)), (0, .ref (hm 0)), (1, .int (nI k)), (2, .int (nI q)), (4, .int (oI (nxF gr p1 np))), (5, .int (nI j))]) hx hb d_Model_even_153 rfl hl (by decide) rfl (fun ls hl => ?_)
                                  refine lv_iinc (v := (nI (j + 1))) (lv' := [(5, .int (nI (j + 1))), (3, .int (nI j)), (0, .ref (hm 0)), (1, .int (nI k)), (2, .int (nI q)), (4, .int (oI (nxF gr p1 np)))]) hx hb d_Model_even_154 hl (k := 5) rfl (N_inc j) (by decide) rfl (fun ls hl => ?_)
                                  refine lv_goto (tgt := 97) hx hb d_Model_even_157 (by decide) ?_
                                  exact ih97 j (j + 1) (by omega) (by rw [← he5, lsG]; first | rw [if_pos (by omega)] | rw [if_neg (by omega)]) _ _ hW ls (lv_sub hl [2, 3, 4, 1, 5, 0] rfl)
                                · refine lv_aload_n hx hb d_Model_even_119 rfl (lv_at hl 0 rfl) ?_
                                  refine R_get X hW i_Model rfl 16 (by decide) kf_Model_41 0 rfl rfl d_Model_even_120 ?_
                                  refine lv_iload hx hb d_Model_even_123 (lv_at hl 5 rfl) ?_
                                  refine R_iald X hW (t0 := 0) rfl 11 rfl (k := j) (by omega) (by decide) d_Model_even_125 ?_
                                  refine lv_aload_n hx hb d_Model_even_126 rfl (lv_at hl 0 rfl) ?_
                                  refine R_get X hW i_Model rfl 16 (by decide) kf_Model_41 0 rfl rfl d_Model_even_127 ?_
                                  refine lv_iload_n hx hb d_Model_even_130 rfl (lv_at hl 3 rfl) ?_
                                  refine R_iald X hW (t0 := 0) rfl 11 rfl (k := b) (by omega) (by decide) d_Model_even_131 ?_
                                  refine N_icmp_ne_NN hx hb (by omega) (by omega) (tgt := 154) d_Model_even_132 (by decide) (fun c132 => ?_) (fun c132 => ?_)
                                  · refine lv_iinc (v := (nI (j + 1))) (lv' := [(5, .int (nI (j + 1))), (0, .ref (hm 0)), (1, .int (nI k)), (2, .int (nI q)), (3, .int (nI b)), (4, .int (oI (nxF gr p1 np)))]) hx hb d_Model_even_154 hl (k := 5) rfl (N_inc j) (by decide) rfl (fun ls hl => ?_)
                                    refine lv_goto (tgt := 97) hx hb d_Model_even_157 (by decide) ?_
                                    exact ih97 b (j + 1) (by omega) (by rw [← he5, lsG]; first | rw [if_pos (by omega)] | rw [if_neg (by omega)]) _ _ hW ls (lv_sub hl [1, 2, 3, 4, 5, 0] rfl)
                                  · refine lv_aload_n hx hb d_Model_even_135 rfl (lv_at hl 0 rfl) ?_
                                    refine R_get X hW i_Model rfl 17 (by decide) kf_Model_44 0 rfl rfl d_Model_even_136 ?_
                                    refine lv_iload hx hb d_Model_even_139 (lv_at hl 5 rfl) ?_
                                    refine R_iald X hW (t0 := 0) rfl 12 rfl (k := j) (by omega) (by decide) d_Model_even_141 ?_
                                    refine lv_aload_n hx hb d_Model_even_142 rfl (lv_at hl 0 rfl) ?_
                                    refine R_get X hW i_Model rfl 17 (by decide) kf_Model_44 0 rfl rfl d_Model_even_143 ?_
                                    refine lv_iload_n hx hb d_Model_even_146 rfl (lv_at hl 3 rfl) ?_
                                    refine R_iald X hW (t0 := 0) rfl 12 rfl (k := b) (by omega) (by decide) d_Model_even_147 ?_
                                    refine N_icmp_ge_NN hx hb (by omega) (by omega) (tgt := 154) d_Model_even_148 (by decide) (fun c148 => ?_) (fun c148 => ?_)
                                    · refine lv_iinc (v := (nI (j + 1))) (lv' := [(5, .int (nI (j + 1))), (0, .ref (hm 0)), (1, .int (nI k)), (2, .int (nI q)), (3, .int (nI b)), (4, .int (oI (nxF gr p1 np)))]) hx hb d_Model_even_154 hl (k := 5) rfl (N_inc j) (by decide) rfl (fun ls hl => ?_)
                                      refine lv_goto (tgt := 97) hx hb d_Model_even_157 (by decide) ?_
                                      exact ih97 b (j + 1) (by omega) (by rw [← he5, lsG]; first | rw [if_pos (by omega)] | rw [if_neg (by omega)]) _ _ hW ls (lv_sub hl [1, 2, 3, 4, 5, 0] rfl)
                                    · refine lv_iload hx hb d_Model_even_151 (lv_at hl 5 rfl) ?_
                                      refine lv_istore_n (lv' := [(3, .int (nI j)), (0, .ref (hm 0)), (1, .int (nI k)), (2, .int (nI q)), (4, .int (oI (nxF gr p1 np))), (5, .int (nI j))]) hx hb d_Model_even_153 rfl hl (by decide) rfl (fun ls hl => ?_)
                                      refine lv_iinc (v := (nI (j + 1))) (lv' := [(5, .int (nI (j + 1))), (3, .int (nI j)), (0, .ref (hm 0)), (1, .int (nI k)), (2, .int (nI q)), (4, .int (oI (nxF gr p1 np)))]) hx hb d_Model_even_154 hl (k := 5) rfl (N_inc j) (by decide) rfl (fun ls hl => ?_)
                                      refine lv_goto (tgt := 97) hx hb d_Model_even_157 (by decide) ?_
                                      exact ih97 j (j + 1) (by omega) (by rw [← he5, lsG]; first | rw [if_pos (by omega)] | rw [if_neg (by omega)]) _ _ hW ls (lv_sub hl [2, 3, 4, 1, 5, 0] rfl)
                          exact L97 (k - 1) 0 1 (by omega) rfl _ _ hW ls (lv_sub hl [2, 3, 4, 1, 5, 0] rfl)
                    exact L83 21 0 (upK 0 6 mss) (upK 0 6 msc) (upK false 20 mip) 0 (by have := cntF_le (fun j => !(upK false 20 mip j)) np; omega) (by have := cntF_le (fun j => !(upK false 20 mip j)) np; omega) (fun i hi => by rw [upK_lt _ _ _ _ hi]; omega) (fun i hi => by rw [upK_lt _ _ _ _ hi]; omega) rfl _ _ hW ls (lv_sub hl [2, 3, 4, 1, 0] rfl)
                  · exfalso; omega
                | succ n2 ih56 =>
                  intro i2 hi2 H locs hW ls hl
                  refine lv_iload_n hx hb d_Model_even_56 rfl (lv_at hl 3 rfl) ?_
                  refine lv_bipush (v := (nI 20)) hx hb d_Model_even_57 (by decide +kernel) ?_
                  refine N_icmp_ge_NN hx hb (by omega) (by decide) (tgt := 75) d_Model_even_59 (by decide) (fun c59 => ?_) (fun c59 => ?_)
                  · exfalso; omega
                  · refine lv_aload_n hx hb d_Model_even_62 rfl (lv_at hl 0 rfl) ?_
                    refine R_get X hW i_Model rfl 18 (by decide) kf_Model_47 0 rfl rfl d_Model_even_63 ?_
                    refine lv_iload_n hx hb d_Model_even_66 rfl (lv_at hl 3 rfl) ?_
                    refine lv_iconst (v := (nI 0)) hx hb d_Model_even_67 (by decide +kernel) ?_
                    refine R_zast X hW (t0 := 1) rfl 13 rfl (k := i2) (by omega) (by decide) false (by decide +kernel) d_Model_even_68 (fun H locs hW => ?_)
                    have hW : Wr G A s.heap (w_M hm cI cZ cJ 0 np ne ns tl mbd gr stt sp sq sec ans rt nw mtd un (upK 0 6 mss) (upK 0 6 msc) (va_up (upK false i2 mip) i2 false) mcb msco mtim) H locs := hW
                    refine lv_iinc (v := (nI (i2 + 1))) (lv' := [(3, .int (nI (i2 + 1))), (0, .ref (hm 0)), (1, .int (nI k)), (2, .int (nI q))]) hx hb d_Model_even_69 hl (k := 3) rfl (N_inc i2) (by decide) rfl (fun ls hl => ?_)
                    refine lv_goto (tgt := 56) hx hb d_Model_even_72 (by decide) ?_
                    exact ih56 (i2 + 1) (by omega) _ _ hW ls (lv_sub hl [1, 2, 3, 0] rfl)
              exact L56 20 0 (by omega) _ _ hW ls (lv_sub hl [1, 2, 3, 0] rfl)
            · exfalso; omega
          | succ n ih28 =>
            intro i hi H locs hW ls hl
            refine lv_iload_n hx hb d_Model_even_28 rfl (lv_at hl 3 rfl) ?_
            refine lv_bipush (v := (nI 6)) hx hb d_Model_even_29 (by decide +kernel) ?_
            refine N_icmp_ge_NN hx hb (by omega) (by decide) (tgt := 54) d_Model_even_31 (by decide) (fun c31 => ?_) (fun c31 => ?_)
            · exfalso; omega
            · refine lv_aload_n hx hb d_Model_even_34 rfl (lv_at hl 0 rfl) ?_
              refine R_get X hW i_Model rfl 16 (by decide) kf_Model_41 0 rfl rfl d_Model_even_35 ?_
              refine lv_iload_n hx hb d_Model_even_38 rfl (lv_at hl 3 rfl) ?_
              refine lv_iconst (v := (nI 0)) hx hb d_Model_even_39 (by decide +kernel) ?_
              refine R_iast X hW (t0 := 0) rfl 11 rfl (k := i) (by omega) (by decide) 0 rfl d_Model_even_40 (fun H locs hW => ?_)
              have hW : Wr G A s.heap (w_M hm cI cZ cJ 0 np ne ns tl mbd gr stt sp sq sec ans rt nw mtd un (va_up (upK 0 i mss) i 0) (upK 0 i msc) mip mcb msco mtim) H locs := hW
              refine lv_aload_n hx hb d_Model_even_41 rfl (lv_at hl 0 rfl) ?_
              refine R_get X hW i_Model rfl 17 (by decide) kf_Model_44 0 rfl rfl d_Model_even_42 ?_
              refine lv_iload_n hx hb d_Model_even_45 rfl (lv_at hl 3 rfl) ?_
              refine lv_iconst (v := (nI 0)) hx hb d_Model_even_46 (by decide +kernel) ?_
              refine R_iast X hW (t0 := 0) rfl 12 rfl (k := i) (by omega) (by decide) 0 rfl d_Model_even_47 (fun H locs hW => ?_)
              have hW : Wr G A s.heap (w_M hm cI cZ cJ 0 np ne ns tl mbd gr stt sp sq sec ans rt nw mtd un (va_up (upK 0 i mss) i 0) (va_up (upK 0 i msc) i 0) mip mcb msco mtim) H locs := hW
              refine lv_iinc (v := (nI (i + 1))) (lv' := [(3, .int (nI (i + 1))), (0, .ref (hm 0)), (1, .int (nI k)), (2, .int (nI q))]) hx hb d_Model_even_48 hl (k := 3) rfl (N_inc i) (by decide) rfl (fun ls hl => ?_)
              refine lv_goto (tgt := 28) hx hb d_Model_even_51 (by decide) ?_
              exact ih28 (i + 1) (by omega) _ _ hW ls (lv_sub hl [1, 2, 3, 0] rfl)
        exact L28 6 0 (by omega) _ _ hW ls (lv_sub hl [1, 2, 3, 0] rfl)
      · exfalso; rw [inB_nI (by omega) (by omega)] at c21; cases c21

theorem kb_Model_firstWrong : Cond.code y_Model_firstWrong b_Model_firstWrong 5 (some .int) ∈ TBL := TBL_t (List.mem_append_right _ (List.mem_append_right _ (List.mem_of_getElem? (i := 212) rfl))) rfl
theorem km_Model_143 : Cond.methodLink "ContestRowsModel" 143 y_Model_firstWrong ∈ TBL := TBL_t (List.mem_append_right _ (List.mem_append_right _ (List.mem_of_getElem? (i := 209) rfl))) rfl
theorem cw_Model_143 : Cw "ContestRowsModel" 143 y_Model_firstWrong b_Model_firstWrong 5 (some .int) 3 := ⟨kb_Model_firstWrong, kn_Model, km_Model_143, by decide +kernel⟩
theorem ki_Model_firstWrong : Cond.instanceMethod y_Model_firstWrong ∈ TBL := TBL_t (List.mem_append_right _ (List.mem_append_right _ (List.mem_of_getElem? (i := 211) rfl))) rfl
theorem ks_Model_firstWrong : Cond.selects "ContestRowsModel" y_Model_firstWrong y_Model_firstWrong ∈ TBL := TBL_in (List.mem_append_left _ (List.mem_map.mpr ⟨(y_Model_firstWrong, 22), by decide +kernel, rfl⟩)) rfl
theorem kb_Model_tellPair : Cond.code y_Model_tellPair b_Model_tellPair 5 (some .int) ∈ TBL := TBL_t (List.mem_append_right _ (List.mem_append_right _ (List.mem_of_getElem? (i := 216) rfl))) rfl
theorem km_Model_147 : Cond.methodLink "ContestRowsModel" 147 y_Model_tellPair ∈ TBL := TBL_t (List.mem_append_right _ (List.mem_append_right _ (List.mem_of_getElem? (i := 213) rfl))) rfl
theorem cw_Model_147 : Cw "ContestRowsModel" 147 y_Model_tellPair b_Model_tellPair 5 (some .int) 4 := ⟨kb_Model_tellPair, kn_Model, km_Model_147, by decide +kernel⟩
theorem ki_Model_tellPair : Cond.instanceMethod y_Model_tellPair ∈ TBL := TBL_t (List.mem_append_right _ (List.mem_append_right _ (List.mem_of_getElem? (i := 215) rfl))) rfl
theorem ks_Model_tellPair : Cond.selects "ContestRowsModel" y_Model_tellPair y_Model_tellPair ∈ TBL := TBL_in (List.mem_append_left _ (List.mem_map.mpr ⟨(y_Model_tellPair, 22), by decide +kernel, rfl⟩)) rfl
set_option maxHeartbeats 4000000 in
set_option maxRecDepth 100000 in
theorem m_suspicious_ok (l : Launch) (G : va_G) (cI cZ cJ : ClassId) (hm : Nat → Nat) (mth : Nat) (np : Nat) (ne : Nat) (ns : Nat) (tl : Nat) (mbd : Option Nat) (gr : Nat → Nat) (stt : Nat → Option Nat) (sp : Nat → Nat) (sq : Nat → Nat) (sec : Nat → Nat) (ans : Nat → Nat) (rt : Nat → Bool) (nw : Nat → Nat) (mtd : Nat → Nat) (un : Nat → Nat) (mss : Nat → Nat) (msc : Nat → Nat) (mip : Nat → Bool) (mcb : Nat → Bool) (msco : Nat → Nat) (mtim : Nat → Nat) (k : Nat) (w : Nat) (hk : k < 2 ^ 31) (hw0 : w ≤ 3) (hI : IS np ne ns gr nw sp sq sec (fun i => i) ans stt) : Ct l G (tyL cI cZ cJ) y_Model_suspicious b_Model_suspicious 8 (some .int) (rmL 2) [.ref (hm 0), .int (nI k), .int (nI w)] (w_M hm cI cZ cJ mth np ne ns tl mbd gr stt sp sq sec ans rt nw mtd un mss msc mip mcb msco mtim) (some (.int (oI ((smG sp sq sec ans rt ne ns k ns 0 0).map (fun q => tlM sp sq q.1 q.2.1 (dst (sec q.1) (sec q.2.2)) w))))) (w_M hm cI cZ cJ 0 np ne ns tl mbd gr stt sp sq sec ans rt nw mtd un mss msc mip mcb msco mtim) := by
  refine M_start (by decide) (Nat.le_of_ble_eq_true rfl) ?_
  intro p e s m args below meth c A Q ls X Y hW hl
  have hx := X.1.1
  have hb := X.1.2.1
  have hl : lv_has ls 8 [(0, .ref (hm 0)), (1, .int (nI k)), (2, .int (nI w))] := hl
  obtain ⟨z1, z2, z3, z4, z5, z6, z7, z8, z9, z10, z11, z12, z13⟩ := id hI
  refine lv_aload_n hx hb d_Model_suspicious_0 rfl (lv_at hl 0 rfl) ?_
  refine lv_iconst (v := (nI 0)) hx hb d_Model_suspicious_1 (by decide +kernel) ?_
  refine R_put X hW i_Model rfl t_Model t_Model_ok n_Model 0 (by decide) kf_Model_60 rfl (ty := .int) (by decide +kernel) 0 rfl (v := .int (nI 0)) rfl rfl (Nat.le_of_ble_eq_true rfl) d_Model_suspicious_2 (fun H locs hW => ?_)
  have hW : Wr G A s.heap (w_M hm cI cZ cJ 0 np ne ns tl mbd gr stt sp sq sec ans rt nw mtd un mss msc mip mcb msco mtim) H locs := hW
  refine lv_iconst (v := (nI 0)) hx hb d_Model_suspicious_5 (by decide +kernel) ?_
  refine lv_istore_n (lv' := [(3, .int (nI 0)), (0, .ref (hm 0)), (1, .int (nI k)), (2, .int (nI w))]) hx hb d_Model_suspicious_6 rfl hl (by decide) rfl (fun ls hl => ?_)
  refine lv_iconst (v := (nI 0)) hx hb d_Model_suspicious_7 (by decide +kernel) ?_
  refine lv_istore (lv' := [(4, .int (nI 0)), (3, .int (nI 0)), (0, .ref (hm 0)), (1, .int (nI k)), (2, .int (nI w))]) hx hb d_Model_suspicious_8 hl (by decide) rfl (fun ls hl => ?_)
  have L10 : ∀ (n : Nat) (a : Nat) (cn : Nat) (hi : a + n = ns) (hcn : cn ≤ 20 * a) (he : smG sp sq sec ans rt ne ns k n a cn = smG sp sq sec ans rt ne ns k ns 0 0) (H : Heap) (locs : List Loc) (hW : Wr G A s.heap (w_M hm cI cZ cJ 0 np ne ns tl mbd gr stt sp sq sec ans rt nw mtd un mss msc mip mcb msco mtim) H locs) (ls : Array Slot) (hl : lv_has ls 8 [(0, .ref (hm 0)), (1, .int (nI k)), (2, .int (nI w)), (3, .int (nI cn)), (4, .int (nI a))]), W p l e (rmL 2) s m args below meth c H locs 0 0 Q (F0 m 10 ls []) := by
    intro n
    induction n with
    | zero =>
      intro a cn hi hcn he H locs hW ls hl
      refine lv_iload hx hb d_Model_suspicious_10 (lv_at hl 4 rfl) ?_
      refine lv_aload_n hx hb d_Model_suspicious_12 rfl (lv_at hl 0 rfl) ?_
      refine R_get X hW i_Model rfl 3 (by decide) kf_Model_70 0 rfl rfl d_Model_suspicious_13 ?_
      refine N_icmp_ge_NN hx hb (by omega) (by omega) (tgt := 177) d_Model_suspicious_16 (by decide) (fun c16 => ?_) (fun c16 => ?_)
      · refine lv_iconst (v := (-1)) hx hb d_Model_suspicious_177 (by decide +kernel) ?_
        exact R_iret X Y hW rfl (by rw [← he]; rfl) d_Model_suspicious_178
      · exfalso; omega
    | succ n ih10 =>
      intro a cn hi hcn he H locs hW ls hl
      refine lv_iload hx hb d_Model_suspicious_10 (lv_at hl 4 rfl) ?_
      refine lv_aload_n hx hb d_Model_suspicious_12 rfl (lv_at hl 0 rfl) ?_
      refine R_get X hW i_Model rfl 3 (by decide) kf_Model_70 0 rfl rfl d_Model_suspicious_13 ?_
      refine N_icmp_ge_NN hx hb (by omega) (by omega) (tgt := 177) d_Model_suspicious_16 (by decide) (fun c16 => ?_) (fun c16 => ?_)
      · exfalso; omega
      · have y1 := z6 a (by omega)
        have y2 := z13 a (by omega)
        have y3 := z10 a (by omega)
        refine lv_aload_n hx hb d_Model_suspicious_19 rfl (lv_at hl 0 rfl) ?_
        refine R_get X hW i_Model rfl 6 (by decide) kf_Model_16 0 rfl rfl d_Model_suspicious_20 ?_
        refine lv_iload hx hb d_Model_suspicious_23 (lv_at hl 4 rfl) ?_
        refine R_iald X hW (t0 := 0) rfl 3 rfl (k := a) (by omega) (by decide) d_Model_suspicious_25 ?_
        refine lv_iconst (v := (nI 1)) hx hb d_Model_suspicious_26 (by decide +kernel) ?_
        refine N_iadd hx hb d_Model_suspicious_27 ?_
        refine lv_istore (lv' := [(5, .int (nI ((sp a) + 1))), (0, .ref (hm 0)), (1, .int (nI k)), (2, .int (nI w)), (3, .int (nI cn)), (4, .int (nI a))]) hx hb d_Model_suspicious_28 hl (by decide) rfl (fun ls hl => ?_)
        have L30 : ∀ (n3 : Nat) (b : Nat) (c2 : Nat) (hb3 : b + n3 = ne) (hc2 : c2 ≤ 20 * a + b) (he3 : imG (fwF sp sq ans rt ns a) sec a k n3 b c2 = imG (fwF sp sq ans rt ns a) sec a k (ne - (sp a + 1)) (sp a + 1) cn) (H : Heap) (locs : List Loc) (hW : Wr G A s.heap (w_M hm cI cZ cJ 0 np ne ns tl mbd gr stt sp sq sec ans rt nw mtd un mss msc mip mcb msco mtim) H locs) (ls : Array Slot) (hl : lv_has ls 8 [(0, .ref (hm 0)), (1, .int (nI k)), (2, .int (nI w)), (3, .int (nI c2)), (4, .int (nI a)), (5, .int (nI b))]), W p l e (rmL 2) s m args below meth c H locs 0 0 Q (F0 m 30 ls []) := by
          intro n3
          induction n3 with
          | zero =>
            intro b c2 hb3 hc2 he3 H locs hW ls hl
            refine lv_iload hx hb d_Model_suspicious_30 (lv_at hl 5 rfl) ?_
            refine lv_aload_n hx hb d_Model_suspicious_32 rfl (lv_at hl 0 rfl) ?_
            refine R_get X hW i_Model rfl 2 (by decide) kf_Model_67 0 rfl rfl d_Model_suspicious_33 ?_
            refine N_icmp_ge_NN hx hb (by omega) (by omega) (tgt := 171) d_Model_suspicious_36 (by decide) (fun c36 => ?_) (fun c36 => ?_)
            · refine lv_iinc (v := (nI (a + 1))) (lv' := [(4, .int (nI (a + 1))), (0, .ref (hm 0)), (1, .int (nI k)), (2, .int (nI w)), (3, .int (nI c2)), (5, .int (nI b))]) hx hb d_Model_suspicious_171 hl (k := 4) rfl (N_inc a) (by decide) rfl (fun ls hl => ?_)
              refine lv_goto (tgt := 10) hx hb d_Model_suspicious_174 (by decide) ?_
              exact ih10 (a + 1) c2 (by omega) (by omega) (by rw [← he, smG, ← he3]; rfl) _ _ hW ls (lv_sub hl [1, 2, 3, 4, 0] rfl)
            · exfalso; omega
          | succ n3 ih30 =>
            intro b c2 hb3 hc2 he3 H locs hW ls hl
            refine lv_iload hx hb d_Model_suspicious_30 (lv_at hl 5 rfl) ?_
            refine lv_aload_n hx hb d_Model_suspicious_32 rfl (lv_at hl 0 rfl) ?_
            refine R_get X hW i_Model rfl 2 (by decide) kf_Model_67 0 rfl rfl d_Model_suspicious_33 ?_
            refine N_icmp_ge_NN hx hb (by omega) (by omega) (tgt := 171) d_Model_suspicious_36 (by decide) (fun c36 => ?_) (fun c36 => ?_)
            · exfalso; omega
            · refine lv_aload_n hx hb d_Model_suspicious_39 rfl (lv_at hl 0 rfl) ?_
              refine R_get X hW i_Model rfl 10 (by decide) kf_Model_28 0 rfl rfl d_Model_suspicious_40 ?_
              refine lv_iload hx hb d_Model_suspicious_43 (lv_at hl 4 rfl) ?_
              refine R_zald X hW (t0 := 1) rfl 7 rfl (k := a) (by omega) (by decide) d_Model_suspicious_45 ?_
              refine N_if_eq_B hx hb  (tgt := 53) d_Model_suspicious_46 (by decide) (fun c46 => ?_) (fun c46 => ?_)
              · refine lv_aload_n hx hb d_Model_suspicious_53 rfl (lv_at hl 0 rfl) ?_
                refine lv_iload hx hb d_Model_suspicious_54 (lv_at hl 5 rfl) ?_
                refine lv_aload_n hx hb d_Model_suspicious_56 rfl (lv_at hl 0 rfl) ?_
                refine R_get X hW i_Model rfl 7 (by decide) kf_Model_19 0 rfl rfl d_Model_suspicious_57 ?_
                refine lv_iload hx hb d_Model_suspicious_60 (lv_at hl 4 rfl) ?_
                refine R_iald X hW (t0 := 0) rfl 4 rfl (k := a) (by omega) (by decide) d_Model_suspicious_62 ?_
                refine lv_aload_n hx hb d_Model_suspicious_63 rfl (lv_at hl 0 rfl) ?_
                refine R_get X hW i_Model rfl 9 (by decide) kf_Model_25 0 rfl rfl d_Model_suspicious_64 ?_
                refine lv_iload hx hb d_Model_suspicious_67 (lv_at hl 4 rfl) ?_
                refine R_iald X hW (t0 := 0) rfl 6 rfl (k := a) (by omega) (by decide) d_Model_suspicious_69 ?_
                refine R_callV (q0 := 0) (m_firstWrong l G cI cZ cJ hm 0 np ne ns tl mbd gr stt sp sq sec ans rt nw mtd un mss msc mip mcb msco mtim b (sq a) (ans a) (by omega) (by omega) (by omega) hI) X rfl hW cw_Model_143 ki_Model_firstWrong ks_Model_firstWrong rfl rfl ⟨rfl, rfl⟩ ⟨by decide, by decide⟩ ⟨Nat.zero_le _, Nat.zero_le _⟩ [true, true, true, true, true, true, true, true, true, true, true, true, true, true, true, true, true] rfl (Nat.le_of_ble_eq_true rfl) rfl rfl hl.1 rfl rfl (Nat.le_of_ble_eq_true rfl) d_Model_suspicious_70 rfl (fun H locs hW => ?_)
                have hW : Wr G A s.heap (w_M hm cI cZ cJ 0 np ne ns tl mbd gr stt sp sq sec ans rt nw mtd un mss msc mip mcb msco mtim) H locs := hW
                refine lv_istore (lv' := [(6, .int (oI (fstG (fwM sp sq ans rt b (sq a) (ans a)) ns 0))), (0, .ref (hm 0)), (1, .int (nI k)), (2, .int (nI w)), (3, .int (nI c2)), (4, .int (nI a)), (5, .int (nI b))]) hx hb d_Model_suspicious_73 hl (by decide) rfl (fun ls hl => ?_)
                have hfw : ∀ z, fwF sp sq ans rt ns a b = some z → z < ns := fun z hz => fwF_lt hz
                have hl : lv_has ls 8 [(6, .int (oI (fwF sp sq ans rt ns a b))), (0, .ref (hm 0)), (1, .int (nI k)), (2, .int (nI w)), (3, .int (nI c2)), (4, .int (nI a)), (5, .int (nI b))] := by
                  have e8 : (oI (fstG (fwM sp sq ans rt b (sq a) (ans a)) ns 0)) = oI (fwF sp sq ans rt ns a b) := by rw [show fwF sp sq ans rt ns a b = fstG (fwM sp sq ans rt b (sq a) (ans a)) ns 0 from if_neg (by simp [c46])]
                  rw [← e8]; exact hl
                refine lv_iload hx hb d_Model_suspicious_75 (lv_at hl 0 rfl) ?_
                refine N_if_ge_O hx hb (fun z hz => by have := hfw z hz; omega) (tgt := 83) d_Model_suspicious_77 (by decide) (fun c77 => ?_) (fun c77 => ?_)
                · obtain ⟨o, ho⟩ : ∃ q, fwF sp sq ans rt ns a b = some q := by cases hq : fwF sp sq ans rt ns a b with | none => exact absurd hq c77 | some q => exact ⟨q, rfl⟩
                  have y5 : o < ns := hfw o ho
                  have y6 := z8 a (by omega)
                  have y7 := z8 o (by omega)
                  refine lv_aload_n hx hb d_Model_suspicious_83 rfl (lv_at hl 1 rfl) ?_
                  refine R_get X hW i_Model rfl 8 (by decide) kf_Model_22 0 rfl rfl d_Model_suspicious_84 ?_
                  refine lv_iload hx hb d_Model_suspicious_87 (lv_at hl 5 rfl) ?_
                  refine R_iald X hW (t0 := 0) rfl 5 rfl (k := a) (by omega) (by decide) d_Model_suspicious_89 ?_
                  refine lv_aload_n hx hb d_Model_suspicious_90 rfl (lv_at hl 1 rfl) ?_
                  refine R_get X hW i_Model rfl 8 (by decide) kf_Model_22 0 rfl rfl d_Model_suspicious_91 ?_
                  refine lv_iload hx hb d_Model_suspicious_94 (lv_at hl 0 rfl) ?_
                  refine W.eq (g2 := F0 m 96 ls (.int (nI o) :: .ref (hm 5) :: .int (nI (sec a)) :: [])) (by rw [ho]; first | done | rfl) ?_
                  refine R_iald X hW (t0 := 0) rfl 5 rfl (k := o) (by omega) (by decide) d_Model_suspicious_96 ?_
                  refine N_icmp_ge_NN hx hb (by omega) (by omega) (tgt := 118) d_Model_suspicious_97 (by decide) (fun c97 => ?_) (fun c97 => ?_)
                  · have hds : dst (sec a) (sec o) = sec a - sec o := by unfold dst; rw [if_pos (by omega)]
                    refine lv_aload_n hx hb d_Model_suspicious_118 rfl (lv_at hl 1 rfl) ?_
                    refine R_get X hW i_Model rfl 8 (by decide) kf_Model_22 0 rfl rfl d_Model_suspicious_119 ?_
                    refine lv_iload hx hb d_Model_suspicious_122 (lv_at hl 5 rfl) ?_
                    refine R_iald X hW (t0 := 0) rfl 5 rfl (k := a) (by omega) (by decide) d_Model_suspicious_124 ?_
                    refine lv_aload_n hx hb d_Model_suspicious_125 rfl (lv_at hl 1 rfl) ?_
                    refine R_get X hW i_Model rfl 8 (by decide) kf_Model_22 0 rfl rfl d_Model_suspicious_126 ?_
                    refine lv_iload hx hb d_Model_suspicious_129 (lv_at hl 0 rfl) ?_
                    refine W.eq (g2 := F0 m 131 ls (.int (nI o) :: .ref (hm 5) :: .int (nI (sec a)) :: [])) (by rw [ho]; first | done | rfl) ?_
                    refine R_iald X hW (t0 := 0) rfl 5 rfl (k := o) (by omega) (by decide) d_Model_suspicious_131 ?_
                    refine N_isub (r := (sec a) - (sec o)) hx hb (by omega) (by omega) d_Model_suspicious_132 ?_
                    refine lv_istore (lv' := [(7, .int (nI ((sec a) - (sec o)))), (6, .int (oI (fwF sp sq ans rt ns a b))), (0, .ref (hm 0)), (1, .int (nI k)), (2, .int (nI w)), (3, .int (nI c2)), (4, .int (nI a)), (5, .int (nI b))]) hx hb d_Model_suspicious_133 hl (by decide) rfl (fun ls hl => ?_)
                    refine lv_iload hx hb d_Model_suspicious_135 (lv_at hl 0 rfl) ?_
                    refine lv_bipush (v := (nI 60)) hx hb d_Model_suspicious_137 (by decide +kernel) ?_
                    refine N_icmp_le_NN hx hb (by omega) (by decide) (tgt := 145) d_Model_suspicious_139 (by decide) (fun c139 => ?_) (fun c139 => ?_)
                    · refine lv_iload_n hx hb d_Model_suspicious_145 rfl (lv_at hl 5 rfl) ?_
                      refine lv_iload_n hx hb d_Model_suspicious_146 rfl (lv_at hl 3 rfl) ?_
                      refine N_icmp_ne_NN hx hb (by omega) (by omega) (tgt := 162) d_Model_suspicious_147 (by decide) (fun c147 => ?_) (fun c147 => ?_)
                      · refine lv_iinc (v := (nI (c2 + 1))) (lv' := [(3, .int (nI (c2 + 1))), (7, .int (nI ((sec a) - (sec o)))), (6, .int (oI (fwF sp sq ans rt ns a b))), (0, .ref (hm 0)), (1, .int (nI k)), (2, .int (nI w)), (4, .int (nI a)), (5, .int (nI b))]) hx hb d_Model_suspicious_162 hl (k := 5) rfl (N_inc c2) (by decide) rfl (fun ls hl => ?_)
                        refine lv_iinc (v := (nI (b + 1))) (lv' := [(5, .int (nI (b + 1))), (3, .int (nI (c2 + 1))), (7, .int (nI ((sec a) - (sec o)))), (6, .int (oI (fwF sp sq ans rt ns a b))), (0, .ref (hm 0)), (1, .int (nI k)), (2, .int (nI w)), (4, .int (nI a))]) hx hb d_Model_suspicious_165 hl (k := 7) rfl (N_inc b) (by decide) rfl (fun ls hl => ?_)
                        refine lv_goto (tgt := 30) hx hb d_Model_suspicious_168 (by decide) ?_
                        exact ih30 (b + 1) (c2 + 1) (by omega) (by omega) (by rw [← he3, imG, ho]; dsimp only; rw [if_neg (by rw [hds]; omega), if_neg c147]) _ _ hW ls (lv_sub hl [4, 5, 6, 1, 7, 0] rfl)
                      · refine lv_aload_n hx hb d_Model_suspicious_150 rfl (lv_at hl 2 rfl) ?_
                        refine lv_iload hx hb d_Model_suspicious_151 (lv_at hl 6 rfl) ?_
                        refine lv_iload hx hb d_Model_suspicious_153 (lv_at hl 7 rfl) ?_
                        refine lv_iload hx hb d_Model_suspicious_155 (lv_at hl 0 rfl) ?_
                        refine lv_iload_n hx hb d_Model_suspicious_157 rfl (lv_at hl 4 rfl) ?_
                        refine R_callV (q0 := 0) (m_tellPair l G cI cZ cJ hm 0 np ne ns tl mbd gr stt sp sq sec ans rt nw mtd un mss msc mip mcb msco mtim a b ((sec a) - (sec o)) w (by omega) hw0) X rfl hW cw_Model_147 ki_Model_tellPair ks_Model_tellPair rfl rfl ⟨rfl, rfl⟩ ⟨by decide, by decide⟩ ⟨Nat.zero_le _, Nat.zero_le _⟩ [true, true, true, true, true, true, true, true, true, true, true, true, true, true, true, true, true] rfl (Nat.le_of_ble_eq_true rfl) rfl rfl hl.1 rfl rfl (Nat.le_of_ble_eq_true rfl) d_Model_suspicious_158 rfl (fun H locs hW => ?_)
                        have hW : Wr G A s.heap (w_M hm cI cZ cJ 0 np ne ns tl mbd gr stt sp sq sec ans rt nw mtd un mss msc mip mcb msco mtim) H locs := hW
                        exact R_iret X Y hW rfl (by rw [← he, smG, ← he3, imG, ho]; dsimp only; rw [if_neg (by rw [hds]; omega), if_pos c147]; simp only [Option.map]; rw [hds]; rfl) d_Model_suspicious_161
                    · refine lv_goto (tgt := 165) hx hb d_Model_suspicious_142 (by decide) ?_
                      refine lv_iinc (v := (nI (b + 1))) (lv' := [(5, .int (nI (b + 1))), (7, .int (nI ((sec a) - (sec o)))), (6, .int (oI (fwF sp sq ans rt ns a b))), (0, .ref (hm 0)), (1, .int (nI k)), (2, .int (nI w)), (3, .int (nI c2)), (4, .int (nI a))]) hx hb d_Model_suspicious_165 hl (k := 7) rfl (N_inc b) (by decide) rfl (fun ls hl => ?_)
                      refine lv_goto (tgt := 30) hx hb d_Model_suspicious_168 (by decide) ?_
                      exact ih30 (b + 1) c2 (by omega) (by omega) (by rw [← he3, imG, ho]; dsimp only; rw [if_pos (by rw [hds]; omega)]) _ _ hW ls (lv_sub hl [3, 4, 5, 6, 7, 0] rfl)
                  · have hds : dst (sec a) (sec o) = sec o - sec a := by unfold dst; rw [if_neg (by omega)]
                    refine lv_aload_n hx hb d_Model_suspicious_100 rfl (lv_at hl 1 rfl) ?_
                    refine R_get X hW i_Model rfl 8 (by decide) kf_Model_22 0 rfl rfl d_Model_suspicious_101 ?_
                    refine lv_iload hx hb d_Model_suspicious_104 (lv_at hl 0 rfl) ?_
                    refine W.eq (g2 := F0 m 106 ls (.int (nI o) :: .ref (hm 5) :: [])) (by rw [ho]; first | done | rfl) ?_
                    refine R_iald X hW (t0 := 0) rfl 5 rfl (k := o) (by omega) (by decide) d_Model_suspicious_106 ?_
                    refine lv_aload_n hx hb d_Model_suspicious_107 rfl (lv_at hl 1 rfl) ?_
                    refine R_get X hW i_Model rfl 8 (by decide) kf_Model_22 0 rfl rfl d_Model_suspicious_108 ?_
                    refine lv_iload hx hb d_Model_suspicious_111 (lv_at hl 5 rfl) ?_
                    refine R_iald X hW (t0 := 0) rfl 5 rfl (k := a) (by omega) (by decide) d_Model_suspicious_113 ?_
                    refine N_isub (r := (sec o) - (sec a)) hx hb (by omega) (by omega) d_Model_suspicious_114 ?_
                    refine lv_goto (tgt := 133) hx hb d_Model_suspicious_115 (by decide) ?_
                    refine lv_istore (lv' := [(7, .int (nI ((sec o) - (sec a)))), (6, .int (oI (fwF sp sq ans rt ns a b))), (0, .ref (hm 0)), (1, .int (nI k)), (2, .int (nI w)), (3, .int (nI c2)), (4, .int (nI a)), (5, .int (nI b))]) hx hb d_Model_suspicious_133 hl (by decide) rfl (fun ls hl => ?_)
                    refine lv_iload hx hb d_Model_suspicious_135 (lv_at hl 0 rfl) ?_
                    refine lv_bipush (v := (nI 60)) hx hb d_Model_suspicious_137 (by decide +kernel) ?_
                    refine N_icmp_le_NN hx hb (by omega) (by decide) (tgt := 145) d_Model_suspicious_139 (by decide) (fun c139 => ?_) (fun c139 => ?_)
                    · refine lv_iload_n hx hb d_Model_suspicious_145 rfl (lv_at hl 5 rfl) ?_
                      refine lv_iload_n hx hb d_Model_suspicious_146 rfl (lv_at hl 3 rfl) ?_
                      refine N_icmp_ne_NN hx hb (by omega) (by omega) (tgt := 162) d_Model_suspicious_147 (by decide) (fun c147 => ?_) (fun c147 => ?_)
                      · refine lv_iinc (v := (nI (c2 + 1))) (lv' := [(3, .int (nI (c2 + 1))), (7, .int (nI ((sec o) - (sec a)))), (6, .int (oI (fwF sp sq ans rt ns a b))), (0, .ref (hm 0)), (1, .int (nI k)), (2, .int (nI w)), (4, .int (nI a)), (5, .int (nI b))]) hx hb d_Model_suspicious_162 hl (k := 5) rfl (N_inc c2) (by decide) rfl (fun ls hl => ?_)
                        refine lv_iinc (v := (nI (b + 1))) (lv' := [(5, .int (nI (b + 1))), (3, .int (nI (c2 + 1))), (7, .int (nI ((sec o) - (sec a)))), (6, .int (oI (fwF sp sq ans rt ns a b))), (0, .ref (hm 0)), (1, .int (nI k)), (2, .int (nI w)), (4, .int (nI a))]) hx hb d_Model_suspicious_165 hl (k := 7) rfl (N_inc b) (by decide) rfl (fun ls hl => ?_)
                        refine lv_goto (tgt := 30) hx hb d_Model_suspicious_168 (by decide) ?_
                        exact ih30 (b + 1) (c2 + 1) (by omega) (by omega) (by rw [← he3, imG, ho]; dsimp only; rw [if_neg (by rw [hds]; omega), if_neg c147]) _ _ hW ls (lv_sub hl [4, 5, 6, 1, 7, 0] rfl)
                      · refine lv_aload_n hx hb d_Model_suspicious_150 rfl (lv_at hl 2 rfl) ?_
                        refine lv_iload hx hb d_Model_suspicious_151 (lv_at hl 6 rfl) ?_
                        refine lv_iload hx hb d_Model_suspicious_153 (lv_at hl 7 rfl) ?_
                        refine lv_iload hx hb d_Model_suspicious_155 (lv_at hl 0 rfl) ?_
                        refine lv_iload_n hx hb d_Model_suspicious_157 rfl (lv_at hl 4 rfl) ?_
                        refine R_callV (q0 := 0) (m_tellPair l G cI cZ cJ hm 0 np ne ns tl mbd gr stt sp sq sec ans rt nw mtd un mss msc mip mcb msco mtim a b ((sec o) - (sec a)) w (by omega) hw0) X rfl hW cw_Model_147 ki_Model_tellPair ks_Model_tellPair rfl rfl ⟨rfl, rfl⟩ ⟨by decide, by decide⟩ ⟨Nat.zero_le _, Nat.zero_le _⟩ [true, true, true, true, true, true, true, true, true, true, true, true, true, true, true, true, true] rfl (Nat.le_of_ble_eq_true rfl) rfl rfl hl.1 rfl rfl (Nat.le_of_ble_eq_true rfl) d_Model_suspicious_158 rfl (fun H locs hW => ?_)
                        have hW : Wr G A s.heap (w_M hm cI cZ cJ 0 np ne ns tl mbd gr stt sp sq sec ans rt nw mtd un mss msc mip mcb msco mtim) H locs := hW
                        exact R_iret X Y hW rfl (by rw [← he, smG, ← he3, imG, ho]; dsimp only; rw [if_neg (by rw [hds]; omega), if_pos c147]; simp only [Option.map]; rw [hds]; rfl) d_Model_suspicious_161
                    · refine lv_goto (tgt := 165) hx hb d_Model_suspicious_142 (by decide) ?_
                      refine lv_iinc (v := (nI (b + 1))) (lv' := [(5, .int (nI (b + 1))), (7, .int (nI ((sec o) - (sec a)))), (6, .int (oI (fwF sp sq ans rt ns a b))), (0, .ref (hm 0)), (1, .int (nI k)), (2, .int (nI w)), (3, .int (nI c2)), (4, .int (nI a))]) hx hb d_Model_suspicious_165 hl (k := 7) rfl (N_inc b) (by decide) rfl (fun ls hl => ?_)
                      refine lv_goto (tgt := 30) hx hb d_Model_suspicious_168 (by decide) ?_
                      exact ih30 (b + 1) c2 (by omega) (by omega) (by rw [← he3, imG, ho]; dsimp only; rw [if_pos (by rw [hds]; omega)]) _ _ hW ls (lv_sub hl [3, 4, 5, 6, 7, 0] rfl)
                · refine lv_goto (tgt := 165) hx hb d_Model_suspicious_80 (by decide) ?_
                  refine lv_iinc (v := (nI (b + 1))) (lv' := [(5, .int (nI (b + 1))), (6, .int (oI (fwF sp sq ans rt ns a b))), (0, .ref (hm 0)), (1, .int (nI k)), (2, .int (nI w)), (3, .int (nI c2)), (4, .int (nI a))]) hx hb d_Model_suspicious_165 hl (k := 6) rfl (N_inc b) (by decide) rfl (fun ls hl => ?_)
                  refine lv_goto (tgt := 30) hx hb d_Model_suspicious_168 (by decide) ?_
                  exact ih30 (b + 1) c2 (by omega) (by omega) (by rw [← he3, imG, c77]) _ _ hW ls (lv_sub hl [2, 3, 4, 5, 6, 0] rfl)
              · refine lv_iconst (v := (-1)) hx hb d_Model_suspicious_49 (by decide +kernel) ?_
                refine lv_goto (tgt := 73) hx hb d_Model_suspicious_50 (by decide) ?_
                refine lv_istore (lv' := [(6, .int (-1)), (0, .ref (hm 0)), (1, .int (nI k)), (2, .int (nI w)), (3, .int (nI c2)), (4, .int (nI a)), (5, .int (nI b))]) hx hb d_Model_suspicious_73 hl (by decide) rfl (fun ls hl => ?_)
                have hfw : ∀ z, fwF sp sq ans rt ns a b = some z → z < ns := fun z hz => fwF_lt hz
                have hl : lv_has ls 8 [(6, .int (oI (fwF sp sq ans rt ns a b))), (0, .ref (hm 0)), (1, .int (nI k)), (2, .int (nI w)), (3, .int (nI c2)), (4, .int (nI a)), (5, .int (nI b))] := by
                  have e8 : (-1) = oI (fwF sp sq ans rt ns a b) := by rw [show fwF sp sq ans rt ns a b = none from if_pos c46]; rfl
                  rw [← e8]; exact hl
                refine lv_iload hx hb d_Model_suspicious_75 (lv_at hl 0 rfl) ?_
                refine N_if_ge_O hx hb (fun z hz => by have := hfw z hz; omega) (tgt := 83) d_Model_suspicious_77 (by decide) (fun c77 => ?_) (fun c77 => ?_)
                · obtain ⟨o, ho⟩ : ∃ q, fwF sp sq ans rt ns a b = some q := by cases hq : fwF sp sq ans rt ns a b with | none => exact absurd hq c77 | some q => exact ⟨q, rfl⟩
                  have y5 : o < ns := hfw o ho
                  have y6 := z8 a (by omega)
                  have y7 := z8 o (by omega)
                  refine lv_aload_n hx hb d_Model_suspicious_83 rfl (lv_at hl 1 rfl) ?_
                  refine R_get X hW i_Model rfl 8 (by decide) kf_Model_22 0 rfl rfl d_Model_suspicious_84 ?_
                  refine lv_iload hx hb d_Model_suspicious_87 (lv_at hl 5 rfl) ?_
                  refine R_iald X hW (t0 := 0) rfl 5 rfl (k := a) (by omega) (by decide) d_Model_suspicious_89 ?_
                  refine lv_aload_n hx hb d_Model_suspicious_90 rfl (lv_at hl 1 rfl) ?_
                  refine R_get X hW i_Model rfl 8 (by decide) kf_Model_22 0 rfl rfl d_Model_suspicious_91 ?_
                  refine lv_iload hx hb d_Model_suspicious_94 (lv_at hl 0 rfl) ?_
                  refine W.eq (g2 := F0 m 96 ls (.int (nI o) :: .ref (hm 5) :: .int (nI (sec a)) :: [])) (by rw [ho]; first | done | rfl) ?_
                  refine R_iald X hW (t0 := 0) rfl 5 rfl (k := o) (by omega) (by decide) d_Model_suspicious_96 ?_
                  refine N_icmp_ge_NN hx hb (by omega) (by omega) (tgt := 118) d_Model_suspicious_97 (by decide) (fun c97 => ?_) (fun c97 => ?_)
                  · have hds : dst (sec a) (sec o) = sec a - sec o := by unfold dst; rw [if_pos (by omega)]
                    refine lv_aload_n hx hb d_Model_suspicious_118 rfl (lv_at hl 1 rfl) ?_
                    refine R_get X hW i_Model rfl 8 (by decide) kf_Model_22 0 rfl rfl d_Model_suspicious_119 ?_
                    refine lv_iload hx hb d_Model_suspicious_122 (lv_at hl 5 rfl) ?_
                    refine R_iald X hW (t0 := 0) rfl 5 rfl (k := a) (by omega) (by decide) d_Model_suspicious_124 ?_
                    refine lv_aload_n hx hb d_Model_suspicious_125 rfl (lv_at hl 1 rfl) ?_
                    refine R_get X hW i_Model rfl 8 (by decide) kf_Model_22 0 rfl rfl d_Model_suspicious_126 ?_
                    refine lv_iload hx hb d_Model_suspicious_129 (lv_at hl 0 rfl) ?_
                    refine W.eq (g2 := F0 m 131 ls (.int (nI o) :: .ref (hm 5) :: .int (nI (sec a)) :: [])) (by rw [ho]; first | done | rfl) ?_
                    refine R_iald X hW (t0 := 0) rfl 5 rfl (k := o) (by omega) (by decide) d_Model_suspicious_131 ?_
                    refine N_isub (r := (sec a) - (sec o)) hx hb (by omega) (by omega) d_Model_suspicious_132 ?_
                    refine lv_istore (lv' := [(7, .int (nI ((sec a) - (sec o)))), (6, .int (oI (fwF sp sq ans rt ns a b))), (0, .ref (hm 0)), (1, .int (nI k)), (2, .int (nI w)), (3, .int (nI c2)), (4, .int (nI a)), (5, .int (nI b))]) hx hb d_Model_suspicious_133 hl (by decide) rfl (fun ls hl => ?_)
                    refine lv_iload hx hb d_Model_suspicious_135 (lv_at hl 0 rfl) ?_
                    refine lv_bipush (v := (nI 60)) hx hb d_Model_suspicious_137 (by decide +kernel) ?_
                    refine N_icmp_le_NN hx hb (by omega) (by decide) (tgt := 145) d_Model_suspicious_139 (by decide) (fun c139 => ?_) (fun c139 => ?_)
                    · refine lv_iload_n hx hb d_Model_suspicious_145 rfl (lv_at hl 5 rfl) ?_
                      refine lv_iload_n hx hb d_Model_suspicious_146 rfl (lv_at hl 3 rfl) ?_
                      refine N_icmp_ne_NN hx hb (by omega) (by omega) (tgt := 162) d_Model_suspicious_147 (by decide) (fun c147 => ?_) (fun c147 => ?_)
                      · refine lv_iinc (v := (nI (c2 + 1))) (lv' := [(3, .int (nI (c2 + 1))), (7, .int (nI ((sec a) - (sec o)))), (6, .int (oI (fwF sp sq ans rt ns a b))), (0, .ref (hm 0)), (1, .int (nI k)), (2, .int (nI w)), (4, .int (nI a)), (5, .int (nI b))]) hx hb d_Model_suspicious_162 hl (k := 5) rfl (N_inc c2) (by decide) rfl (fun ls hl => ?_)
                        refine lv_iinc (v := (nI (b + 1))) (lv' := [(5, .int (nI (b + 1))), (3, .int (nI (c2 + 1))), (7, .int (nI ((sec a) - (sec o)))), (6, .int (oI (fwF sp sq ans rt ns a b))), (0, .ref (hm 0)), (1, .int (nI k)), (2, .int (nI w)), (4, .int (nI a))]) hx hb d_Model_suspicious_165 hl (k := 7) rfl (N_inc b) (by decide) rfl (fun ls hl => ?_)
                        refine lv_goto (tgt := 30) hx hb d_Model_suspicious_168 (by decide) ?_
                        exact ih30 (b + 1) (c2 + 1) (by omega) (by omega) (by rw [← he3, imG, ho]; dsimp only; rw [if_neg (by rw [hds]; omega), if_neg c147]) _ _ hW ls (lv_sub hl [4, 5, 6, 1, 7, 0] rfl)
                      · refine lv_aload_n hx hb d_Model_suspicious_150 rfl (lv_at hl 2 rfl) ?_
                        refine lv_iload hx hb d_Model_suspicious_151 (lv_at hl 6 rfl) ?_
                        refine lv_iload hx hb d_Model_suspicious_153 (lv_at hl 7 rfl) ?_
                        refine lv_iload hx hb d_Model_suspicious_155 (lv_at hl 0 rfl) ?_
                        refine lv_iload_n hx hb d_Model_suspicious_157 rfl (lv_at hl 4 rfl) ?_
                        refine R_callV (q0 := 0) (m_tellPair l G cI cZ cJ hm 0 np ne ns tl mbd gr stt sp sq sec ans rt nw mtd un mss msc mip mcb msco mtim a b ((sec a) - (sec o)) w (by omega) hw0) X rfl hW cw_Model_147 ki_Model_tellPair ks_Model_tellPair rfl rfl ⟨rfl, rfl⟩ ⟨by decide, by decide⟩ ⟨Nat.zero_le _, Nat.zero_le _⟩ [true, true, true, true, true, true, true, true, true, true, true, true, true, true, true, true, true] rfl (Nat.le_of_ble_eq_true rfl) rfl rfl hl.1 rfl rfl (Nat.le_of_ble_eq_true rfl) d_Model_suspicious_158 rfl (fun H locs hW => ?_)
                        have hW : Wr G A s.heap (w_M hm cI cZ cJ 0 np ne ns tl mbd gr stt sp sq sec ans rt nw mtd un mss msc mip mcb msco mtim) H locs := hW
                        exact R_iret X Y hW rfl (by rw [← he, smG, ← he3, imG, ho]; dsimp only; rw [if_neg (by rw [hds]; omega), if_pos c147]; simp only [Option.map]; rw [hds]; rfl) d_Model_suspicious_161
                    · refine lv_goto (tgt := 165) hx hb d_Model_suspicious_142 (by decide) ?_
                      refine lv_iinc (v := (nI (b + 1))) (lv' := [(5, .int (nI (b + 1))), (7, .int (nI ((sec a) - (sec o)))), (6, .int (oI (fwF sp sq ans rt ns a b))), (0, .ref (hm 0)), (1, .int (nI k)), (2, .int (nI w)), (3, .int (nI c2)), (4, .int (nI a))]) hx hb d_Model_suspicious_165 hl (k := 7) rfl (N_inc b) (by decide) rfl (fun ls hl => ?_)
                      refine lv_goto (tgt := 30) hx hb d_Model_suspicious_168 (by decide) ?_
                      exact ih30 (b + 1) c2 (by omega) (by omega) (by rw [← he3, imG, ho]; dsimp only; rw [if_pos (by rw [hds]; omega)]) _ _ hW ls (lv_sub hl [3, 4, 5, 6, 7, 0] rfl)
                  · have hds : dst (sec a) (sec o) = sec o - sec a := by unfold dst; rw [if_neg (by omega)]
                    refine lv_aload_n hx hb d_Model_suspicious_100 rfl (lv_at hl 1 rfl) ?_
                    refine R_get X hW i_Model rfl 8 (by decide) kf_Model_22 0 rfl rfl d_Model_suspicious_101 ?_
                    refine lv_iload hx hb d_Model_suspicious_104 (lv_at hl 0 rfl) ?_
                    refine W.eq (g2 := F0 m 106 ls (.int (nI o) :: .ref (hm 5) :: [])) (by rw [ho]; first | done | rfl) ?_
                    refine R_iald X hW (t0 := 0) rfl 5 rfl (k := o) (by omega) (by decide) d_Model_suspicious_106 ?_
                    refine lv_aload_n hx hb d_Model_suspicious_107 rfl (lv_at hl 1 rfl) ?_
                    refine R_get X hW i_Model rfl 8 (by decide) kf_Model_22 0 rfl rfl d_Model_suspicious_108 ?_
                    refine lv_iload hx hb d_Model_suspicious_111 (lv_at hl 5 rfl) ?_
                    refine R_iald X hW (t0 := 0) rfl 5 rfl (k := a) (by omega) (by decide) d_Model_suspicious_113 ?_
                    refine N_isub (r := (sec o) - (sec a)) hx hb (by omega) (by omega) d_Model_suspicious_114 ?_
                    refine lv_goto (tgt := 133) hx hb d_Model_suspicious_115 (by decide) ?_
                    refine lv_istore (lv' := [(7, .int (nI ((sec o) - (sec a)))), (6, .int (oI (fwF sp sq ans rt ns a b))), (0, .ref (hm 0)), (1, .int (nI k)), (2, .int (nI w)), (3, .int (nI c2)), (4, .int (nI a)), (5, .int (nI b))]) hx hb d_Model_suspicious_133 hl (by decide) rfl (fun ls hl => ?_)
                    refine lv_iload hx hb d_Model_suspicious_135 (lv_at hl 0 rfl) ?_
                    refine lv_bipush (v := (nI 60)) hx hb d_Model_suspicious_137 (by decide +kernel) ?_
                    refine N_icmp_le_NN hx hb (by omega) (by decide) (tgt := 145) d_Model_suspicious_139 (by decide) (fun c139 => ?_) (fun c139 => ?_)
                    · refine lv_iload_n hx hb d_Model_suspicious_145 rfl (lv_at hl 5 rfl) ?_
                      refine lv_iload_n hx hb d_Model_suspicious_146 rfl (lv_at hl 3 rfl) ?_
                      refine N_icmp_ne_NN hx hb (by omega) (by omega) (tgt := 162) d_Model_suspicious_147 (by decide) (fun c147 => ?_) (fun c147 => ?_)
                      · refine lv_iinc (v := (nI (c2 + 1))) (lv' := [(3, .int (nI (c2 + 1))), (7, .int (nI ((sec o) - (sec a)))), (6, .int (oI (fwF sp sq ans rt ns a b))), (0, .ref (hm 0)), (1, .int (nI k)), (2, .int (nI w)), (4, .int (nI a)), (5, .int (nI b))]) hx hb d_Model_suspicious_162 hl (k := 5) rfl (N_inc c2) (by decide) rfl (fun ls hl => ?_)
                        refine lv_iinc (v := (nI (b + 1))) (lv' := [(5, .int (nI (b + 1))), (3, .int (nI (c2 + 1))), (7, .int (nI ((sec o) - (sec a)))), (6, .int (oI (fwF sp sq ans rt ns a b))), (0, .ref (hm 0)), (1, .int (nI k)), (2, .int (nI w)), (4, .int (nI a))]) hx hb d_Model_suspicious_165 hl (k := 7) rfl (N_inc b) (by decide) rfl (fun ls hl => ?_)
                        refine lv_goto (tgt := 30) hx hb d_Model_suspicious_168 (by decide) ?_
                        exact ih30 (b + 1) (c2 + 1) (by omega) (by omega) (by rw [← he3, imG, ho]; dsimp only; rw [if_neg (by rw [hds]; omega), if_neg c147]) _ _ hW ls (lv_sub hl [4, 5, 6, 1, 7, 0] rfl)
                      · refine lv_aload_n hx hb d_Model_suspicious_150 rfl (lv_at hl 2 rfl) ?_
                        refine lv_iload hx hb d_Model_suspicious_151 (lv_at hl 6 rfl) ?_
                        refine lv_iload hx hb d_Model_suspicious_153 (lv_at hl 7 rfl) ?_
                        refine lv_iload hx hb d_Model_suspicious_155 (lv_at hl 0 rfl) ?_
                        refine lv_iload_n hx hb d_Model_suspicious_157 rfl (lv_at hl 4 rfl) ?_
                        refine R_callV (q0 := 0) (m_tellPair l G cI cZ cJ hm 0 np ne ns tl mbd gr stt sp sq sec ans rt nw mtd un mss msc mip mcb msco mtim a b ((sec o) - (sec a)) w (by omega) hw0) X rfl hW cw_Model_147 ki_Model_tellPair ks_Model_tellPair rfl rfl ⟨rfl, rfl⟩ ⟨by decide, by decide⟩ ⟨Nat.zero_le _, Nat.zero_le _⟩ [true, true, true, true, true, true, true, true, true, true, true, true, true, true, true, true, true] rfl (Nat.le_of_ble_eq_true rfl) rfl rfl hl.1 rfl rfl (Nat.le_of_ble_eq_true rfl) d_Model_suspicious_158 rfl (fun H locs hW => ?_)
                        have hW : Wr G A s.heap (w_M hm cI cZ cJ 0 np ne ns tl mbd gr stt sp sq sec ans rt nw mtd un mss msc mip mcb msco mtim) H locs := hW
                        exact R_iret X Y hW rfl (by rw [← he, smG, ← he3, imG, ho]; dsimp only; rw [if_neg (by rw [hds]; omega), if_pos c147]; simp only [Option.map]; rw [hds]; rfl) d_Model_suspicious_161
                    · refine lv_goto (tgt := 165) hx hb d_Model_suspicious_142 (by decide) ?_
                      refine lv_iinc (v := (nI (b + 1))) (lv' := [(5, .int (nI (b + 1))), (7, .int (nI ((sec o) - (sec a)))), (6, .int (oI (fwF sp sq ans rt ns a b))), (0, .ref (hm 0)), (1, .int (nI k)), (2, .int (nI w)), (3, .int (nI c2)), (4, .int (nI a))]) hx hb d_Model_suspicious_165 hl (k := 7) rfl (N_inc b) (by decide) rfl (fun ls hl => ?_)
                      refine lv_goto (tgt := 30) hx hb d_Model_suspicious_168 (by decide) ?_
                      exact ih30 (b + 1) c2 (by omega) (by omega) (by rw [← he3, imG, ho]; dsimp only; rw [if_pos (by rw [hds]; omega)]) _ _ hW ls (lv_sub hl [3, 4, 5, 6, 7, 0] rfl)
                · refine lv_goto (tgt := 165) hx hb d_Model_suspicious_80 (by decide) ?_
                  refine lv_iinc (v := (nI (b + 1))) (lv' := [(5, .int (nI (b + 1))), (6, .int (oI (fwF sp sq ans rt ns a b))), (0, .ref (hm 0)), (1, .int (nI k)), (2, .int (nI w)), (3, .int (nI c2)), (4, .int (nI a))]) hx hb d_Model_suspicious_165 hl (k := 6) rfl (N_inc b) (by decide) rfl (fun ls hl => ?_)
                  refine lv_goto (tgt := 30) hx hb d_Model_suspicious_168 (by decide) ?_
                  exact ih30 (b + 1) c2 (by omega) (by omega) (by rw [← he3, imG, c77]) _ _ hW ls (lv_sub hl [2, 3, 4, 5, 6, 0] rfl)
        exact L30 (ne - (sp a + 1)) (sp a + 1) cn (by omega) (by omega) rfl _ _ hW ls (lv_sub hl [1, 2, 3, 4, 5, 0] rfl)
  exact L10 ns 0 0 (by omega) (by omega) rfl _ _ hW ls (lv_sub hl [2, 3, 4, 1, 0] rfl)

set_option maxHeartbeats 4000000 in
set_option maxRecDepth 100000 in
theorem m_suspicious_bad (l : Launch) (G : va_G) (cI cZ cJ : ClassId) (hm : Nat → Nat) (mth : Nat) (np : Nat) (ne : Nat) (ns : Nat) (tl : Nat) (mbd : Option Nat) (gr : Nat → Nat) (stt : Nat → Option Nat) (sp : Nat → Nat) (sq : Nat → Nat) (sec : Nat → Nat) (ans : Nat → Nat) (rt : Nat → Bool) (nw : Nat → Nat) (mtd : Nat → Nat) (un : Nat → Nat) (mss : Nat → Nat) (msc : Nat → Nat) (mip : Nat → Bool) (mcb : Nat → Bool) (msco : Nat → Nat) (mtim : Nat → Nat) (k : Int32) (w : Int32) (hbad : ¬ (0 ≤ k.toInt ∧ 0 ≤ w.toInt ∧ w.toInt ≤ 3)) (hI : IS np ne ns gr nw sp sq sec (fun i => i) ans stt) : Ct l G (tyL cI cZ cJ) y_Model_suspicious b_Model_suspicious 8 (some .int) (rmL 2) [.ref (hm 0), .int k, .int w] (w_M hm cI cZ cJ mth np ne ns tl mbd gr stt sp sq sec ans rt nw mtd un mss msc mip mcb msco mtim) (some (.int (-1))) (w_M hm cI cZ cJ 0 np ne ns tl mbd gr stt sp sq sec ans rt nw mtd un mss msc mip mcb msco mtim) := by
  refine M_start (by decide) (Nat.le_of_ble_eq_true rfl) ?_
  intro p e s m args below meth c A Q ls X Y hW hl
  have hx := X.1.1
  have hb := X.1.2.1
  have hl : lv_has ls 8 [(0, .ref (hm 0)), (1, .int k), (2, .int w)] := hl
  obtain ⟨z1, z2, z3, z4, z5, z6, z7, z8, z9, z10, z11, z12, z13⟩ := id hI
  refine lv_aload_n hx hb d_Model_suspicious_0 rfl (lv_at hl 0 rfl) ?_
  refine lv_iconst (v := (nI 0)) hx hb d_Model_suspicious_1 (by decide +kernel) ?_
  refine R_put X hW i_Model rfl t_Model t_Model_ok n_Model 0 (by decide) kf_Model_60 rfl (ty := .int) (by decide +kernel) 0 rfl (v := .int (nI 0)) rfl rfl (Nat.le_of_ble_eq_true rfl) d_Model_suspicious_2 (fun H locs hW => ?_)
  have hW : Wr G A s.heap (w_M hm cI cZ cJ 0 np ne ns tl mbd gr stt sp sq sec ans rt nw mtd un mss msc mip mcb msco mtim) H locs := hW
  refine lv_iconst (v := (nI 0)) hx hb d_Model_suspicious_5 (by decide +kernel) ?_
  refine lv_istore_n (lv' := [(3, .int (nI 0)), (0, .ref (hm 0)), (1, .int k), (2, .int w)]) hx hb d_Model_suspicious_6 rfl hl (by decide) rfl (fun ls hl => ?_)
  refine lv_iconst (v := (nI 0)) hx hb d_Model_suspicious_7 (by decide +kernel) ?_
  refine lv_istore (lv' := [(4, .int (nI 0)), (3, .int (nI 0)), (0, .ref (hm 0)), (1, .int k), (2, .int w)]) hx hb d_Model_suspicious_8 hl (by decide) rfl (fun ls hl => ?_)
  have L10 : ∀ (n : Nat) (a : Nat) (cn : Nat) (hi : a + n = ns) (hcn : cn ≤ 20 * a) (H : Heap) (locs : List Loc) (hW : Wr G A s.heap (w_M hm cI cZ cJ 0 np ne ns tl mbd gr stt sp sq sec ans rt nw mtd un mss msc mip mcb msco mtim) H locs) (ls : Array Slot) (hl : lv_has ls 8 [(0, .ref (hm 0)), (1, .int k), (2, .int w), (3, .int (nI cn)), (4, .int (nI a))]), W p l e (rmL 2) s m args below meth c H locs 0 0 Q (F0 m 10 ls []) := by
    intro n
    induction n with
    | zero =>
      intro a cn hi hcn H locs hW ls hl
      refine lv_iload hx hb d_Model_suspicious_10 (lv_at hl 4 rfl) ?_
      refine lv_aload_n hx hb d_Model_suspicious_12 rfl (lv_at hl 0 rfl) ?_
      refine R_get X hW i_Model rfl 3 (by decide) kf_Model_70 0 rfl rfl d_Model_suspicious_13 ?_
      refine N_icmp_ge_NN hx hb (by omega) (by omega) (tgt := 177) d_Model_suspicious_16 (by decide) (fun c16 => ?_) (fun c16 => ?_)
      · refine lv_iconst (v := (-1)) hx hb d_Model_suspicious_177 (by decide +kernel) ?_
        exact R_iret X Y hW rfl rfl d_Model_suspicious_178
      · exfalso; omega
    | succ n ih10 =>
      intro a cn hi hcn H locs hW ls hl
      refine lv_iload hx hb d_Model_suspicious_10 (lv_at hl 4 rfl) ?_
      refine lv_aload_n hx hb d_Model_suspicious_12 rfl (lv_at hl 0 rfl) ?_
      refine R_get X hW i_Model rfl 3 (by decide) kf_Model_70 0 rfl rfl d_Model_suspicious_13 ?_
      refine N_icmp_ge_NN hx hb (by omega) (by omega) (tgt := 177) d_Model_suspicious_16 (by decide) (fun c16 => ?_) (fun c16 => ?_)
      · exfalso; omega
      · have y1 := z6 a (by omega)
        have y2 := z13 a (by omega)
        have y3 := z10 a (by omega)
        refine lv_aload_n hx hb d_Model_suspicious_19 rfl (lv_at hl 0 rfl) ?_
        refine R_get X hW i_Model rfl 6 (by decide) kf_Model_16 0 rfl rfl d_Model_suspicious_20 ?_
        refine lv_iload hx hb d_Model_suspicious_23 (lv_at hl 4 rfl) ?_
        refine R_iald X hW (t0 := 0) rfl 3 rfl (k := a) (by omega) (by decide) d_Model_suspicious_25 ?_
        refine lv_iconst (v := (nI 1)) hx hb d_Model_suspicious_26 (by decide +kernel) ?_
        refine N_iadd hx hb d_Model_suspicious_27 ?_
        refine lv_istore (lv' := [(5, .int (nI ((sp a) + 1))), (0, .ref (hm 0)), (1, .int k), (2, .int w), (3, .int (nI cn)), (4, .int (nI a))]) hx hb d_Model_suspicious_28 hl (by decide) rfl (fun ls hl => ?_)
        have L30 : ∀ (n3 : Nat) (b : Nat) (c2 : Nat) (hb3 : b + n3 = ne) (hc2 : c2 ≤ 20 * a + b) (H : Heap) (locs : List Loc) (hW : Wr G A s.heap (w_M hm cI cZ cJ 0 np ne ns tl mbd gr stt sp sq sec ans rt nw mtd un mss msc mip mcb msco mtim) H locs) (ls : Array Slot) (hl : lv_has ls 8 [(0, .ref (hm 0)), (1, .int k), (2, .int w), (3, .int (nI c2)), (4, .int (nI a)), (5, .int (nI b))]), W p l e (rmL 2) s m args below meth c H locs 0 0 Q (F0 m 30 ls []) := by
          intro n3
          induction n3 with
          | zero =>
            intro b c2 hb3 hc2 H locs hW ls hl
            refine lv_iload hx hb d_Model_suspicious_30 (lv_at hl 5 rfl) ?_
            refine lv_aload_n hx hb d_Model_suspicious_32 rfl (lv_at hl 0 rfl) ?_
            refine R_get X hW i_Model rfl 2 (by decide) kf_Model_67 0 rfl rfl d_Model_suspicious_33 ?_
            refine N_icmp_ge_NN hx hb (by omega) (by omega) (tgt := 171) d_Model_suspicious_36 (by decide) (fun c36 => ?_) (fun c36 => ?_)
            · refine lv_iinc (v := (nI (a + 1))) (lv' := [(4, .int (nI (a + 1))), (0, .ref (hm 0)), (1, .int k), (2, .int w), (3, .int (nI c2)), (5, .int (nI b))]) hx hb d_Model_suspicious_171 hl (k := 4) rfl (N_inc a) (by decide) rfl (fun ls hl => ?_)
              refine lv_goto (tgt := 10) hx hb d_Model_suspicious_174 (by decide) ?_
              exact ih10 (a + 1) c2 (by omega) (by omega) _ _ hW ls (lv_sub hl [1, 2, 3, 4, 0] rfl)
            · exfalso; omega
          | succ n3 ih30 =>
            intro b c2 hb3 hc2 H locs hW ls hl
            refine lv_iload hx hb d_Model_suspicious_30 (lv_at hl 5 rfl) ?_
            refine lv_aload_n hx hb d_Model_suspicious_32 rfl (lv_at hl 0 rfl) ?_
            refine R_get X hW i_Model rfl 2 (by decide) kf_Model_67 0 rfl rfl d_Model_suspicious_33 ?_
            refine N_icmp_ge_NN hx hb (by omega) (by omega) (tgt := 171) d_Model_suspicious_36 (by decide) (fun c36 => ?_) (fun c36 => ?_)
            · exfalso; omega
            · refine lv_aload_n hx hb d_Model_suspicious_39 rfl (lv_at hl 0 rfl) ?_
              refine R_get X hW i_Model rfl 10 (by decide) kf_Model_28 0 rfl rfl d_Model_suspicious_40 ?_
              refine lv_iload hx hb d_Model_suspicious_43 (lv_at hl 4 rfl) ?_
              refine R_zald X hW (t0 := 1) rfl 7 rfl (k := a) (by omega) (by decide) d_Model_suspicious_45 ?_
              refine N_if_eq_B hx hb  (tgt := 53) d_Model_suspicious_46 (by decide) (fun c46 => ?_) (fun c46 => ?_)
              · refine lv_aload_n hx hb d_Model_suspicious_53 rfl (lv_at hl 0 rfl) ?_
                refine lv_iload hx hb d_Model_suspicious_54 (lv_at hl 5 rfl) ?_
                refine lv_aload_n hx hb d_Model_suspicious_56 rfl (lv_at hl 0 rfl) ?_
                refine R_get X hW i_Model rfl 7 (by decide) kf_Model_19 0 rfl rfl d_Model_suspicious_57 ?_
                refine lv_iload hx hb d_Model_suspicious_60 (lv_at hl 4 rfl) ?_
                refine R_iald X hW (t0 := 0) rfl 4 rfl (k := a) (by omega) (by decide) d_Model_suspicious_62 ?_
                refine lv_aload_n hx hb d_Model_suspicious_63 rfl (lv_at hl 0 rfl) ?_
                refine R_get X hW i_Model rfl 9 (by decide) kf_Model_25 0 rfl rfl d_Model_suspicious_64 ?_
                refine lv_iload hx hb d_Model_suspicious_67 (lv_at hl 4 rfl) ?_
                refine R_iald X hW (t0 := 0) rfl 6 rfl (k := a) (by omega) (by decide) d_Model_suspicious_69 ?_
                refine R_callV (q0 := 0) (m_firstWrong l G cI cZ cJ hm 0 np ne ns tl mbd gr stt sp sq sec ans rt nw mtd un mss msc mip mcb msco mtim b (sq a) (ans a) (by omega) (by omega) (by omega) hI) X rfl hW cw_Model_143 ki_Model_firstWrong ks_Model_firstWrong rfl rfl ⟨rfl, rfl⟩ ⟨by decide, by decide⟩ ⟨Nat.zero_le _, Nat.zero_le _⟩ [true, true, true, true, true, true, true, true, true, true, true, true, true, true, true, true, true] rfl (Nat.le_of_ble_eq_true rfl) rfl rfl hl.1 rfl rfl (Nat.le_of_ble_eq_true rfl) d_Model_suspicious_70 rfl (fun H locs hW => ?_)
                have hW : Wr G A s.heap (w_M hm cI cZ cJ 0 np ne ns tl mbd gr stt sp sq sec ans rt nw mtd un mss msc mip mcb msco mtim) H locs := hW
                refine lv_istore (lv' := [(6, .int (oI (fstG (fwM sp sq ans rt b (sq a) (ans a)) ns 0))), (0, .ref (hm 0)), (1, .int k), (2, .int w), (3, .int (nI c2)), (4, .int (nI a)), (5, .int (nI b))]) hx hb d_Model_suspicious_73 hl (by decide) rfl (fun ls hl => ?_)
                have hfw : ∀ z, fwF sp sq ans rt ns a b = some z → z < ns := fun z hz => fwF_lt hz
                have hl : lv_has ls 8 [(6, .int (oI (fwF sp sq ans rt ns a b))), (0, .ref (hm 0)), (1, .int k), (2, .int w), (3, .int (nI c2)), (4, .int (nI a)), (5, .int (nI b))] := by
                  have e8 : (oI (fstG (fwM sp sq ans rt b (sq a) (ans a)) ns 0)) = oI (fwF sp sq ans rt ns a b) := by rw [show fwF sp sq ans rt ns a b = fstG (fwM sp sq ans rt b (sq a) (ans a)) ns 0 from if_neg (by simp [c46])]
                  rw [← e8]; exact hl
                refine lv_iload hx hb d_Model_suspicious_75 (lv_at hl 0 rfl) ?_
                refine N_if_ge_O hx hb (fun z hz => by have := hfw z hz; omega) (tgt := 83) d_Model_suspicious_77 (by decide) (fun c77 => ?_) (fun c77 => ?_)
                · obtain ⟨o, ho⟩ : ∃ q, fwF sp sq ans rt ns a b = some q := by cases hq : fwF sp sq ans rt ns a b with | none => exact absurd hq c77 | some q => exact ⟨q, rfl⟩
                  have y5 : o < ns := hfw o ho
                  have y6 := z8 a (by omega)
                  have y7 := z8 o (by omega)
                  refine lv_aload_n hx hb d_Model_suspicious_83 rfl (lv_at hl 1 rfl) ?_
                  refine R_get X hW i_Model rfl 8 (by decide) kf_Model_22 0 rfl rfl d_Model_suspicious_84 ?_
                  refine lv_iload hx hb d_Model_suspicious_87 (lv_at hl 5 rfl) ?_
                  refine R_iald X hW (t0 := 0) rfl 5 rfl (k := a) (by omega) (by decide) d_Model_suspicious_89 ?_
                  refine lv_aload_n hx hb d_Model_suspicious_90 rfl (lv_at hl 1 rfl) ?_
                  refine R_get X hW i_Model rfl 8 (by decide) kf_Model_22 0 rfl rfl d_Model_suspicious_91 ?_
                  refine lv_iload hx hb d_Model_suspicious_94 (lv_at hl 0 rfl) ?_
                  refine W.eq (g2 := F0 m 96 ls (.int (nI o) :: .ref (hm 5) :: .int (nI (sec a)) :: [])) (by rw [ho]; first | done | rfl) ?_
                  refine R_iald X hW (t0 := 0) rfl 5 rfl (k := o) (by omega) (by decide) d_Model_suspicious_96 ?_
                  refine N_icmp_ge_NN hx hb (by omega) (by omega) (tgt := 118) d_Model_suspicious_97 (by decide) (fun c97 => ?_) (fun c97 => ?_)
                  · have hds : dst (sec a) (sec o) = sec a - sec o := by unfold dst; rw [if_pos (by omega)]
                    refine lv_aload_n hx hb d_Model_suspicious_118 rfl (lv_at hl 1 rfl) ?_
                    refine R_get X hW i_Model rfl 8 (by decide) kf_Model_22 0 rfl rfl d_Model_suspicious_119 ?_
                    refine lv_iload hx hb d_Model_suspicious_122 (lv_at hl 5 rfl) ?_
                    refine R_iald X hW (t0 := 0) rfl 5 rfl (k := a) (by omega) (by decide) d_Model_suspicious_124 ?_
                    refine lv_aload_n hx hb d_Model_suspicious_125 rfl (lv_at hl 1 rfl) ?_
                    refine R_get X hW i_Model rfl 8 (by decide) kf_Model_22 0 rfl rfl d_Model_suspicious_126 ?_
                    refine lv_iload hx hb d_Model_suspicious_129 (lv_at hl 0 rfl) ?_
                    refine W.eq (g2 := F0 m 131 ls (.int (nI o) :: .ref (hm 5) :: .int (nI (sec a)) :: [])) (by rw [ho]; first | done | rfl) ?_
                    refine R_iald X hW (t0 := 0) rfl 5 rfl (k := o) (by omega) (by decide) d_Model_suspicious_131 ?_
                    refine N_isub (r := (sec a) - (sec o)) hx hb (by omega) (by omega) d_Model_suspicious_132 ?_
                    refine lv_istore (lv' := [(7, .int (nI ((sec a) - (sec o)))), (6, .int (oI (fwF sp sq ans rt ns a b))), (0, .ref (hm 0)), (1, .int k), (2, .int w), (3, .int (nI c2)), (4, .int (nI a)), (5, .int (nI b))]) hx hb d_Model_suspicious_133 hl (by decide) rfl (fun ls hl => ?_)
                    refine lv_iload hx hb d_Model_suspicious_135 (lv_at hl 0 rfl) ?_
                    refine lv_bipush (v := (nI 60)) hx hb d_Model_suspicious_137 (by decide +kernel) ?_
                    refine N_icmp_le_NN hx hb (by omega) (by decide) (tgt := 145) d_Model_suspicious_139 (by decide) (fun c139 => ?_) (fun c139 => ?_)
                    · refine lv_iload_n hx hb d_Model_suspicious_145 rfl (lv_at hl 5 rfl) ?_
                      refine lv_iload_n hx hb d_Model_suspicious_146 rfl (lv_at hl 3 rfl) ?_
                      refine N_icmp_ne_NR hx hb (by omega) (tgt := 162) d_Model_suspicious_147 (by decide) (fun c147 => ?_) (fun c147 => ?_)
                      · refine lv_iinc (v := (nI (c2 + 1))) (lv' := [(3, .int (nI (c2 + 1))), (7, .int (nI ((sec a) - (sec o)))), (6, .int (oI (fwF sp sq ans rt ns a b))), (0, .ref (hm 0)), (1, .int k), (2, .int w), (4, .int (nI a)), (5, .int (nI b))]) hx hb d_Model_suspicious_162 hl (k := 5) rfl (N_inc c2) (by decide) rfl (fun ls hl => ?_)
                        refine lv_iinc (v := (nI (b + 1))) (lv' := [(5, .int (nI (b + 1))), (3, .int (nI (c2 + 1))), (7, .int (nI ((sec a) - (sec o)))), (6, .int (oI (fwF sp sq ans rt ns a b))), (0, .ref (hm 0)), (1, .int k), (2, .int w), (4, .int (nI a))]) hx hb d_Model_suspicious_165 hl (k := 7) rfl (N_inc b) (by decide) rfl (fun ls hl => ?_)
                        refine lv_goto (tgt := 30) hx hb d_Model_suspicious_168 (by decide) ?_
                        exact ih30 (b + 1) (c2 + 1) (by omega) (by omega) _ _ hW ls (lv_sub hl [4, 5, 6, 1, 7, 0] rfl)
                      · refine lv_aload_n hx hb d_Model_suspicious_150 rfl (lv_at hl 2 rfl) ?_
                        refine lv_iload hx hb d_Model_suspicious_151 (lv_at hl 6 rfl) ?_
                        refine lv_iload hx hb d_Model_suspicious_153 (lv_at hl 7 rfl) ?_
                        refine lv_iload hx hb d_Model_suspicious_155 (lv_at hl 0 rfl) ?_
                        refine lv_iload_n hx hb d_Model_suspicious_157 rfl (lv_at hl 4 rfl) ?_
                        refine R_callV (q0 := 0) (m_tellPair_bad l G cI cZ cJ hm 0 np ne ns tl mbd gr stt sp sq sec ans rt nw mtd un mss msc mip mcb msco mtim a b ((sec a) - (sec o)) w (fun q => hbad ⟨by omega, q.1, q.2⟩)) X rfl hW cw_Model_147 ki_Model_tellPair ks_Model_tellPair rfl rfl ⟨rfl, rfl⟩ ⟨by decide, by decide⟩ ⟨Nat.zero_le _, Nat.zero_le _⟩ [true, true, true, true, true, true, true, true, true, true, true, true, true, true, true, true, true] rfl (Nat.le_of_ble_eq_true rfl) rfl rfl hl.1 rfl rfl (Nat.le_of_ble_eq_true rfl) d_Model_suspicious_158 rfl (fun H locs hW => ?_)
                        have hW : Wr G A s.heap (w_M hm cI cZ cJ 0 np ne ns tl mbd gr stt sp sq sec ans rt nw mtd un mss msc mip mcb msco mtim) H locs := hW
                        exact R_iret X Y hW rfl rfl d_Model_suspicious_161
                    · refine lv_goto (tgt := 165) hx hb d_Model_suspicious_142 (by decide) ?_
                      refine lv_iinc (v := (nI (b + 1))) (lv' := [(5, .int (nI (b + 1))), (7, .int (nI ((sec a) - (sec o)))), (6, .int (oI (fwF sp sq ans rt ns a b))), (0, .ref (hm 0)), (1, .int k), (2, .int w), (3, .int (nI c2)), (4, .int (nI a))]) hx hb d_Model_suspicious_165 hl (k := 7) rfl (N_inc b) (by decide) rfl (fun ls hl => ?_)
                      refine lv_goto (tgt := 30) hx hb d_Model_suspicious_168 (by decide) ?_
                      exact ih30 (b + 1) c2 (by omega) (by omega) _ _ hW ls (lv_sub hl [3, 4, 5, 6, 7, 0] rfl)
                  · have hds : dst (sec a) (sec o) = sec o - sec a := by unfold dst; rw [if_neg (by omega)]
                    refine lv_aload_n hx hb d_Model_suspicious_100 rfl (lv_at hl 1 rfl) ?_
                    refine R_get X hW i_Model rfl 8 (by decide) kf_Model_22 0 rfl rfl d_Model_suspicious_101 ?_
                    refine lv_iload hx hb d_Model_suspicious_104 (lv_at hl 0 rfl) ?_
                    refine W.eq (g2 := F0 m 106 ls (.int (nI o) :: .ref (hm 5) :: [])) (by rw [ho]; first | done | rfl) ?_
                    refine R_iald X hW (t0 := 0) rfl 5 rfl (k := o) (by omega) (by decide) d_Model_suspicious_106 ?_
                    refine lv_aload_n hx hb d_Model_suspicious_107 rfl (lv_at hl 1 rfl) ?_
                    refine R_get X hW i_Model rfl 8 (by decide) kf_Model_22 0 rfl rfl d_Model_suspicious_108 ?_
                    refine lv_iload hx hb d_Model_suspicious_111 (lv_at hl 5 rfl) ?_
                    refine R_iald X hW (t0 := 0) rfl 5 rfl (k := a) (by omega) (by decide) d_Model_suspicious_113 ?_
                    refine N_isub (r := (sec o) - (sec a)) hx hb (by omega) (by omega) d_Model_suspicious_114 ?_
                    refine lv_goto (tgt := 133) hx hb d_Model_suspicious_115 (by decide) ?_
                    refine lv_istore (lv' := [(7, .int (nI ((sec o) - (sec a)))), (6, .int (oI (fwF sp sq ans rt ns a b))), (0, .ref (hm 0)), (1, .int k), (2, .int w), (3, .int (nI c2)), (4, .int (nI a)), (5, .int (nI b))]) hx hb d_Model_suspicious_133 hl (by decide) rfl (fun ls hl => ?_)
                    refine lv_iload hx hb d_Model_suspicious_135 (lv_at hl 0 rfl) ?_
                    refine lv_bipush (v := (nI 60)) hx hb d_Model_suspicious_137 (by decide +kernel) ?_
                    refine N_icmp_le_NN hx hb (by omega) (by decide) (tgt := 145) d_Model_suspicious_139 (by decide) (fun c139 => ?_) (fun c139 => ?_)
                    · refine lv_iload_n hx hb d_Model_suspicious_145 rfl (lv_at hl 5 rfl) ?_
                      refine lv_iload_n hx hb d_Model_suspicious_146 rfl (lv_at hl 3 rfl) ?_
                      refine N_icmp_ne_NR hx hb (by omega) (tgt := 162) d_Model_suspicious_147 (by decide) (fun c147 => ?_) (fun c147 => ?_)
                      · refine lv_iinc (v := (nI (c2 + 1))) (lv' := [(3, .int (nI (c2 + 1))), (7, .int (nI ((sec o) - (sec a)))), (6, .int (oI (fwF sp sq ans rt ns a b))), (0, .ref (hm 0)), (1, .int k), (2, .int w), (4, .int (nI a)), (5, .int (nI b))]) hx hb d_Model_suspicious_162 hl (k := 5) rfl (N_inc c2) (by decide) rfl (fun ls hl => ?_)
                        refine lv_iinc (v := (nI (b + 1))) (lv' := [(5, .int (nI (b + 1))), (3, .int (nI (c2 + 1))), (7, .int (nI ((sec o) - (sec a)))), (6, .int (oI (fwF sp sq ans rt ns a b))), (0, .ref (hm 0)), (1, .int k), (2, .int w), (4, .int (nI a))]) hx hb d_Model_suspicious_165 hl (k := 7) rfl (N_inc b) (by decide) rfl (fun ls hl => ?_)
                        refine lv_goto (tgt := 30) hx hb d_Model_suspicious_168 (by decide) ?_
                        exact ih30 (b + 1) (c2 + 1) (by omega) (by omega) _ _ hW ls (lv_sub hl [4, 5, 6, 1, 7, 0] rfl)
                      · refine lv_aload_n hx hb d_Model_suspicious_150 rfl (lv_at hl 2 rfl) ?_
                        refine lv_iload hx hb d_Model_suspicious_151 (lv_at hl 6 rfl) ?_
                        refine lv_iload hx hb d_Model_suspicious_153 (lv_at hl 7 rfl) ?_
                        refine lv_iload hx hb d_Model_suspicious_155 (lv_at hl 0 rfl) ?_
                        refine lv_iload_n hx hb d_Model_suspicious_157 rfl (lv_at hl 4 rfl) ?_
                        refine R_callV (q0 := 0) (m_tellPair_bad l G cI cZ cJ hm 0 np ne ns tl mbd gr stt sp sq sec ans rt nw mtd un mss msc mip mcb msco mtim a b ((sec o) - (sec a)) w (fun q => hbad ⟨by omega, q.1, q.2⟩)) X rfl hW cw_Model_147 ki_Model_tellPair ks_Model_tellPair rfl rfl ⟨rfl, rfl⟩ ⟨by decide, by decide⟩ ⟨Nat.zero_le _, Nat.zero_le _⟩ [true, true, true, true, true, true, true, true, true, true, true, true, true, true, true, true, true] rfl (Nat.le_of_ble_eq_true rfl) rfl rfl hl.1 rfl rfl (Nat.le_of_ble_eq_true rfl) d_Model_suspicious_158 rfl (fun H locs hW => ?_)
                        have hW : Wr G A s.heap (w_M hm cI cZ cJ 0 np ne ns tl mbd gr stt sp sq sec ans rt nw mtd un mss msc mip mcb msco mtim) H locs := hW
                        exact R_iret X Y hW rfl rfl d_Model_suspicious_161
                    · refine lv_goto (tgt := 165) hx hb d_Model_suspicious_142 (by decide) ?_
                      refine lv_iinc (v := (nI (b + 1))) (lv' := [(5, .int (nI (b + 1))), (7, .int (nI ((sec o) - (sec a)))), (6, .int (oI (fwF sp sq ans rt ns a b))), (0, .ref (hm 0)), (1, .int k), (2, .int w), (3, .int (nI c2)), (4, .int (nI a))]) hx hb d_Model_suspicious_165 hl (k := 7) rfl (N_inc b) (by decide) rfl (fun ls hl => ?_)
                      refine lv_goto (tgt := 30) hx hb d_Model_suspicious_168 (by decide) ?_
                      exact ih30 (b + 1) c2 (by omega) (by omega) _ _ hW ls (lv_sub hl [3, 4, 5, 6, 7, 0] rfl)
                · refine lv_goto (tgt := 165) hx hb d_Model_suspicious_80 (by decide) ?_
                  refine lv_iinc (v := (nI (b + 1))) (lv' := [(5, .int (nI (b + 1))), (6, .int (oI (fwF sp sq ans rt ns a b))), (0, .ref (hm 0)), (1, .int k), (2, .int w), (3, .int (nI c2)), (4, .int (nI a))]) hx hb d_Model_suspicious_165 hl (k := 6) rfl (N_inc b) (by decide) rfl (fun ls hl => ?_)
                  refine lv_goto (tgt := 30) hx hb d_Model_suspicious_168 (by decide) ?_
                  exact ih30 (b + 1) c2 (by omega) (by omega) _ _ hW ls (lv_sub hl [2, 3, 4, 5, 6, 0] rfl)
              · refine lv_iconst (v := (-1)) hx hb d_Model_suspicious_49 (by decide +kernel) ?_
                refine lv_goto (tgt := 73) hx hb d_Model_suspicious_50 (by decide) ?_
                refine lv_istore (lv' := [(6, .int (-1)), (0, .ref (hm 0)), (1, .int k), (2, .int w), (3, .int (nI c2)), (4, .int (nI a)), (5, .int (nI b))]) hx hb d_Model_suspicious_73 hl (by decide) rfl (fun ls hl => ?_)
                have hfw : ∀ z, fwF sp sq ans rt ns a b = some z → z < ns := fun z hz => fwF_lt hz
                have hl : lv_has ls 8 [(6, .int (oI (fwF sp sq ans rt ns a b))), (0, .ref (hm 0)), (1, .int k), (2, .int w), (3, .int (nI c2)), (4, .int (nI a)), (5, .int (nI b))] := by
                  have e8 : (-1) = oI (fwF sp sq ans rt ns a b) := by rw [show fwF sp sq ans rt ns a b = none from if_pos c46]; rfl
                  rw [← e8]; exact hl
                refine lv_iload hx hb d_Model_suspicious_75 (lv_at hl 0 rfl) ?_
                refine N_if_ge_O hx hb (fun z hz => by have := hfw z hz; omega) (tgt := 83) d_Model_suspicious_77 (by decide) (fun c77 => ?_) (fun c77 => ?_)
                · obtain ⟨o, ho⟩ : ∃ q, fwF sp sq ans rt ns a b = some q := by cases hq : fwF sp sq ans rt ns a b with | none => exact absurd hq c77 | some q => exact ⟨q, rfl⟩
                  have y5 : o < ns := hfw o ho
                  have y6 := z8 a (by omega)
                  have y7 := z8 o (by omega)
                  refine lv_aload_n hx hb d_Model_suspicious_83 rfl (lv_at hl 1 rfl) ?_
                  refine R_get X hW i_Model rfl 8 (by decide) kf_Model_22 0 rfl rfl d_Model_suspicious_84 ?_
                  refine lv_iload hx hb d_Model_suspicious_87 (lv_at hl 5 rfl) ?_
                  refine R_iald X hW (t0 := 0) rfl 5 rfl (k := a) (by omega) (by decide) d_Model_suspicious_89 ?_
                  refine lv_aload_n hx hb d_Model_suspicious_90 rfl (lv_at hl 1 rfl) ?_
                  refine R_get X hW i_Model rfl 8 (by decide) kf_Model_22 0 rfl rfl d_Model_suspicious_91 ?_
                  refine lv_iload hx hb d_Model_suspicious_94 (lv_at hl 0 rfl) ?_
                  refine W.eq (g2 := F0 m 96 ls (.int (nI o) :: .ref (hm 5) :: .int (nI (sec a)) :: [])) (by rw [ho]; first | done | rfl) ?_
                  refine R_iald X hW (t0 := 0) rfl 5 rfl (k := o) (by omega) (by decide) d_Model_suspicious_96 ?_
                  refine N_icmp_ge_NN hx hb (by omega) (by omega) (tgt := 118) d_Model_suspicious_97 (by decide) (fun c97 => ?_) (fun c97 => ?_)
                  · have hds : dst (sec a) (sec o) = sec a - sec o := by unfold dst; rw [if_pos (by omega)]
                    refine lv_aload_n hx hb d_Model_suspicious_118 rfl (lv_at hl 1 rfl) ?_
                    refine R_get X hW i_Model rfl 8 (by decide) kf_Model_22 0 rfl rfl d_Model_suspicious_119 ?_
                    refine lv_iload hx hb d_Model_suspicious_122 (lv_at hl 5 rfl) ?_
                    refine R_iald X hW (t0 := 0) rfl 5 rfl (k := a) (by omega) (by decide) d_Model_suspicious_124 ?_
                    refine lv_aload_n hx hb d_Model_suspicious_125 rfl (lv_at hl 1 rfl) ?_
                    refine R_get X hW i_Model rfl 8 (by decide) kf_Model_22 0 rfl rfl d_Model_suspicious_126 ?_
                    refine lv_iload hx hb d_Model_suspicious_129 (lv_at hl 0 rfl) ?_
                    refine W.eq (g2 := F0 m 131 ls (.int (nI o) :: .ref (hm 5) :: .int (nI (sec a)) :: [])) (by rw [ho]; first | done | rfl) ?_
                    refine R_iald X hW (t0 := 0) rfl 5 rfl (k := o) (by omega) (by decide) d_Model_suspicious_131 ?_
                    refine N_isub (r := (sec a) - (sec o)) hx hb (by omega) (by omega) d_Model_suspicious_132 ?_
                    refine lv_istore (lv' := [(7, .int (nI ((sec a) - (sec o)))), (6, .int (oI (fwF sp sq ans rt ns a b))), (0, .ref (hm 0)), (1, .int k), (2, .int w), (3, .int (nI c2)), (4, .int (nI a)), (5, .int (nI b))]) hx hb d_Model_suspicious_133 hl (by decide) rfl (fun ls hl => ?_)
                    refine lv_iload hx hb d_Model_suspicious_135 (lv_at hl 0 rfl) ?_
                    refine lv_bipush (v := (nI 60)) hx hb d_Model_suspicious_137 (by decide +kernel) ?_
                    refine N_icmp_le_NN hx hb (by omega) (by decide) (tgt := 145) d_Model_suspicious_139 (by decide) (fun c139 => ?_) (fun c139 => ?_)
                    · refine lv_iload_n hx hb d_Model_suspicious_145 rfl (lv_at hl 5 rfl) ?_
                      refine lv_iload_n hx hb d_Model_suspicious_146 rfl (lv_at hl 3 rfl) ?_
                      refine N_icmp_ne_NR hx hb (by omega) (tgt := 162) d_Model_suspicious_147 (by decide) (fun c147 => ?_) (fun c147 => ?_)
                      · refine lv_iinc (v := (nI (c2 + 1))) (lv' := [(3, .int (nI (c2 + 1))), (7, .int (nI ((sec a) - (sec o)))), (6, .int (oI (fwF sp sq ans rt ns a b))), (0, .ref (hm 0)), (1, .int k), (2, .int w), (4, .int (nI a)), (5, .int (nI b))]) hx hb d_Model_suspicious_162 hl (k := 5) rfl (N_inc c2) (by decide) rfl (fun ls hl => ?_)
                        refine lv_iinc (v := (nI (b + 1))) (lv' := [(5, .int (nI (b + 1))), (3, .int (nI (c2 + 1))), (7, .int (nI ((sec a) - (sec o)))), (6, .int (oI (fwF sp sq ans rt ns a b))), (0, .ref (hm 0)), (1, .int k), (2, .int w), (4, .int (nI a))]) hx hb d_Model_suspicious_165 hl (k := 7) rfl (N_inc b) (by decide) rfl (fun ls hl => ?_)
                        refine lv_goto (tgt := 30) hx hb d_Model_suspicious_168 (by decide) ?_
                        exact ih30 (b + 1) (c2 + 1) (by omega) (by omega) _ _ hW ls (lv_sub hl [4, 5, 6, 1, 7, 0] rfl)
                      · refine lv_aload_n hx hb d_Model_suspicious_150 rfl (lv_at hl 2 rfl) ?_
                        refine lv_iload hx hb d_Model_suspicious_151 (lv_at hl 6 rfl) ?_
                        refine lv_iload hx hb d_Model_suspicious_153 (lv_at hl 7 rfl) ?_
                        refine lv_iload hx hb d_Model_suspicious_155 (lv_at hl 0 rfl) ?_
                        refine lv_iload_n hx hb d_Model_suspicious_157 rfl (lv_at hl 4 rfl) ?_
                        refine R_callV (q0 := 0) (m_tellPair_bad l G cI cZ cJ hm 0 np ne ns tl mbd gr stt sp sq sec ans rt nw mtd un mss msc mip mcb msco mtim a b ((sec a) - (sec o)) w (fun q => hbad ⟨by omega, q.1, q.2⟩)) X rfl hW cw_Model_147 ki_Model_tellPair ks_Model_tellPair rfl rfl ⟨rfl, rfl⟩ ⟨by decide, by decide⟩ ⟨Nat.zero_le _, Nat.zero_le _⟩ [true, true, true, true, true, true, true, true, true, true, true, true, true, true, true, true, true] rfl (Nat.le_of_ble_eq_true rfl) rfl rfl hl.1 rfl rfl (Nat.le_of_ble_eq_true rfl) d_Model_suspicious_158 rfl (fun H locs hW => ?_)
                        have hW : Wr G A s.heap (w_M hm cI cZ cJ 0 np ne ns tl mbd gr stt sp sq sec ans rt nw mtd un mss msc mip mcb msco mtim) H locs := hW
                        exact R_iret X Y hW rfl rfl d_Model_suspicious_161
                    · refine lv_goto (tgt := 165) hx hb d_Model_suspicious_142 (by decide) ?_
                      refine lv_iinc (v := (nI (b + 1))) (lv' := [(5, .int (nI (b + 1))), (7, .int (nI ((sec a) - (sec o)))), (6, .int (oI (fwF sp sq ans rt ns a b))), (0, .ref (hm 0)), (1, .int k), (2, .int w), (3, .int (nI c2)), (4, .int (nI a))]) hx hb d_Model_suspicious_165 hl (k := 7) rfl (N_inc b) (by decide) rfl (fun ls hl => ?_)
                      refine lv_goto (tgt := 30) hx hb d_Model_suspicious_168 (by decide) ?_
                      exact ih30 (b + 1) c2 (by omega) (by omega) _ _ hW ls (lv_sub hl [3, 4, 5, 6, 7, 0] rfl)
                  · have hds : dst (sec a) (sec o) = sec o - sec a := by unfold dst; rw [if_neg (by omega)]
                    refine lv_aload_n hx hb d_Model_suspicious_100 rfl (lv_at hl 1 rfl) ?_
                    refine R_get X hW i_Model rfl 8 (by decide) kf_Model_22 0 rfl rfl d_Model_suspicious_101 ?_
                    refine lv_iload hx hb d_Model_suspicious_104 (lv_at hl 0 rfl) ?_
                    refine W.eq (g2 := F0 m 106 ls (.int (nI o) :: .ref (hm 5) :: [])) (by rw [ho]; first | done | rfl) ?_
                    refine R_iald X hW (t0 := 0) rfl 5 rfl (k := o) (by omega) (by decide) d_Model_suspicious_106 ?_
                    refine lv_aload_n hx hb d_Model_suspicious_107 rfl (lv_at hl 1 rfl) ?_
                    refine R_get X hW i_Model rfl 8 (by decide) kf_Model_22 0 rfl rfl d_Model_suspicious_108 ?_
                    refine lv_iload hx hb d_Model_suspicious_111 (lv_at hl 5 rfl) ?_
                    refine R_iald X hW (t0 := 0) rfl 5 rfl (k := a) (by omega) (by decide) d_Model_suspicious_113 ?_
                    refine N_isub (r := (sec o) - (sec a)) hx hb (by omega) (by omega) d_Model_suspicious_114 ?_
                    refine lv_goto (tgt := 133) hx hb d_Model_suspicious_115 (by decide) ?_
                    refine lv_istore (lv' := [(7, .int (nI ((sec o) - (sec a)))), (6, .int (oI (fwF sp sq ans rt ns a b))), (0, .ref (hm 0)), (1, .int k), (2, .int w), (3, .int (nI c2)), (4, .int (nI a)), (5, .int (nI b))]) hx hb d_Model_suspicious_133 hl (by decide) rfl (fun ls hl => ?_)
                    refine lv_iload hx hb d_Model_suspicious_135 (lv_at hl 0 rfl) ?_
                    refine lv_bipush (v := (nI 60)) hx hb d_Model_suspicious_137 (by decide +kernel) ?_
                    refine N_icmp_le_NN hx hb (by omega) (by decide) (tgt := 145) d_Model_suspicious_139 (by decide) (fun c139 => ?_) (fun c139 => ?_)
                    · refine lv_iload_n hx hb d_Model_suspicious_145 rfl (lv_at hl 5 rfl) ?_
                      refine lv_iload_n hx hb d_Model_suspicious_146 rfl (lv_at hl 3 rfl) ?_
                      refine N_icmp_ne_NR hx hb (by omega) (tgt := 162) d_Model_suspicious_147 (by decide) (fun c147 => ?_) (fun c147 => ?_)
                      · refine lv_iinc (v := (nI (c2 + 1))) (lv' := [(3, .int (nI (c2 + 1))), (7, .int (nI ((sec o) - (sec a)))), (6, .int (oI (fwF sp sq ans rt ns a b))), (0, .ref (hm 0)), (1, .int k), (2, .int w), (4, .int (nI a)), (5, .int (nI b))]) hx hb d_Model_suspicious_162 hl (k := 5) rfl (N_inc c2) (by decide) rfl (fun ls hl => ?_)
                        refine lv_iinc (v := (nI (b + 1))) (lv' := [(5, .int (nI (b + 1))), (3, .int (nI (c2 + 1))), (7, .int (nI ((sec o) - (sec a)))), (6, .int (oI (fwF sp sq ans rt ns a b))), (0, .ref (hm 0)), (1, .int k), (2, .int w), (4, .int (nI a))]) hx hb d_Model_suspicious_165 hl (k := 7) rfl (N_inc b) (by decide) rfl (fun ls hl => ?_)
                        refine lv_goto (tgt := 30) hx hb d_Model_suspicious_168 (by decide) ?_
                        exact ih30 (b + 1) (c2 + 1) (by omega) (by omega) _ _ hW ls (lv_sub hl [4, 5, 6, 1, 7, 0] rfl)
                      · refine lv_aload_n hx hb d_Model_suspicious_150 rfl (lv_at hl 2 rfl) ?_
                        refine lv_iload hx hb d_Model_suspicious_151 (lv_at hl 6 rfl) ?_
                        refine lv_iload hx hb d_Model_suspicious_153 (lv_at hl 7 rfl) ?_
                        refine lv_iload hx hb d_Model_suspicious_155 (lv_at hl 0 rfl) ?_
                        refine lv_iload_n hx hb d_Model_suspicious_157 rfl (lv_at hl 4 rfl) ?_
                        refine R_callV (q0 := 0) (m_tellPair_bad l G cI cZ cJ hm 0 np ne ns tl mbd gr stt sp sq sec ans rt nw mtd un mss msc mip mcb msco mtim a b ((sec o) - (sec a)) w (fun q => hbad ⟨by omega, q.1, q.2⟩)) X rfl hW cw_Model_147 ki_Model_tellPair ks_Model_tellPair rfl rfl ⟨rfl, rfl⟩ ⟨by decide, by decide⟩ ⟨Nat.zero_le _, Nat.zero_le _⟩ [true, true, true, true, true, true, true, true, true, true, true, true, true, true, true, true, true] rfl (Nat.le_of_ble_eq_true rfl) rfl rfl hl.1 rfl rfl (Nat.le_of_ble_eq_true rfl) d_Model_suspicious_158 rfl (fun H locs hW => ?_)
                        have hW : Wr G A s.heap (w_M hm cI cZ cJ 0 np ne ns tl mbd gr stt sp sq sec ans rt nw mtd un mss msc mip mcb msco mtim) H locs := hW
                        exact R_iret X Y hW rfl rfl d_Model_suspicious_161
                    · refine lv_goto (tgt := 165) hx hb d_Model_suspicious_142 (by decide) ?_
                      refine lv_iinc (v := (nI (b + 1))) (lv' := [(5, .int (nI (b + 1))), (7, .int (nI ((sec o) - (sec a)))), (6, .int (oI (fwF sp sq ans rt ns a b))), (0, .ref (hm 0)), (1, .int k), (2, .int w), (3, .int (nI c2)), (4, .int (nI a))]) hx hb d_Model_suspicious_165 hl (k := 7) rfl (N_inc b) (by decide) rfl (fun ls hl => ?_)
                      refine lv_goto (tgt := 30) hx hb d_Model_suspicious_168 (by decide) ?_
                      exact ih30 (b + 1) c2 (by omega) (by omega) _ _ hW ls (lv_sub hl [3, 4, 5, 6, 7, 0] rfl)
                · refine lv_goto (tgt := 165) hx hb d_Model_suspicious_80 (by decide) ?_
                  refine lv_iinc (v := (nI (b + 1))) (lv' := [(5, .int (nI (b + 1))), (6, .int (oI (fwF sp sq ans rt ns a b))), (0, .ref (hm 0)), (1, .int k), (2, .int w), (3, .int (nI c2)), (4, .int (nI a))]) hx hb d_Model_suspicious_165 hl (k := 6) rfl (N_inc b) (by decide) rfl (fun ls hl => ?_)
                  refine lv_goto (tgt := 30) hx hb d_Model_suspicious_168 (by decide) ?_
                  exact ih30 (b + 1) c2 (by omega) (by omega) _ _ hW ls (lv_sub hl [2, 3, 4, 5, 6, 0] rfl)
        exact L30 (ne - (sp a + 1)) (sp a + 1) cn (by omega) (by omega) _ _ hW ls (lv_sub hl [1, 2, 3, 4, 5, 0] rfl)
  exact L10 ns 0 0 (by omega) (by omega) _ _ hW ls (lv_sub hl [2, 3, 4, 1, 0] rfl)
