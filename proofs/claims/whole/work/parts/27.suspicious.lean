set_option maxHeartbeats 4000000 in
set_option maxRecDepth 100000 in
theorem c_Top_suspicious_bad (l : Launch) (G : va_G) (cI cZ cJ : ClassId) (h : Nat → Nat) (wr : Nat → Nat) (se : Nat → Bool) (ga : Nat → Option Nat) (tw : Nat → Option Nat) (np : Nat) (tot : Nat) (gr : Nat → Nat) (fa : Nat → Nat) (re : Nat → Bool) (ss : Nat → Nat) (sc : Nat → Nat) (ne : Nat) (stt : Nat → Option Nat) (sco : Nat → Nat) (tim : Nat → Nat) (cnt : Nat → Nat) (ns : Nat) (sp : Nat → Nat) (sq : Nat → Nat) (sec : Nat → Nat) (rt : Nat → Bool) (it : Nat → Nat) (ans : Nat → Nat) (tl : Nat) (un : Nat → Nat) (nw : Nat → Nat) (td : Nat → Nat) (k : Int32) (w : Int32) (hbad : ¬ (0 ≤ k.toInt ∧ 0 ≤ w.toInt ∧ w.toInt ≤ 3)) : Ct l G (tyL cI cZ cJ) y_Top_suspicious b_Top_suspicious 6 (some .int) (rmL 0) [.ref (h 0), .int k, .int w] (w_All h cI cZ cJ wr se ga tw np tot gr fa re ss sc ne stt sco tim cnt ns sp sq sec rt it ans tl un nw td) (some (.int (-1))) (w_All h cI cZ cJ wr se ga tw np tot gr fa re ss sc ne stt sco tim cnt ns sp sq sec rt it ans tl un nw td) := by
  refine M_start (by decide) (Nat.le_of_ble_eq_true rfl) ?_
  intro p e s m args below meth c A Q ls X Y hW hl
  have hx := X.1.1
  have hb := X.1.2.1
  have hl : lv_has ls 6 [(0, .ref (h 0)), (1, .int k), (2, .int w)] := hl
  refine lv_iload_n hx hb d_Top_suspicious_0 rfl (lv_at hl 1 rfl) ?_
  refine N_if_lt_R hx hb  (tgt := 13) d_Top_suspicious_1 (by decide) (fun c1 => ?_) (fun c1 => ?_)
  · refine lv_iconst (v := (-1)) hx hb d_Top_suspicious_13 (by decide +kernel) ?_
    exact R_iret X Y hW rfl rfl d_Top_suspicious_14
  · refine lv_iload_n hx hb d_Top_suspicious_4 rfl (lv_at hl 2 rfl) ?_
    refine N_if_lt_R hx hb  (tgt := 13) d_Top_suspicious_5 (by decide) (fun c5 => ?_) (fun c5 => ?_)
    · refine lv_iconst (v := (-1)) hx hb d_Top_suspicious_13 (by decide +kernel) ?_
      exact R_iret X Y hW rfl rfl d_Top_suspicious_14
    · refine lv_iload_n hx hb d_Top_suspicious_8 rfl (lv_at hl 2 rfl) ?_
      refine lv_iconst (v := (nI 3)) hx hb d_Top_suspicious_9 (by decide +kernel) ?_
      refine N_icmp_le_RN hx hb (by decide) (tgt := 15) d_Top_suspicious_10 (by decide) (fun c10 => ?_) (fun c10 => ?_)
      · exfalso; omega
      · refine lv_iconst (v := (-1)) hx hb d_Top_suspicious_13 (by decide +kernel) ?_
        exact R_iret X Y hW rfl rfl d_Top_suspicious_14

theorem kf_Top_56 : Cond.fieldLink "ContestRows" 56 "ContestRows" "twins" "[I" ∈ TBL := TBL_t (List.mem_append_left _ (List.mem_of_getElem? (i := 150) rfl)) rfl
theorem kb_Submissions_findTwins : Cond.code y_Submissions_findTwins b_Submissions_findTwins 4 none ∈ TBL := TBL_t (List.mem_append_right _ (List.mem_append_left _ (List.mem_of_getElem? (i := 214) rfl))) rfl
theorem km_Top_138 : Cond.methodLink "ContestRows" 138 y_Submissions_findTwins ∈ TBL := TBL_t (List.mem_append_right _ (List.mem_append_left _ (List.mem_of_getElem? (i := 211) rfl))) rfl
theorem cw_Top_138 : Cw "ContestRows" 138 y_Submissions_findTwins b_Submissions_findTwins 4 none 2 := ⟨kb_Submissions_findTwins, kn_Submissions, km_Top_138, by decide +kernel⟩
theorem ki_Submissions_findTwins : Cond.instanceMethod y_Submissions_findTwins ∈ TBL := TBL_t (List.mem_append_right _ (List.mem_append_left _ (List.mem_of_getElem? (i := 212) rfl))) rfl
theorem ks_Submissions_findTwins : Cond.selects "ContestRows$Submissions" y_Submissions_findTwins y_Submissions_findTwins ∈ TBL := TBL_t (List.mem_append_right _ (List.mem_append_left _ (List.mem_of_getElem? (i := 213) rfl))) rfl
theorem km_Top_145 : Cond.methodLink "ContestRows" 145 y_Submissions_secondsBetween ∈ TBL := TBL_t (List.mem_append_right _ (List.mem_append_left _ (List.mem_of_getElem? (i := 219) rfl))) rfl
theorem cw_Top_145 : Cw "ContestRows" 145 y_Submissions_secondsBetween b_Submissions_secondsBetween 3 (some .int) 2 := ⟨kb_Submissions_secondsBetween, kn_Submissions, km_Top_145, by decide +kernel⟩
theorem kb_Submissions_tellPair : Cond.code y_Submissions_tellPair b_Submissions_tellPair 4 (some .int) ∈ TBL := TBL_t (List.mem_append_right _ (List.mem_append_left _ (List.mem_of_getElem? (i := 229) rfl))) rfl
theorem km_Top_149 : Cond.methodLink "ContestRows" 149 y_Submissions_tellPair ∈ TBL := TBL_t (List.mem_append_right _ (List.mem_append_left _ (List.mem_of_getElem? (i := 226) rfl))) rfl
theorem cw_Top_149 : Cw "ContestRows" 149 y_Submissions_tellPair b_Submissions_tellPair 4 (some .int) 3 := ⟨kb_Submissions_tellPair, kn_Submissions, km_Top_149, by decide +kernel⟩
theorem ki_Submissions_tellPair : Cond.instanceMethod y_Submissions_tellPair ∈ TBL := TBL_t (List.mem_append_right _ (List.mem_append_left _ (List.mem_of_getElem? (i := 227) rfl))) rfl
theorem ks_Submissions_tellPair : Cond.selects "ContestRows$Submissions" y_Submissions_tellPair y_Submissions_tellPair ∈ TBL := TBL_t (List.mem_append_right _ (List.mem_append_left _ (List.mem_of_getElem? (i := 228) rfl))) rfl
set_option maxHeartbeats 4000000 in
set_option maxRecDepth 100000 in
theorem c_Top_suspicious_ok (l : Launch) (G : va_G) (cI cZ cJ : ClassId) (h : Nat → Nat) (wr : Nat → Nat) (se : Nat → Bool) (ga : Nat → Option Nat) (tw : Nat → Option Nat) (np : Nat) (tot : Nat) (gr : Nat → Nat) (fa : Nat → Nat) (re : Nat → Bool) (ss : Nat → Nat) (sc : Nat → Nat) (ne : Nat) (stt : Nat → Option Nat) (sco : Nat → Nat) (tim : Nat → Nat) (cnt : Nat → Nat) (ns : Nat) (sp : Nat → Nat) (sq : Nat → Nat) (sec : Nat → Nat) (rt : Nat → Bool) (it : Nat → Nat) (ans : Nat → Nat) (tl : Nat) (un : Nat → Nat) (nw : Nat → Nat) (td : Nat → Nat) (k : Nat) (w : Nat) (hk : k < 2 ^ 31) (hw0 : w ≤ 3) (hI : IS np ne ns gr nw sp sq sec it ans stt) : Ct l G (tyL cI cZ cJ) y_Top_suspicious b_Top_suspicious 6 (some .int) (rmL 3) [.ref (h 0), .int (nI k), .int (nI w)] (w_All h cI cZ cJ wr se ga tw np tot gr fa re ss sc ne stt sco tim cnt ns sp sq sec rt it ans tl un nw td) (some (.int (oI ((suG sp sq sec ans rt ne ns k ns 0 0 tw).1.map (fun q => tlF sp sq sec q.1 q.2 w))))) (w_All h cI cZ cJ wr se ga ((suG sp sq sec ans rt ne ns k ns 0 0 tw).2) np tot gr fa re ss sc ne stt sco tim cnt ns sp sq sec rt it ans tl un nw td) := by
  refine M_start (by decide) (Nat.le_of_ble_eq_true rfl) ?_
  intro p e s m args below meth c A Q ls X Y hW hl
  have hx := X.1.1
  have hb := X.1.2.1
  have hl : lv_has ls 6 [(0, .ref (h 0)), (1, .int (nI k)), (2, .int (nI w))] := hl
  obtain ⟨z1, z2, z3, z4, z5, z6, z7, z8, z9, z10, z11, z12, z13⟩ := id hI
  refine lv_iload_n hx hb d_Top_suspicious_0 rfl (lv_at hl 1 rfl) ?_
  refine N_if_lt_N hx hb (by omega) (tgt := 13) d_Top_suspicious_1 (by decide) (fun c1 => ?_) (fun c1 => ?_)
  · exfalso; omega
  · refine lv_iload_n hx hb d_Top_suspicious_4 rfl (lv_at hl 2 rfl) ?_
    refine N_if_lt_N hx hb (by omega) (tgt := 13) d_Top_suspicious_5 (by decide) (fun c5 => ?_) (fun c5 => ?_)
    · exfalso; omega
    · refine lv_iload_n hx hb d_Top_suspicious_8 rfl (lv_at hl 2 rfl) ?_
      refine lv_iconst (v := (nI 3)) hx hb d_Top_suspicious_9 (by decide +kernel) ?_
      refine N_icmp_le_NN hx hb (by omega) (by decide) (tgt := 15) d_Top_suspicious_10 (by decide) (fun c10 => ?_) (fun c10 => ?_)
      · refine lv_iconst (v := (nI 0)) hx hb d_Top_suspicious_15 (by decide +kernel) ?_
        refine lv_istore_n (lv' := [(3, .int (nI 0)), (0, .ref (h 0)), (1, .int (nI k)), (2, .int (nI w))]) hx hb d_Top_suspicious_16 rfl hl (by decide) rfl (fun ls hl => ?_)
        refine lv_iconst (v := (nI 0)) hx hb d_Top_suspicious_17 (by decide +kernel) ?_
        refine lv_istore (lv' := [(4, .int (nI 0)), (3, .int (nI 0)), (0, .ref (h 0)), (1, .int (nI k)), (2, .int (nI w))]) hx hb d_Top_suspicious_18 hl (by decide) rfl (fun ls hl => ?_)
        have L20 : ∀ (n : Nat) (a : Nat) (cn : Nat) (f : Nat → Option Nat) (hi : a + n = ns) (hcn : cn ≤ 20 * a) (he : suG sp sq sec ans rt ne ns k n a cn f = suG sp sq sec ans rt ne ns k ns 0 0 tw) (H : Heap) (locs : List Loc) (hW : Wr G A s.heap (w_All h cI cZ cJ wr se ga f np tot gr fa re ss sc ne stt sco tim cnt ns sp sq sec rt it ans tl un nw td) H locs) (ls : Array Slot) (hl : lv_has ls 6 [(0, .ref (h 0)), (1, .int (nI k)), (2, .int (nI w)), (3, .int (nI cn)), (4, .int (nI a))]), W p l e (rmL 3) s m args below meth c H locs 0 0 Q (F0 m 20 ls []) := by
          intro n
          induction n with
          | zero =>
            intro a cn f hi hcn he H locs hW ls hl
            refine lv_iload hx hb d_Top_suspicious_20 (lv_at hl 4 rfl) ?_
            refine lv_aload_n hx hb d_Top_suspicious_22 rfl (lv_at hl 0 rfl) ?_
            refine R_get X hW i_Top rfl 2 (by decide) kf_Top_26 0 rfl rfl d_Top_suspicious_23 ?_
            refine R_get X hW i_Submissions rfl 5 (by decide) kf_Top_134 16 rfl rfl d_Top_suspicious_26 ?_
            refine N_icmp_ge_NN hx hb (by omega) (by omega) (tgt := 160) d_Top_suspicious_29 (by decide) (fun c29 => ?_) (fun c29 => ?_)
            · refine lv_iconst (v := (-1)) hx hb d_Top_suspicious_160 (by decide +kernel) ?_
              exact R_iret X Y hW (by rw [← he]; rfl) (by rw [← he]; rfl) d_Top_suspicious_161
            · exfalso; omega
          | succ n ih20 =>
            intro a cn f hi hcn he H locs hW ls hl
            refine lv_iload hx hb d_Top_suspicious_20 (lv_at hl 4 rfl) ?_
            refine lv_aload_n hx hb d_Top_suspicious_22 rfl (lv_at hl 0 rfl) ?_
            refine R_get X hW i_Top rfl 2 (by decide) kf_Top_26 0 rfl rfl d_Top_suspicious_23 ?_
            refine R_get X hW i_Submissions rfl 5 (by decide) kf_Top_134 16 rfl rfl d_Top_suspicious_26 ?_
            refine N_icmp_ge_NN hx hb (by omega) (by omega) (tgt := 160) d_Top_suspicious_29 (by decide) (fun c29 => ?_) (fun c29 => ?_)
            · exfalso; omega
            · refine lv_aload_n hx hb d_Top_suspicious_32 rfl (lv_at hl 0 rfl) ?_
              refine R_get X hW i_Top rfl 2 (by decide) kf_Top_26 0 rfl rfl d_Top_suspicious_33 ?_
              refine R_get X hW i_Submissions rfl 3 (by decide) kf_Top_92 16 rfl rfl d_Top_suspicious_36 ?_
              refine lv_iload hx hb d_Top_suspicious_39 (lv_at hl 4 rfl) ?_
              refine R_zald X hW (t0 := 1) rfl 20 rfl (k := a) (by omega) (by decide) d_Top_suspicious_41 ?_
              refine N_if_eq_B hx hb  (tgt := 48) d_Top_suspicious_42 (by decide) (fun c42 => ?_) (fun c42 => ?_)
              · have y1 := z6 a (by omega)
                refine lv_aload_n hx hb d_Top_suspicious_48 rfl (lv_at hl 0 rfl) ?_
                refine R_get X hW i_Top rfl 2 (by decide) kf_Top_26 0 rfl rfl d_Top_suspicious_49 ?_
                refine lv_iload hx hb d_Top_suspicious_52 (lv_at hl 4 rfl) ?_
                refine lv_aload_n hx hb d_Top_suspicious_54 rfl (lv_at hl 0 rfl) ?_
                refine R_get X hW i_Top rfl 8 (by decide) kf_Top_56 0 rfl rfl d_Top_suspicious_55 ?_
                refine R_callV (q0 := 16) (c_Submissions_findTwins l G cI cZ cJ h f ns sp sq sec rt it ans a (by omega) z3 (fun i hi => (z13 i (by omega)).1) (fun i hi => by have := (z13 i hi).2; omega) z10) X rfl hW cw_Top_138 ki_Submissions_findTwins ks_Submissions_findTwins rfl rfl ⟨rfl, rfl⟩ ⟨by decide, by decide⟩ ⟨Nat.zero_le _, Nat.zero_le _⟩ [false, false, false, false, true, false, false, false, false, false, false, false, false, false, false, false, true, true, true, true, true, true, true, false, false, false, false, false] rfl (Nat.le_of_ble_eq_true rfl) rfl rfl hl.1 rfl rfl (Nat.le_of_ble_eq_true rfl) d_Top_suspicious_58 rfl (fun H locs hW => ?_)
                have hW : Wr G A s.heap (w_All h cI cZ cJ wr se ga (twG sp sq ans rt a ns 0 (upK none 20 f)) np tot gr fa re ss sc ne stt sco tim cnt ns sp sq sec rt it ans tl un nw td) H locs := hW
                have htw := twG_lt sp sq ans rt a ns 0 (upK none 20 f) ns (by omega) (fun x z hx1 hz1 => by rw [upK_lt _ _ _ _ hx1] at hz1; cases hz1)
                refine lv_aload_n hx hb d_Top_suspicious_61 rfl (lv_at hl 0 rfl) ?_
                refine R_get X hW i_Top rfl 2 (by decide) kf_Top_26 0 rfl rfl d_Top_suspicious_62 ?_
                refine R_get X hW i_Submissions rfl 0 (by decide) kf_Top_142 16 rfl rfl d_Top_suspicious_65 ?_
                refine lv_iload hx hb d_Top_suspicious_68 (lv_at hl 4 rfl) ?_
                refine R_iald X hW (t0 := 0) rfl 17 rfl (k := a) (by omega) (by decide) d_Top_suspicious_70 ?_
                refine lv_iconst (v := (nI 1)) hx hb d_Top_suspicious_71 (by decide +kernel) ?_
                refine N_iadd hx hb d_Top_suspicious_72 ?_
                refine lv_istore (lv' := [(5, .int (nI ((sp a) + 1))), (0, .ref (h 0)), (1, .int (nI k)), (2, .int (nI w)), (3, .int (nI cn)), (4, .int (nI a))]) hx hb d_Top_suspicious_73 hl (by decide) rfl (fun ls hl => ?_)
                have L75 : ∀ (n3 : Nat) (b : Nat) (c2 : Nat) (hb3 : b + n3 = ne) (hc2 : c2 ≤ 20 * a + b) (he3 : inG (twG sp sq ans rt a ns 0 (upK none 20 f)) sec a k n3 b c2 = inG (twG sp sq ans rt a ns 0 (upK none 20 f)) sec a k (ne - (sp a + 1)) (sp a + 1) cn) (H : Heap) (locs : List Loc) (hW : Wr G A s.heap (w_All h cI cZ cJ wr se ga (twG sp sq ans rt a ns 0 (upK none 20 f)) np tot gr fa re ss sc ne stt sco tim cnt ns sp sq sec rt it ans tl un nw td) H locs) (ls : Array Slot) (hl : lv_has ls 6 [(0, .ref (h 0)), (1, .int (nI k)), (2, .int (nI w)), (3, .int (nI c2)), (4, .int (nI a)), (5, .int (nI b))]), W p l e (rmL 3) s m args below meth c H locs 0 0 Q (F0 m 75 ls []) := by
                  intro n3
                  induction n3 with
                  | zero =>
                    intro b c2 hb3 hc2 he3 H locs hW ls hl
                    refine lv_iload hx hb d_Top_suspicious_75 (lv_at hl 5 rfl) ?_
                    refine lv_aload_n hx hb d_Top_suspicious_77 rfl (lv_at hl 0 rfl) ?_
                    refine R_get X hW i_Top rfl 1 (by decide) kf_Top_19 0 rfl rfl d_Top_suspicious_78 ?_
                    refine R_get X hW i_Persons rfl 4 (by decide) kf_Top_144 11 rfl rfl d_Top_suspicious_81 ?_
                    refine N_icmp_ge_NN hx hb (by omega) (by omega) (tgt := 154) d_Top_suspicious_84 (by decide) (fun c84 => ?_) (fun c84 => ?_)
                    · refine lv_iinc (v := (nI (a + 1))) (lv' := [(4, .int (nI (a + 1))), (0, .ref (h 0)), (1, .int (nI k)), (2, .int (nI w)), (3, .int (nI c2)), (5, .int (nI b))]) hx hb d_Top_suspicious_154 hl (k := 4) rfl (N_inc a) (by decide) rfl (fun ls hl => ?_)
                      refine lv_goto (tgt := 20) hx hb d_Top_suspicious_157 (by decide) ?_
                      exact ih20 (a + 1) c2 (twG sp sq ans rt a ns 0 (upK none 20 f)) (by omega) (by omega) (by rw [← he, suG, if_neg (by simp [c42]), ← he3]; rfl) _ _ hW ls (lv_sub hl [1, 2, 3, 4, 0] rfl)
                    · exfalso; omega
                  | succ n3 ih75 =>
                    intro b c2 hb3 hc2 he3 H locs hW ls hl
                    refine lv_iload hx hb d_Top_suspicious_75 (lv_at hl 5 rfl) ?_
                    refine lv_aload_n hx hb d_Top_suspicious_77 rfl (lv_at hl 0 rfl) ?_
                    refine R_get X hW i_Top rfl 1 (by decide) kf_Top_19 0 rfl rfl d_Top_suspicious_78 ?_
                    refine R_get X hW i_Persons rfl 4 (by decide) kf_Top_144 11 rfl rfl d_Top_suspicious_81 ?_
                    refine N_icmp_ge_NN hx hb (by omega) (by omega) (tgt := 154) d_Top_suspicious_84 (by decide) (fun c84 => ?_) (fun c84 => ?_)
                    · exfalso; omega
                    · refine lv_aload_n hx hb d_Top_suspicious_87 rfl (lv_at hl 0 rfl) ?_
                      refine R_get X hW i_Top rfl 8 (by decide) kf_Top_56 0 rfl rfl d_Top_suspicious_88 ?_
                      refine lv_iload hx hb d_Top_suspicious_91 (lv_at hl 5 rfl) ?_
                      refine R_iald X hW (t0 := 0) rfl 4 rfl (k := b) (by omega) (by decide) d_Top_suspicious_93 ?_
                      refine lv_iconst (v := (-1)) hx hb d_Top_suspicious_94 (by decide +kernel) ?_
                      refine N_icmp_eq_Om hx hb (fun z hz => by have := htw b z (by omega) hz; omega) (tgt := 148) d_Top_suspicious_95 (by decide) (fun c95 => ?_) (fun c95 => ?_)
                      · refine lv_iinc (v := (nI (b + 1))) (lv' := [(5, .int (nI (b + 1))), (0, .ref (h 0)), (1, .int (nI k)), (2, .int (nI w)), (3, .int (nI c2)), (4, .int (nI a))]) hx hb d_Top_suspicious_148 hl (k := 5) rfl (N_inc b) (by decide) rfl (fun ls hl => ?_)
                        refine lv_goto (tgt := 75) hx hb d_Top_suspicious_151 (by decide) ?_
                        exact ih75 (b + 1) c2 (by omega) (by omega) (by rw [← he3, inG, c95]) _ _ hW ls (lv_sub hl [1, 2, 3, 4, 5, 0] rfl)
                      · obtain ⟨o, ho⟩ : ∃ o, twG sp sq ans rt a ns 0 (upK none 20 f) b = some o := by cases hz2 : twG sp sq ans rt a ns 0 (upK none 20 f) b with | none => exact absurd hz2 c95 | some o => exact ⟨o, rfl⟩
                        have y5 := htw b o (by omega) ho
                        have y6 := dst_le (z8 a (by omega)) (z8 o (by omega))
                        refine lv_aload_n hx hb d_Top_suspicious_98 rfl (lv_at hl 0 rfl) ?_
                        refine R_get X hW i_Top rfl 2 (by decide) kf_Top_26 0 rfl rfl d_Top_suspicious_99 ?_
                        refine lv_iload hx hb d_Top_suspicious_102 (lv_at hl 4 rfl) ?_
                        refine lv_aload_n hx hb d_Top_suspicious_104 rfl (lv_at hl 0 rfl) ?_
                        refine R_get X hW i_Top rfl 8 (by decide) kf_Top_56 0 rfl rfl d_Top_suspicious_105 ?_
                        refine lv_iload hx hb d_Top_suspicious_108 (lv_at hl 5 rfl) ?_
                        refine R_iald X hW (t0 := 0) rfl 4 rfl (k := b) (by omega) (by decide) d_Top_suspicious_110 ?_
                        refine W.eq (g2 := F0 m 111 ls (.int (nI o) :: .int (nI a) :: .ref (h 16) :: [])) (by rw [ho]; first | done | rfl) ?_
                        refine R_callV (q0 := 16) (c_Submissions_secondsBetween l G cI cZ cJ h ns sp sq sec rt it ans a o (by omega) (by omega) z8) X rfl hW cw_Top_145 ki_Submissions_secondsBetween ks_Submissions_secondsBetween rfl rfl ⟨rfl, rfl⟩ ⟨by decide, by decide⟩ ⟨Nat.zero_le _, Nat.zero_le _⟩ [false, false, false, false, false, false, false, false, false, false, false, false, false, false, false, false, true, true, true, true, true, true, true, false, false, false, false, false] rfl (Nat.le_of_ble_eq_true rfl) rfl rfl hl.1 rfl rfl (Nat.le_of_ble_eq_true rfl) d_Top_suspicious_111 rfl (fun H locs hW => ?_)
                        have hW : Wr G A s.heap (w_All h cI cZ cJ wr se ga (twG sp sq ans rt a ns 0 (upK none 20 f)) np tot gr fa re ss sc ne stt sco tim cnt ns sp sq sec rt it ans tl un nw td) H locs := hW
                        refine lv_bipush (v := (nI 60)) hx hb d_Top_suspicious_114 (by decide +kernel) ?_
                        refine N_icmp_le_NN hx hb (by omega) (by decide) (tgt := 122) d_Top_suspicious_116 (by decide) (fun c116 => ?_) (fun c116 => ?_)
                        · refine lv_iload_n hx hb d_Top_suspicious_122 rfl (lv_at hl 3 rfl) ?_
                          refine lv_iload_n hx hb d_Top_suspicious_123 rfl (lv_at hl 1 rfl) ?_
                          refine N_icmp_ne_NN hx hb (by omega) (by omega) (tgt := 145) d_Top_suspicious_124 (by decide) (fun c124 => ?_) (fun c124 => ?_)
                          · refine lv_iinc (v := (nI (c2 + 1))) (lv' := [(3, .int (nI (c2 + 1))), (0, .ref (h 0)), (1, .int (nI k)), (2, .int (nI w)), (4, .int (nI a)), (5, .int (nI b))]) hx hb d_Top_suspicious_145 hl (k := 3) rfl (N_inc c2) (by decide) rfl (fun ls hl => ?_)
                            refine lv_iinc (v := (nI (b + 1))) (lv' := [(5, .int (nI (b + 1))), (3, .int (nI (c2 + 1))), (0, .ref (h 0)), (1, .int (nI k)), (2, .int (nI w)), (4, .int (nI a))]) hx hb d_Top_suspicious_148 hl (k := 5) rfl (N_inc b) (by decide) rfl (fun ls hl => ?_)
                            refine lv_goto (tgt := 75) hx hb d_Top_suspicious_151 (by decide) ?_
                            exact ih75 (b + 1) (c2 + 1) (by omega) (by omega) (by rw [← he3, inG, ho]; dsimp only; rw [if_neg (by omega), if_neg c124]) _ _ hW ls (lv_sub hl [2, 3, 4, 1, 5, 0] rfl)
                          · refine lv_aload_n hx hb d_Top_suspicious_127 rfl (lv_at hl 0 rfl) ?_
                            refine R_get X hW i_Top rfl 2 (by decide) kf_Top_26 0 rfl rfl d_Top_suspicious_128 ?_
                            refine lv_iload hx hb d_Top_suspicious_131 (lv_at hl 4 rfl) ?_
                            refine lv_aload_n hx hb d_Top_suspicious_133 rfl (lv_at hl 0 rfl) ?_
                            refine R_get X hW i_Top rfl 8 (by decide) kf_Top_56 0 rfl rfl d_Top_suspicious_134 ?_
                            refine lv_iload hx hb d_Top_suspicious_137 (lv_at hl 5 rfl) ?_
                            refine R_iald X hW (t0 := 0) rfl 4 rfl (k := b) (by omega) (by decide) d_Top_suspicious_139 ?_
                            refine W.eq (g2 := F0 m 140 ls (.int (nI o) :: .int (nI a) :: .ref (h 16) :: [])) (by rw [ho]; first | done | rfl) ?_
                            refine lv_iload_n hx hb d_Top_suspicious_140 rfl (lv_at hl 2 rfl) ?_
                            refine R_callV (q0 := 16) (c_Submissions_tellPair l G cI cZ cJ h ns sp sq sec rt it ans a o w (by omega) (by omega) hw0 z8) X rfl hW cw_Top_149 ki_Submissions_tellPair ks_Submissions_tellPair rfl rfl ⟨rfl, rfl⟩ ⟨by decide, by decide⟩ ⟨Nat.zero_le _, Nat.zero_le _⟩ [false, false, false, false, false, false, false, false, false, false, false, false, false, false, false, false, true, true, true, true, true, true, true, false, false, false, false, false] rfl (Nat.le_of_ble_eq_true rfl) rfl rfl hl.1 rfl rfl (Nat.le_of_ble_eq_true rfl) d_Top_suspicious_141 rfl (fun H locs hW => ?_)
                            have hW : Wr G A s.heap (w_All h cI cZ cJ wr se ga (twG sp sq ans rt a ns 0 (upK none 20 f)) np tot gr fa re ss sc ne stt sco tim cnt ns sp sq sec rt it ans tl un nw td) H locs := hW
                            exact R_iret X Y hW (by rw [← he, suG, if_neg (by simp [c42]), ← he3, inG, ho]; dsimp only; rw [if_neg (by omega), if_pos c124]) (by rw [← he, suG, if_neg (by simp [c42]), ← he3, inG, ho]; dsimp only; rw [if_neg (by omega), if_pos c124]; rfl) d_Top_suspicious_144
                        · refine lv_goto (tgt := 148) hx hb d_Top_suspicious_119 (by decide) ?_
                          refine lv_iinc (v := (nI (b + 1))) (lv' := [(5, .int (nI (b + 1))), (0, .ref (h 0)), (1, .int (nI k)), (2, .int (nI w)), (3, .int (nI c2)), (4, .int (nI a))]) hx hb d_Top_suspicious_148 hl (k := 5) rfl (N_inc b) (by decide) rfl (fun ls hl => ?_)
                          refine lv_goto (tgt := 75) hx hb d_Top_suspicious_151 (by decide) ?_
                          exact ih75 (b + 1) c2 (by omega) (by omega) (by rw [← he3, inG, ho]; dsimp only; rw [if_pos c116]) _ _ hW ls (lv_sub hl [1, 2, 3, 4, 5, 0] rfl)
                exact L75 (ne - (sp a + 1)) (sp a + 1) cn (by omega) (by omega) rfl _ _ hW ls (lv_sub hl [1, 2, 3, 4, 5, 0] rfl)
              · refine lv_goto (tgt := 154) hx hb d_Top_suspicious_45 (by decide) ?_
                refine lv_iinc (v := (nI (a + 1))) (lv' := [(4, .int (nI (a + 1))), (0, .ref (h 0)), (1, .int (nI k)), (2, .int (nI w)), (3, .int (nI cn))]) hx hb d_Top_suspicious_154 hl (k := 4) rfl (N_inc a) (by decide) rfl (fun ls hl => ?_)
                refine lv_goto (tgt := 20) hx hb d_Top_suspicious_157 (by decide) ?_
                exact ih20 (a + 1) cn f (by omega) (by omega) (by rw [← he, suG, if_pos c42]) _ _ hW ls (lv_sub hl [1, 2, 3, 4, 0] rfl)
        exact L20 ns 0 0 tw (by omega) (by omega) rfl _ _ hW ls (lv_sub hl [2, 3, 4, 1, 0] rfl)
      · exfalso; omega
