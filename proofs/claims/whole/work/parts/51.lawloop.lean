theorem kb_Top_puzzle : Cond.code y_Top_puzzle b_Top_puzzle 2 (some .int) ∈ TBL := TBL_t (List.mem_append_left _ (List.mem_of_getElem? (i := 173) rfl)) rfl
theorem km_Law_13 : Cond.methodLink "ContestRowsLaw" 13 y_Top_puzzle ∈ TBL := TBL_t (List.mem_append_left _ (List.mem_of_getElem? (i := 170) rfl)) rfl
theorem cw_Law_13 : Cw "ContestRowsLaw" 13 y_Top_puzzle b_Top_puzzle 2 (some .int) 1 := ⟨kb_Top_puzzle, kn_Top, km_Law_13, by decide +kernel⟩
theorem ki_Top_puzzle : Cond.instanceMethod y_Top_puzzle ∈ TBL := TBL_t (List.mem_append_left _ (List.mem_of_getElem? (i := 171) rfl)) rfl
theorem ks_Top_puzzle : Cond.selects "ContestRows" y_Top_puzzle y_Top_puzzle ∈ TBL := TBL_t (List.mem_append_left _ (List.mem_of_getElem? (i := 172) rfl)) rfl
theorem kb_Model_puzzle : Cond.code y_Model_puzzle b_Model_puzzle 2 (some .int) ∈ TBL := TBL_t (List.mem_append_right _ (List.mem_append_right _ (List.mem_of_getElem? (i := 87) rfl))) rfl
theorem km_Law_17 : Cond.methodLink "ContestRowsLaw" 17 y_Model_puzzle ∈ TBL := TBL_t (List.mem_append_right _ (List.mem_append_right _ (List.mem_of_getElem? (i := 84) rfl))) rfl
theorem cw_Law_17 : Cw "ContestRowsLaw" 17 y_Model_puzzle b_Model_puzzle 2 (some .int) 1 := ⟨kb_Model_puzzle, kn_Model, km_Law_17, by decide +kernel⟩
theorem ki_Model_puzzle : Cond.instanceMethod y_Model_puzzle ∈ TBL := TBL_t (List.mem_append_right _ (List.mem_append_right _ (List.mem_of_getElem? (i := 85) rfl))) rfl
theorem ks_Model_puzzle : Cond.selects "ContestRowsModel" y_Model_puzzle y_Model_puzzle ∈ TBL := TBL_t (List.mem_append_right _ (List.mem_append_right _ (List.mem_of_getElem? (i := 86) rfl))) rfl
set_option maxHeartbeats 4000000 in
set_option maxRecDepth 100000 in
theorem law_puzzle {p : Program} {l : Launch} {e : Env} {s : State} {m : MethodId} {below : List Frame} {meth : Method} {c : Code} {G : va_G} {cI cZ cJ : ClassId} {h hm : Nat → Nat} {b L : Nat} {xs : Nat → Int32} (hL : L ≤ 3072) (X : Fx p m c code 4 s #[Value.ref b] "ContestRowsLaw" G (tyL cI cZ cJ) (fun q : Nat => s.heap.size ≤ q)) (hX : va_X b L xs s s.heap) (hbl : b < s.heap.size) {i : Nat} (hi : i + 6 ≤ L) (ih : ∀ (wa wm : va_W) (H : Heap) (locs : List Loc) (ls : Array Slot), InvW h hm cI cZ cJ wa wm → Wr G (fun q : Nat => s.heap.size ≤ q) s.heap (wa ++ wm) H locs → lv_has ls 4 [(0, .ref b), (1, .ref (h 0)), (2, .ref (hm 0)), (3, .int (nI (i + 6)))] → W p l e room_1 s m #[Value.ref b] below meth c H locs 45 6900 (lw_Z below #[Value.ref b] s) (F0 m 18 ls [])) (wa wm : va_W) (H : Heap) (locs : List Loc) (ls : Array Slot) (hI : InvW h hm cI cZ cJ wa wm) (hW : Wr G (fun q : Nat => s.heap.size ≤ q) s.heap (wa ++ wm) H locs) (hl : lv_has ls 4 [(0, .ref b), (1, .ref (h 0)), (2, .ref (hm 0)), (3, .int (nI i))]) : W p l e room_1 s m #[Value.ref b] below meth c H locs 45 6900 (lw_Z below #[Value.ref b] s) (F0 m 108 ls []) := by
  have hx := X.1.1
  have hb := X.1.2.1
  have hbA : ¬ (fun q : Nat => s.heap.size ≤ q) b := Nat.not_le.mpr hbl
  obtain ⟨f1, f2, ⟨fsA, f3⟩, ⟨fsM, f4⟩, f5, f6⟩ := hI.facts
  refine lv_aload_n hx hb d_Law_law_108 rfl (lv_at hl 1 rfl) ?_
  refine lv_aload_n hx hb d_Law_law_109 rfl (lv_at hl 0 rfl) ?_
  refine lv_iload_n hx hb d_Law_law_110 rfl (lv_at hl 3 rfl) ?_
  refine lv_iconst (v := (nI 1)) hx hb d_Law_law_111 (by decide +kernel) ?_
  refine N_iadd hx hb d_Law_law_112 ?_
  refine R_sld hx hb hX hbl hbA hW.2.2 (k := i + 1) (by omega) (by omega) d_Law_law_113 ?_
  obtain ⟨d1, d2, r, wa', wm', hd1, hd2, hI', hA', hM'⟩ := case_puzzle l G cI cZ cJ h hm hI (xs (i + 1))
  obtain ⟨g1, g2, -⟩ := hI'.facts
  clear hI
  refine R_callA (st1 := .int r :: []) hA' X hW cw_Law_13 ki_Top_puzzle ks_Top_puzzle rfl f3 ⟨by show d1 + 1 ≤ 11; omega, by show 8 + (2 + 11) + 44 * d1 ≤ 414; omega⟩ ⟨Nat.le_of_ble_eq_true rfl, Nat.le_of_ble_eq_true rfl⟩ f5 (by rw [g1, f1]) hl.1 rfl rfl (Nat.le_of_ble_eq_true rfl) d_Law_law_114 rfl (fun H locs hW => ?_)
  refine lv_aload_n hx hb d_Law_law_117 rfl (lv_at hl 2 rfl) ?_
  refine lv_aload_n hx hb d_Law_law_118 rfl (lv_at hl 0 rfl) ?_
  refine lv_iload_n hx hb d_Law_law_119 rfl (lv_at hl 3 rfl) ?_
  refine lv_iconst (v := (nI 1)) hx hb d_Law_law_120 (by decide +kernel) ?_
  refine N_iadd hx hb d_Law_law_121 ?_
  refine R_sld hx hb hX hbl hbA hW.2.2 (k := i + 1) (by omega) (by omega) d_Law_law_122 ?_
  refine R_callB (st1 := .int r :: .int r :: []) hM' X hW cw_Law_17 ki_Model_puzzle ks_Model_puzzle rfl f4 ⟨by show d2 + 1 ≤ 11; omega, by show 8 + (2 + 11) + 44 * d2 ≤ 414; omega⟩ ⟨Nat.le_of_ble_eq_true rfl, Nat.le_of_ble_eq_true rfl⟩ (by have := congrArg List.length g1; simpa using this) f6 (by rw [g2, f2]) hl.1 rfl rfl (Nat.le_of_ble_eq_true rfl) d_Law_law_123 rfl (fun H locs hW => ?_)
  refine lv_icmp_eq (tgt := 567) hx hb d_Law_law_126 (by decide) (fun _ => ?_) (fun cq => absurd rfl cq)
  refine lv_iinc (v := nI (i + 6)) (lv' := [(3, .int (nI (i + 6))), (0, .ref b), (1, .ref (h 0)), (2, .ref (hm 0))]) hx hb d_Law_law_567 hl (k := 3) rfl (nI_6 i) (by decide) rfl (fun ls hl => ?_)
  refine lv_goto (tgt := 18) hx hb d_Law_law_570 (by decide) ?_
  exact ih wa' wm' _ _ ls hI' hW (lv_sub hl [1, 2, 3, 0] rfl)
theorem kb_Top_person : Cond.code y_Top_person b_Top_person 1 (some .int) ∈ TBL := TBL_t (List.mem_append_left _ (List.mem_of_getElem? (i := 189) rfl)) rfl
theorem km_Law_18 : Cond.methodLink "ContestRowsLaw" 18 y_Top_person ∈ TBL := TBL_t (List.mem_append_left _ (List.mem_of_getElem? (i := 186) rfl)) rfl
theorem cw_Law_18 : Cw "ContestRowsLaw" 18 y_Top_person b_Top_person 1 (some .int) 0 := ⟨kb_Top_person, kn_Top, km_Law_18, by decide +kernel⟩
theorem ki_Top_person : Cond.instanceMethod y_Top_person ∈ TBL := TBL_t (List.mem_append_left _ (List.mem_of_getElem? (i := 187) rfl)) rfl
theorem ks_Top_person : Cond.selects "ContestRows" y_Top_person y_Top_person ∈ TBL := TBL_t (List.mem_append_left _ (List.mem_of_getElem? (i := 188) rfl)) rfl
theorem kb_Model_person : Cond.code y_Model_person b_Model_person 1 (some .int) ∈ TBL := TBL_t (List.mem_append_right _ (List.mem_append_right _ (List.mem_of_getElem? (i := 91) rfl))) rfl
theorem km_Law_22 : Cond.methodLink "ContestRowsLaw" 22 y_Model_person ∈ TBL := TBL_t (List.mem_append_right _ (List.mem_append_right _ (List.mem_of_getElem? (i := 88) rfl))) rfl
theorem cw_Law_22 : Cw "ContestRowsLaw" 22 y_Model_person b_Model_person 1 (some .int) 0 := ⟨kb_Model_person, kn_Model, km_Law_22, by decide +kernel⟩
theorem ki_Model_person : Cond.instanceMethod y_Model_person ∈ TBL := TBL_t (List.mem_append_right _ (List.mem_append_right _ (List.mem_of_getElem? (i := 89) rfl))) rfl
theorem ks_Model_person : Cond.selects "ContestRowsModel" y_Model_person y_Model_person ∈ TBL := TBL_t (List.mem_append_right _ (List.mem_append_right _ (List.mem_of_getElem? (i := 90) rfl))) rfl
set_option maxHeartbeats 4000000 in
set_option maxRecDepth 100000 in
theorem law_person {p : Program} {l : Launch} {e : Env} {s : State} {m : MethodId} {below : List Frame} {meth : Method} {c : Code} {G : va_G} {cI cZ cJ : ClassId} {h hm : Nat → Nat} {b L : Nat} {xs : Nat → Int32} (hL : L ≤ 3072) (X : Fx p m c code 4 s #[Value.ref b] "ContestRowsLaw" G (tyL cI cZ cJ) (fun q : Nat => s.heap.size ≤ q)) (hX : va_X b L xs s s.heap) (hbl : b < s.heap.size) {i : Nat} (hi : i + 6 ≤ L) (ih : ∀ (wa wm : va_W) (H : Heap) (locs : List Loc) (ls : Array Slot), InvW h hm cI cZ cJ wa wm → Wr G (fun q : Nat => s.heap.size ≤ q) s.heap (wa ++ wm) H locs → lv_has ls 4 [(0, .ref b), (1, .ref (h 0)), (2, .ref (hm 0)), (3, .int (nI (i + 6)))] → W p l e room_1 s m #[Value.ref b] below meth c H locs 45 6900 (lw_Z below #[Value.ref b] s) (F0 m 18 ls [])) (wa wm : va_W) (H : Heap) (locs : List Loc) (ls : Array Slot) (hI : InvW h hm cI cZ cJ wa wm) (hW : Wr G (fun q : Nat => s.heap.size ≤ q) s.heap (wa ++ wm) H locs) (hl : lv_has ls 4 [(0, .ref b), (1, .ref (h 0)), (2, .ref (hm 0)), (3, .int (nI i))]) : W p l e room_1 s m #[Value.ref b] below meth c H locs 45 6900 (lw_Z below #[Value.ref b] s) (F0 m 131 ls []) := by
  have hx := X.1.1
  have hb := X.1.2.1
  have hbA : ¬ (fun q : Nat => s.heap.size ≤ q) b := Nat.not_le.mpr hbl
  obtain ⟨f1, f2, ⟨fsA, f3⟩, ⟨fsM, f4⟩, f5, f6⟩ := hI.facts
  refine lv_aload_n hx hb d_Law_law_131 rfl (lv_at hl 1 rfl) ?_
  obtain ⟨d1, d2, r, wa', wm', hd1, hd2, hI', hA', hM'⟩ := case_person l G cI cZ cJ h hm hI 
  obtain ⟨g1, g2, -⟩ := hI'.facts
  clear hI
  refine R_callA (st1 := .int r :: []) hA' X hW cw_Law_18 ki_Top_person ks_Top_person rfl f3 ⟨by show d1 + 1 ≤ 11; omega, by show 8 + (1 + 11) + 44 * d1 ≤ 414; omega⟩ ⟨Nat.le_of_ble_eq_true rfl, Nat.le_of_ble_eq_true rfl⟩ f5 (by rw [g1, f1]) hl.1 rfl rfl (Nat.le_of_ble_eq_true rfl) d_Law_law_132 rfl (fun H locs hW => ?_)
  refine lv_aload_n hx hb d_Law_law_135 rfl (lv_at hl 2 rfl) ?_
  refine R_callB (st1 := .int r :: .int r :: []) hM' X hW cw_Law_22 ki_Model_person ks_Model_person rfl f4 ⟨by show d2 + 1 ≤ 11; omega, by show 8 + (1 + 11) + 44 * d2 ≤ 414; omega⟩ ⟨Nat.le_of_ble_eq_true rfl, Nat.le_of_ble_eq_true rfl⟩ (by have := congrArg List.length g1; simpa using this) f6 (by rw [g2, f2]) hl.1 rfl rfl (Nat.le_of_ble_eq_true rfl) d_Law_law_136 rfl (fun H locs hW => ?_)
  refine lv_icmp_eq (tgt := 567) hx hb d_Law_law_139 (by decide) (fun _ => ?_) (fun cq => absurd rfl cq)
  refine lv_iinc (v := nI (i + 6)) (lv' := [(3, .int (nI (i + 6))), (0, .ref b), (1, .ref (h 0)), (2, .ref (hm 0))]) hx hb d_Law_law_567 hl (k := 3) rfl (nI_6 i) (by decide) rfl (fun ls hl => ?_)
  refine lv_goto (tgt := 18) hx hb d_Law_law_570 (by decide) ?_
  exact ih wa' wm' _ _ ls hI' hW (lv_sub hl [1, 2, 3, 0] rfl)
theorem kb_Top_unit : Cond.code y_Top_unit b_Top_unit 2 (some .boolean) ∈ TBL := TBL_t (List.mem_append_left _ (List.mem_of_getElem? (i := 197) rfl)) rfl
theorem km_Law_23 : Cond.methodLink "ContestRowsLaw" 23 y_Top_unit ∈ TBL := TBL_t (List.mem_append_left _ (List.mem_of_getElem? (i := 194) rfl)) rfl
theorem cw_Law_23 : Cw "ContestRowsLaw" 23 y_Top_unit b_Top_unit 2 (some .boolean) 1 := ⟨kb_Top_unit, kn_Top, km_Law_23, by decide +kernel⟩
theorem ki_Top_unit : Cond.instanceMethod y_Top_unit ∈ TBL := TBL_t (List.mem_append_left _ (List.mem_of_getElem? (i := 195) rfl)) rfl
theorem ks_Top_unit : Cond.selects "ContestRows" y_Top_unit y_Top_unit ∈ TBL := TBL_t (List.mem_append_left _ (List.mem_of_getElem? (i := 196) rfl)) rfl
theorem kb_Model_unit : Cond.code y_Model_unit b_Model_unit 2 (some .boolean) ∈ TBL := TBL_t (List.mem_append_right _ (List.mem_append_right _ (List.mem_of_getElem? (i := 95) rfl))) rfl
theorem km_Law_27 : Cond.methodLink "ContestRowsLaw" 27 y_Model_unit ∈ TBL := TBL_t (List.mem_append_right _ (List.mem_append_right _ (List.mem_of_getElem? (i := 92) rfl))) rfl
theorem cw_Law_27 : Cw "ContestRowsLaw" 27 y_Model_unit b_Model_unit 2 (some .boolean) 1 := ⟨kb_Model_unit, kn_Model, km_Law_27, by decide +kernel⟩
theorem ki_Model_unit : Cond.instanceMethod y_Model_unit ∈ TBL := TBL_t (List.mem_append_right _ (List.mem_append_right _ (List.mem_of_getElem? (i := 93) rfl))) rfl
theorem ks_Model_unit : Cond.selects "ContestRowsModel" y_Model_unit y_Model_unit ∈ TBL := TBL_t (List.mem_append_right _ (List.mem_append_right _ (List.mem_of_getElem? (i := 94) rfl))) rfl
set_option maxHeartbeats 4000000 in
set_option maxRecDepth 100000 in
theorem law_unit {p : Program} {l : Launch} {e : Env} {s : State} {m : MethodId} {below : List Frame} {meth : Method} {c : Code} {G : va_G} {cI cZ cJ : ClassId} {h hm : Nat → Nat} {b L : Nat} {xs : Nat → Int32} (hL : L ≤ 3072) (X : Fx p m c code 4 s #[Value.ref b] "ContestRowsLaw" G (tyL cI cZ cJ) (fun q : Nat => s.heap.size ≤ q)) (hX : va_X b L xs s s.heap) (hbl : b < s.heap.size) {i : Nat} (hi : i + 6 ≤ L) (ih : ∀ (wa wm : va_W) (H : Heap) (locs : List Loc) (ls : Array Slot), InvW h hm cI cZ cJ wa wm → Wr G (fun q : Nat => s.heap.size ≤ q) s.heap (wa ++ wm) H locs → lv_has ls 4 [(0, .ref b), (1, .ref (h 0)), (2, .ref (hm 0)), (3, .int (nI (i + 6)))] → W p l e room_1 s m #[Value.ref b] below meth c H locs 45 6900 (lw_Z below #[Value.ref b] s) (F0 m 18 ls [])) (wa wm : va_W) (H : Heap) (locs : List Loc) (ls : Array Slot) (hI : InvW h hm cI cZ cJ wa wm) (hW : Wr G (fun q : Nat => s.heap.size ≤ q) s.heap (wa ++ wm) H locs) (hl : lv_has ls 4 [(0, .ref b), (1, .ref (h 0)), (2, .ref (hm 0)), (3, .int (nI i))]) : W p l e room_1 s m #[Value.ref b] below meth c H locs 45 6900 (lw_Z below #[Value.ref b] s) (F0 m 144 ls []) := by
  have hx := X.1.1
  have hb := X.1.2.1
  have hbA : ¬ (fun q : Nat => s.heap.size ≤ q) b := Nat.not_le.mpr hbl
  obtain ⟨f1, f2, ⟨fsA, f3⟩, ⟨fsM, f4⟩, f5, f6⟩ := hI.facts
  refine lv_aload_n hx hb d_Law_law_144 rfl (lv_at hl 1 rfl) ?_
  refine lv_aload_n hx hb d_Law_law_145 rfl (lv_at hl 0 rfl) ?_
  refine lv_iload_n hx hb d_Law_law_146 rfl (lv_at hl 3 rfl) ?_
  refine lv_iconst (v := (nI 1)) hx hb d_Law_law_147 (by decide +kernel) ?_
  refine N_iadd hx hb d_Law_law_148 ?_
  refine R_sld hx hb hX hbl hbA hW.2.2 (k := i + 1) (by omega) (by omega) d_Law_law_149 ?_
  obtain ⟨d1, d2, r, wa', wm', hd1, hd2, hI', hA', hM'⟩ := case_unit l G cI cZ cJ h hm hI (xs (i + 1))
  obtain ⟨g1, g2, -⟩ := hI'.facts
  clear hI
  refine R_callA (st1 := .int (bI r) :: []) hA' X hW cw_Law_23 ki_Top_unit ks_Top_unit rfl f3 ⟨by show d1 + 1 ≤ 11; omega, by show 8 + (2 + 11) + 44 * d1 ≤ 414; omega⟩ ⟨Nat.le_of_ble_eq_true rfl, Nat.le_of_ble_eq_true rfl⟩ f5 (by rw [g1, f1]) hl.1 rfl rfl (Nat.le_of_ble_eq_true rfl) d_Law_law_150 rfl (fun H locs hW => ?_)
  refine lv_aload_n hx hb d_Law_law_153 rfl (lv_at hl 2 rfl) ?_
  refine lv_aload_n hx hb d_Law_law_154 rfl (lv_at hl 0 rfl) ?_
  refine lv_iload_n hx hb d_Law_law_155 rfl (lv_at hl 3 rfl) ?_
  refine lv_iconst (v := (nI 1)) hx hb d_Law_law_156 (by decide +kernel) ?_
  refine N_iadd hx hb d_Law_law_157 ?_
  refine R_sld hx hb hX hbl hbA hW.2.2 (k := i + 1) (by omega) (by omega) d_Law_law_158 ?_
  refine R_callB (st1 := .int (bI r) :: .int (bI r) :: []) hM' X hW cw_Law_27 ki_Model_unit ks_Model_unit rfl f4 ⟨by show d2 + 1 ≤ 11; omega, by show 8 + (2 + 11) + 44 * d2 ≤ 414; omega⟩ ⟨Nat.le_of_ble_eq_true rfl, Nat.le_of_ble_eq_true rfl⟩ (by have := congrArg List.length g1; simpa using this) f6 (by rw [g2, f2]) hl.1 rfl rfl (Nat.le_of_ble_eq_true rfl) d_Law_law_159 rfl (fun H locs hW => ?_)
  refine lv_icmp_eq (tgt := 567) hx hb d_Law_law_162 (by decide) (fun _ => ?_) (fun cq => absurd rfl cq)
  refine lv_iinc (v := nI (i + 6)) (lv' := [(3, .int (nI (i + 6))), (0, .ref b), (1, .ref (h 0)), (2, .ref (hm 0))]) hx hb d_Law_law_567 hl (k := 3) rfl (nI_6 i) (by decide) rfl (fun ls hl => ?_)
  refine lv_goto (tgt := 18) hx hb d_Law_law_570 (by decide) ?_
  exact ih wa' wm' _ _ ls hI' hW (lv_sub hl [1, 2, 3, 0] rfl)
theorem kb_Top_rules : Cond.code y_Top_rules b_Top_rules 2 (some .int) ∈ TBL := TBL_t (List.mem_append_left _ (List.mem_of_getElem? (i := 205) rfl)) rfl
theorem km_Law_28 : Cond.methodLink "ContestRowsLaw" 28 y_Top_rules ∈ TBL := TBL_t (List.mem_append_left _ (List.mem_of_getElem? (i := 202) rfl)) rfl
theorem cw_Law_28 : Cw "ContestRowsLaw" 28 y_Top_rules b_Top_rules 2 (some .int) 0 := ⟨kb_Top_rules, kn_Top, km_Law_28, by decide +kernel⟩
theorem ki_Top_rules : Cond.instanceMethod y_Top_rules ∈ TBL := TBL_t (List.mem_append_left _ (List.mem_of_getElem? (i := 203) rfl)) rfl
theorem ks_Top_rules : Cond.selects "ContestRows" y_Top_rules y_Top_rules ∈ TBL := TBL_t (List.mem_append_left _ (List.mem_of_getElem? (i := 204) rfl)) rfl
theorem kb_Model_rules : Cond.code y_Model_rules b_Model_rules 3 (some .int) ∈ TBL := TBL_t (List.mem_append_right _ (List.mem_append_right _ (List.mem_of_getElem? (i := 99) rfl))) rfl
theorem km_Law_31 : Cond.methodLink "ContestRowsLaw" 31 y_Model_rules ∈ TBL := TBL_t (List.mem_append_right _ (List.mem_append_right _ (List.mem_of_getElem? (i := 96) rfl))) rfl
theorem cw_Law_31 : Cw "ContestRowsLaw" 31 y_Model_rules b_Model_rules 3 (some .int) 0 := ⟨kb_Model_rules, kn_Model, km_Law_31, by decide +kernel⟩
theorem ki_Model_rules : Cond.instanceMethod y_Model_rules ∈ TBL := TBL_t (List.mem_append_right _ (List.mem_append_right _ (List.mem_of_getElem? (i := 97) rfl))) rfl
theorem ks_Model_rules : Cond.selects "ContestRowsModel" y_Model_rules y_Model_rules ∈ TBL := TBL_t (List.mem_append_right _ (List.mem_append_right _ (List.mem_of_getElem? (i := 98) rfl))) rfl
set_option maxHeartbeats 4000000 in
set_option maxRecDepth 100000 in
theorem law_rules {p : Program} {l : Launch} {e : Env} {s : State} {m : MethodId} {below : List Frame} {meth : Method} {c : Code} {G : va_G} {cI cZ cJ : ClassId} {h hm : Nat → Nat} {aK aV b L : Nat} {xs : Nat → Int32} (hL : L ≤ 3072) (X : Fx p m c code 4 s #[Value.ref b] "ContestRowsLaw" G (tyL cI cZ cJ) (fun q : Nat => s.heap.size ≤ q)) (hX : va_X b L xs s s.heap) (hbl : b < s.heap.size) (hE : JX aK aV (fun q : Nat => s.heap.size ≤ q) s) {i : Nat} (hi : i + 6 ≤ L) (ih : ∀ (wa wm : va_W) (H : Heap) (locs : List Loc) (ls : Array Slot), InvW h hm cI cZ cJ wa wm → Wr G (fun q : Nat => s.heap.size ≤ q) s.heap (wa ++ wm) H locs → lv_has ls 4 [(0, .ref b), (1, .ref (h 0)), (2, .ref (hm 0)), (3, .int (nI (i + 6)))] → W p l e room_1 s m #[Value.ref b] below meth c H locs 45 6900 (lw_Z below #[Value.ref b] s) (F0 m 18 ls [])) (wa wm : va_W) (H : Heap) (locs : List Loc) (ls : Array Slot) (hI : InvW h hm cI cZ cJ wa wm) (hW : Wr G (fun q : Nat => s.heap.size ≤ q) s.heap (wa ++ wm) H locs) (hl : lv_has ls 4 [(0, .ref b), (1, .ref (h 0)), (2, .ref (hm 0)), (3, .int (nI i))]) : W p l e room_1 s m #[Value.ref b] below meth c H locs 45 6900 (lw_Z below #[Value.ref b] s) (F0 m 167 ls []) := by
  have hx := X.1.1
  have hb := X.1.2.1
  have hbA : ¬ (fun q : Nat => s.heap.size ≤ q) b := Nat.not_le.mpr hbl
  obtain ⟨f1, f2, ⟨fsA, f3⟩, ⟨fsM, f4⟩, f5, f6⟩ := hI.facts
  refine lv_aload_n hx hb d_Law_law_167 rfl (lv_at hl 1 rfl) ?_
  obtain ⟨d1, d2, r, wa', wm', hd1, hd2, hI', hA', hM'⟩ := case_rules l G cI cZ cJ h hm aK aV hI 
  obtain ⟨g1, g2, -⟩ := hI'.facts
  clear hI
  refine R_callAX (st1 := .int r :: []) hA' X hE hW cw_Law_28 ki_Top_rules ks_Top_rules rfl f3 ⟨by show d1 + 1 ≤ 11; omega, by show 8 + (2 + 11) + 44 * d1 ≤ 414; omega⟩ ⟨Nat.le_of_ble_eq_true rfl, Nat.le_of_ble_eq_true rfl⟩ f5 (by rw [g1, f1]) hl.1 rfl rfl (Nat.le_of_ble_eq_true rfl) d_Law_law_168 rfl (fun H locs hW => ?_)
  refine lv_aload_n hx hb d_Law_law_171 rfl (lv_at hl 2 rfl) ?_
  refine R_callB (st1 := .int r :: .int r :: []) hM' X hW cw_Law_31 ki_Model_rules ks_Model_rules rfl f4 ⟨by show d2 + 1 ≤ 11; omega, by show 8 + (3 + 11) + 44 * d2 ≤ 414; omega⟩ ⟨Nat.le_of_ble_eq_true rfl, Nat.le_of_ble_eq_true rfl⟩ (by have := congrArg List.length g1; simpa using this) f6 (by rw [g2, f2]) hl.1 rfl rfl (Nat.le_of_ble_eq_true rfl) d_Law_law_172 rfl (fun H locs hW => ?_)
  refine lv_icmp_eq (tgt := 567) hx hb d_Law_law_175 (by decide) (fun _ => ?_) (fun cq => absurd rfl cq)
  refine lv_iinc (v := nI (i + 6)) (lv' := [(3, .int (nI (i + 6))), (0, .ref b), (1, .ref (h 0)), (2, .ref (hm 0))]) hx hb d_Law_law_567 hl (k := 3) rfl (nI_6 i) (by decide) rfl (fun ls hl => ?_)
  refine lv_goto (tgt := 18) hx hb d_Law_law_570 (by decide) ?_
  exact ih wa' wm' _ _ ls hI' hW (lv_sub hl [1, 2, 3, 0] rfl)
theorem kb_Top_start : Cond.code y_Top_start b_Top_start 3 (some .boolean) ∈ TBL := TBL_t (List.mem_append_right _ (List.mem_append_left _ (List.mem_of_getElem? (i := 91) rfl))) rfl
theorem km_Law_32 : Cond.methodLink "ContestRowsLaw" 32 y_Top_start ∈ TBL := TBL_t (List.mem_append_right _ (List.mem_append_left _ (List.mem_of_getElem? (i := 88) rfl))) rfl
theorem cw_Law_32 : Cw "ContestRowsLaw" 32 y_Top_start b_Top_start 3 (some .boolean) 2 := ⟨kb_Top_start, kn_Top, km_Law_32, by decide +kernel⟩
theorem ki_Top_start : Cond.instanceMethod y_Top_start ∈ TBL := TBL_t (List.mem_append_right _ (List.mem_append_left _ (List.mem_of_getElem? (i := 89) rfl))) rfl
theorem ks_Top_start : Cond.selects "ContestRows" y_Top_start y_Top_start ∈ TBL := TBL_t (List.mem_append_right _ (List.mem_append_left _ (List.mem_of_getElem? (i := 90) rfl))) rfl
theorem kb_Model_start : Cond.code y_Model_start b_Model_start 4 (some .boolean) ∈ TBL := TBL_t (List.mem_append_right _ (List.mem_append_right _ (List.mem_of_getElem? (i := 118) rfl))) rfl
theorem km_Law_36 : Cond.methodLink "ContestRowsLaw" 36 y_Model_start ∈ TBL := TBL_t (List.mem_append_right _ (List.mem_append_right _ (List.mem_of_getElem? (i := 115) rfl))) rfl
theorem cw_Law_36 : Cw "ContestRowsLaw" 36 y_Model_start b_Model_start 4 (some .boolean) 2 := ⟨kb_Model_start, kn_Model, km_Law_36, by decide +kernel⟩
theorem ki_Model_start : Cond.instanceMethod y_Model_start ∈ TBL := TBL_t (List.mem_append_right _ (List.mem_append_right _ (List.mem_of_getElem? (i := 116) rfl))) rfl
theorem ks_Model_start : Cond.selects "ContestRowsModel" y_Model_start y_Model_start ∈ TBL := TBL_t (List.mem_append_right _ (List.mem_append_right _ (List.mem_of_getElem? (i := 117) rfl))) rfl
set_option maxHeartbeats 4000000 in
set_option maxRecDepth 100000 in
theorem law_start {p : Program} {l : Launch} {e : Env} {s : State} {m : MethodId} {below : List Frame} {meth : Method} {c : Code} {G : va_G} {cI cZ cJ : ClassId} {h hm : Nat → Nat} {b L : Nat} {xs : Nat → Int32} (hL : L ≤ 3072) (X : Fx p m c code 4 s #[Value.ref b] "ContestRowsLaw" G (tyL cI cZ cJ) (fun q : Nat => s.heap.size ≤ q)) (hX : va_X b L xs s s.heap) (hbl : b < s.heap.size) {i : Nat} (hi : i + 6 ≤ L) (ih : ∀ (wa wm : va_W) (H : Heap) (locs : List Loc) (ls : Array Slot), InvW h hm cI cZ cJ wa wm → Wr G (fun q : Nat => s.heap.size ≤ q) s.heap (wa ++ wm) H locs → lv_has ls 4 [(0, .ref b), (1, .ref (h 0)), (2, .ref (hm 0)), (3, .int (nI (i + 6)))] → W p l e room_1 s m #[Value.ref b] below meth c H locs 45 6900 (lw_Z below #[Value.ref b] s) (F0 m 18 ls [])) (wa wm : va_W) (H : Heap) (locs : List Loc) (ls : Array Slot) (hI : InvW h hm cI cZ cJ wa wm) (hW : Wr G (fun q : Nat => s.heap.size ≤ q) s.heap (wa ++ wm) H locs) (hl : lv_has ls 4 [(0, .ref b), (1, .ref (h 0)), (2, .ref (hm 0)), (3, .int (nI i))]) : W p l e room_1 s m #[Value.ref b] below meth c H locs 45 6900 (lw_Z below #[Value.ref b] s) (F0 m 180 ls []) := by
  have hx := X.1.1
  have hb := X.1.2.1
  have hbA : ¬ (fun q : Nat => s.heap.size ≤ q) b := Nat.not_le.mpr hbl
  obtain ⟨f1, f2, ⟨fsA, f3⟩, ⟨fsM, f4⟩, f5, f6⟩ := hI.facts
  refine lv_aload_n hx hb d_Law_law_180 rfl (lv_at hl 1 rfl) ?_
  refine lv_aload_n hx hb d_Law_law_181 rfl (lv_at hl 0 rfl) ?_
  refine lv_iload_n hx hb d_Law_law_182 rfl (lv_at hl 3 rfl) ?_
  refine lv_iconst (v := (nI 1)) hx hb d_Law_law_183 (by decide +kernel) ?_
  refine N_iadd hx hb d_Law_law_184 ?_
  refine R_sld hx hb hX hbl hbA hW.2.2 (k := i + 1) (by omega) (by omega) d_Law_law_185 ?_
  refine lv_aload_n hx hb d_Law_law_186 rfl (lv_at hl 0 rfl) ?_
  refine lv_iload_n hx hb d_Law_law_187 rfl (lv_at hl 3 rfl) ?_
  refine lv_iconst (v := (nI 2)) hx hb d_Law_law_188 (by decide +kernel) ?_
  refine N_iadd hx hb d_Law_law_189 ?_
  refine R_sld hx hb hX hbl hbA hW.2.2 (k := i + 2) (by omega) (by omega) d_Law_law_190 ?_
  obtain ⟨d1, d2, r, wa', wm', hd1, hd2, hI', hA', hM'⟩ := case_start l G cI cZ cJ h hm hI (xs (i + 1)) (xs (i + 2))
  obtain ⟨g1, g2, -⟩ := hI'.facts
  clear hI
  refine R_callA (st1 := .int (bI r) :: []) hA' X hW cw_Law_32 ki_Top_start ks_Top_start rfl f3 ⟨by show d1 + 1 ≤ 11; omega, by show 8 + (3 + 11) + 44 * d1 ≤ 414; omega⟩ ⟨Nat.le_of_ble_eq_true rfl, Nat.le_of_ble_eq_true rfl⟩ f5 (by rw [g1, f1]) hl.1 rfl rfl (Nat.le_of_ble_eq_true rfl) d_Law_law_191 rfl (fun H locs hW => ?_)
  refine lv_aload_n hx hb d_Law_law_194 rfl (lv_at hl 2 rfl) ?_
  refine lv_aload_n hx hb d_Law_law_195 rfl (lv_at hl 0 rfl) ?_
  refine lv_iload_n hx hb d_Law_law_196 rfl (lv_at hl 3 rfl) ?_
  refine lv_iconst (v := (nI 1)) hx hb d_Law_law_197 (by decide +kernel) ?_
  refine N_iadd hx hb d_Law_law_198 ?_
  refine R_sld hx hb hX hbl hbA hW.2.2 (k := i + 1) (by omega) (by omega) d_Law_law_199 ?_
  refine lv_aload_n hx hb d_Law_law_200 rfl (lv_at hl 0 rfl) ?_
  refine lv_iload_n hx hb d_Law_law_201 rfl (lv_at hl 3 rfl) ?_
  refine lv_iconst (v := (nI 2)) hx hb d_Law_law_202 (by decide +kernel) ?_
  refine N_iadd hx hb d_Law_law_203 ?_
  refine R_sld hx hb hX hbl hbA hW.2.2 (k := i + 2) (by omega) (by omega) d_Law_law_204 ?_
  refine R_callB (st1 := .int (bI r) :: .int (bI r) :: []) hM' X hW cw_Law_36 ki_Model_start ks_Model_start rfl f4 ⟨by show d2 + 1 ≤ 11; omega, by show 8 + (4 + 11) + 44 * d2 ≤ 414; omega⟩ ⟨Nat.le_of_ble_eq_true rfl, Nat.le_of_ble_eq_true rfl⟩ (by have := congrArg List.length g1; simpa using this) f6 (by rw [g2, f2]) hl.1 rfl rfl (Nat.le_of_ble_eq_true rfl) d_Law_law_205 rfl (fun H locs hW => ?_)
  refine lv_icmp_eq (tgt := 567) hx hb d_Law_law_208 (by decide) (fun _ => ?_) (fun cq => absurd rfl cq)
  refine lv_iinc (v := nI (i + 6)) (lv' := [(3, .int (nI (i + 6))), (0, .ref b), (1, .ref (h 0)), (2, .ref (hm 0))]) hx hb d_Law_law_567 hl (k := 3) rfl (nI_6 i) (by decide) rfl (fun ls hl => ?_)
  refine lv_goto (tgt := 18) hx hb d_Law_law_570 (by decide) ?_
  exact ih wa' wm' _ _ ls hI' hW (lv_sub hl [1, 2, 3, 0] rfl)
theorem kb_Top_submit : Cond.code y_Top_submit b_Top_submit 7 (some .int) ∈ TBL := TBL_t (List.mem_append_right _ (List.mem_append_left _ (List.mem_of_getElem? (i := 104) rfl))) rfl
theorem km_Law_37 : Cond.methodLink "ContestRowsLaw" 37 y_Top_submit ∈ TBL := TBL_t (List.mem_append_right _ (List.mem_append_left _ (List.mem_of_getElem? (i := 101) rfl))) rfl
theorem cw_Law_37 : Cw "ContestRowsLaw" 37 y_Top_submit b_Top_submit 7 (some .int) 5 := ⟨kb_Top_submit, kn_Top, km_Law_37, by decide +kernel⟩
theorem ki_Top_submit : Cond.instanceMethod y_Top_submit ∈ TBL := TBL_t (List.mem_append_right _ (List.mem_append_left _ (List.mem_of_getElem? (i := 102) rfl))) rfl
theorem ks_Top_submit : Cond.selects "ContestRows" y_Top_submit y_Top_submit ∈ TBL := TBL_t (List.mem_append_right _ (List.mem_append_left _ (List.mem_of_getElem? (i := 103) rfl))) rfl
theorem kb_Model_submit : Cond.code y_Model_submit b_Model_submit 6 (some .int) ∈ TBL := TBL_t (List.mem_append_right _ (List.mem_append_right _ (List.mem_of_getElem? (i := 127) rfl))) rfl
theorem km_Law_41 : Cond.methodLink "ContestRowsLaw" 41 y_Model_submit ∈ TBL := TBL_t (List.mem_append_right _ (List.mem_append_right _ (List.mem_of_getElem? (i := 124) rfl))) rfl
theorem cw_Law_41 : Cw "ContestRowsLaw" 41 y_Model_submit b_Model_submit 6 (some .int) 5 := ⟨kb_Model_submit, kn_Model, km_Law_41, by decide +kernel⟩
theorem ki_Model_submit : Cond.instanceMethod y_Model_submit ∈ TBL := TBL_t (List.mem_append_right _ (List.mem_append_right _ (List.mem_of_getElem? (i := 125) rfl))) rfl
theorem ks_Model_submit : Cond.selects "ContestRowsModel" y_Model_submit y_Model_submit ∈ TBL := TBL_t (List.mem_append_right _ (List.mem_append_right _ (List.mem_of_getElem? (i := 126) rfl))) rfl
set_option maxHeartbeats 4000000 in
set_option maxRecDepth 100000 in
theorem law_submit {p : Program} {l : Launch} {e : Env} {s : State} {m : MethodId} {below : List Frame} {meth : Method} {c : Code} {G : va_G} {cI cZ cJ : ClassId} {h hm : Nat → Nat} {b L : Nat} {xs : Nat → Int32} (hL : L ≤ 3072) (X : Fx p m c code 4 s #[Value.ref b] "ContestRowsLaw" G (tyL cI cZ cJ) (fun q : Nat => s.heap.size ≤ q)) (hX : va_X b L xs s s.heap) (hbl : b < s.heap.size) {i : Nat} (hi : i + 6 ≤ L) (ih : ∀ (wa wm : va_W) (H : Heap) (locs : List Loc) (ls : Array Slot), InvW h hm cI cZ cJ wa wm → Wr G (fun q : Nat => s.heap.size ≤ q) s.heap (wa ++ wm) H locs → lv_has ls 4 [(0, .ref b), (1, .ref (h 0)), (2, .ref (hm 0)), (3, .int (nI (i + 6)))] → W p l e room_1 s m #[Value.ref b] below meth c H locs 45 6900 (lw_Z below #[Value.ref b] s) (F0 m 18 ls [])) (wa wm : va_W) (H : Heap) (locs : List Loc) (ls : Array Slot) (hI : InvW h hm cI cZ cJ wa wm) (hW : Wr G (fun q : Nat => s.heap.size ≤ q) s.heap (wa ++ wm) H locs) (hl : lv_has ls 4 [(0, .ref b), (1, .ref (h 0)), (2, .ref (hm 0)), (3, .int (nI i))]) : W p l e room_1 s m #[Value.ref b] below meth c H locs 45 6900 (lw_Z below #[Value.ref b] s) (F0 m 213 ls []) := by
  have hx := X.1.1
  have hb := X.1.2.1
  have hbA : ¬ (fun q : Nat => s.heap.size ≤ q) b := Nat.not_le.mpr hbl
  obtain ⟨f1, f2, ⟨fsA, f3⟩, ⟨fsM, f4⟩, f5, f6⟩ := hI.facts
  refine lv_aload_n hx hb d_Law_law_213 rfl (lv_at hl 1 rfl) ?_
  refine lv_aload_n hx hb d_Law_law_214 rfl (lv_at hl 0 rfl) ?_
  refine lv_iload_n hx hb d_Law_law_215 rfl (lv_at hl 3 rfl) ?_
  refine lv_iconst (v := (nI 1)) hx hb d_Law_law_216 (by decide +kernel) ?_
  refine N_iadd hx hb d_Law_law_217 ?_
  refine R_sld hx hb hX hbl hbA hW.2.2 (k := i + 1) (by omega) (by omega) d_Law_law_218 ?_
  refine lv_aload_n hx hb d_Law_law_219 rfl (lv_at hl 0 rfl) ?_
  refine lv_iload_n hx hb d_Law_law_220 rfl (lv_at hl 3 rfl) ?_
  refine lv_iconst (v := (nI 2)) hx hb d_Law_law_221 (by decide +kernel) ?_
  refine N_iadd hx hb d_Law_law_222 ?_
  refine R_sld hx hb hX hbl hbA hW.2.2 (k := i + 2) (by omega) (by omega) d_Law_law_223 ?_
  refine lv_aload_n hx hb d_Law_law_224 rfl (lv_at hl 0 rfl) ?_
  refine lv_iload_n hx hb d_Law_law_225 rfl (lv_at hl 3 rfl) ?_
  refine lv_iconst (v := (nI 3)) hx hb d_Law_law_226 (by decide +kernel) ?_
  refine N_iadd hx hb d_Law_law_227 ?_
  refine R_sld hx hb hX hbl hbA hW.2.2 (k := i + 3) (by omega) (by omega) d_Law_law_228 ?_
  refine lv_aload_n hx hb d_Law_law_229 rfl (lv_at hl 0 rfl) ?_
  refine lv_iload_n hx hb d_Law_law_230 rfl (lv_at hl 3 rfl) ?_
  refine lv_iconst (v := (nI 4)) hx hb d_Law_law_231 (by decide +kernel) ?_
  refine N_iadd hx hb d_Law_law_232 ?_
  refine R_sld hx hb hX hbl hbA hW.2.2 (k := i + 4) (by omega) (by omega) d_Law_law_233 ?_
  refine lv_aload_n hx hb d_Law_law_234 rfl (lv_at hl 0 rfl) ?_
  refine lv_iload_n hx hb d_Law_law_235 rfl (lv_at hl 3 rfl) ?_
  refine lv_iconst (v := (nI 5)) hx hb d_Law_law_236 (by decide +kernel) ?_
  refine N_iadd hx hb d_Law_law_237 ?_
  refine R_sld hx hb hX hbl hbA hW.2.2 (k := i + 5) (by omega) (by omega) d_Law_law_238 ?_
  refine lv_if_eq (tgt := 246) hx hb d_Law_law_239 (by decide) (fun c239 => ?_) (fun c239 => ?_)
  · refine lv_iconst (v := (nI 0)) hx hb d_Law_law_246 (by decide +kernel) ?_
    refine W.eq (g2 := F0 m 247 ls (.int (bI false) :: .int (xs (i + 4)) :: .int (xs (i + 3)) :: .int (xs (i + 2)) :: .int (xs (i + 1)) :: .ref (h 0) :: [])) rfl ?_
    obtain ⟨d1, d2, r, wa', wm', hd1, hd2, hI', hA', hM'⟩ := case_submit l G cI cZ cJ h hm hI (xs (i + 1)) (xs (i + 2)) (xs (i + 3)) (xs (i + 4)) false
    obtain ⟨g1, g2, -⟩ := hI'.facts
    clear hI
    refine R_callA (st1 := .int r :: []) hA' X hW cw_Law_37 ki_Top_submit ks_Top_submit rfl f3 ⟨by show d1 + 1 ≤ 11; omega, by show 8 + (7 + 11) + 44 * d1 ≤ 414; omega⟩ ⟨Nat.le_of_ble_eq_true rfl, Nat.le_of_ble_eq_true rfl⟩ f5 (by rw [g1, f1]) hl.1 rfl rfl (Nat.le_of_ble_eq_true rfl) d_Law_law_247 rfl (fun H locs hW => ?_)
    refine lv_aload_n hx hb d_Law_law_250 rfl (lv_at hl 2 rfl) ?_
    refine lv_aload_n hx hb d_Law_law_251 rfl (lv_at hl 0 rfl) ?_
    refine lv_iload_n hx hb d_Law_law_252 rfl (lv_at hl 3 rfl) ?_
    refine lv_iconst (v := (nI 1)) hx hb d_Law_law_253 (by decide +kernel) ?_
    refine N_iadd hx hb d_Law_law_254 ?_
    refine R_sld hx hb hX hbl hbA hW.2.2 (k := i + 1) (by omega) (by omega) d_Law_law_255 ?_
    refine lv_aload_n hx hb d_Law_law_256 rfl (lv_at hl 0 rfl) ?_
    refine lv_iload_n hx hb d_Law_law_257 rfl (lv_at hl 3 rfl) ?_
    refine lv_iconst (v := (nI 2)) hx hb d_Law_law_258 (by decide +kernel) ?_
    refine N_iadd hx hb d_Law_law_259 ?_
    refine R_sld hx hb hX hbl hbA hW.2.2 (k := i + 2) (by omega) (by omega) d_Law_law_260 ?_
    refine lv_aload_n hx hb d_Law_law_261 rfl (lv_at hl 0 rfl) ?_
    refine lv_iload_n hx hb d_Law_law_262 rfl (lv_at hl 3 rfl) ?_
    refine lv_iconst (v := (nI 3)) hx hb d_Law_law_263 (by decide +kernel) ?_
    refine N_iadd hx hb d_Law_law_264 ?_
    refine R_sld hx hb hX hbl hbA hW.2.2 (k := i + 3) (by omega) (by omega) d_Law_law_265 ?_
    refine lv_aload_n hx hb d_Law_law_266 rfl (lv_at hl 0 rfl) ?_
    refine lv_iload_n hx hb d_Law_law_267 rfl (lv_at hl 3 rfl) ?_
    refine lv_iconst (v := (nI 4)) hx hb d_Law_law_268 (by decide +kernel) ?_
    refine N_iadd hx hb d_Law_law_269 ?_
    refine R_sld hx hb hX hbl hbA hW.2.2 (k := i + 4) (by omega) (by omega) d_Law_law_270 ?_
    refine lv_aload_n hx hb d_Law_law_271 rfl (lv_at hl 0 rfl) ?_
    refine lv_iload_n hx hb d_Law_law_272 rfl (lv_at hl 3 rfl) ?_
    refine lv_iconst (v := (nI 5)) hx hb d_Law_law_273 (by decide +kernel) ?_
    refine N_iadd hx hb d_Law_law_274 ?_
    refine R_sld hx hb hX hbl hbA hW.2.2 (k := i + 5) (by omega) (by omega) d_Law_law_275 ?_
    refine lv_if_eq (tgt := 283) hx hb d_Law_law_276 (by decide) (fun c276 => ?_) (fun c276 => ?_)
    · refine lv_iconst (v := (nI 0)) hx hb d_Law_law_283 (by decide +kernel) ?_
      refine W.eq (g2 := F0 m 284 ls (.int (bI false) :: .int (xs (i + 4)) :: .int (xs (i + 3)) :: .int (xs (i + 2)) :: .int (xs (i + 1)) :: .ref (hm 0) :: .int r :: [])) rfl ?_
      refine R_callB (st1 := .int r :: .int r :: []) hM' X hW cw_Law_41 ki_Model_submit ks_Model_submit rfl f4 ⟨by show d2 + 1 ≤ 11; omega, by show 8 + (6 + 11) + 44 * d2 ≤ 414; omega⟩ ⟨Nat.le_of_ble_eq_true rfl, Nat.le_of_ble_eq_true rfl⟩ (by have := congrArg List.length g1; simpa using this) f6 (by rw [g2, f2]) hl.1 rfl rfl (Nat.le_of_ble_eq_true rfl) d_Law_law_284 rfl (fun H locs hW => ?_)
      refine lv_icmp_eq (tgt := 567) hx hb d_Law_law_287 (by decide) (fun _ => ?_) (fun cq => absurd rfl cq)
      refine lv_iinc (v := nI (i + 6)) (lv' := [(3, .int (nI (i + 6))), (0, .ref b), (1, .ref (h 0)), (2, .ref (hm 0))]) hx hb d_Law_law_567 hl (k := 3) rfl (nI_6 i) (by decide) rfl (fun ls hl => ?_)
      refine lv_goto (tgt := 18) hx hb d_Law_law_570 (by decide) ?_
      exact ih wa' wm' _ _ ls hI' hW (lv_sub hl [1, 2, 3, 0] rfl)
    · exact absurd c239 c276
  · refine lv_iconst (v := (nI 1)) hx hb d_Law_law_242 (by decide +kernel) ?_
    refine lv_goto (tgt := 247) hx hb d_Law_law_243 (by decide) ?_
    refine W.eq (g2 := F0 m 247 ls (.int (bI true) :: .int (xs (i + 4)) :: .int (xs (i + 3)) :: .int (xs (i + 2)) :: .int (xs (i + 1)) :: .ref (h 0) :: [])) rfl ?_
    obtain ⟨d1, d2, r, wa', wm', hd1, hd2, hI', hA', hM'⟩ := case_submit l G cI cZ cJ h hm hI (xs (i + 1)) (xs (i + 2)) (xs (i + 3)) (xs (i + 4)) true
    obtain ⟨g1, g2, -⟩ := hI'.facts
    clear hI
    refine R_callA (st1 := .int r :: []) hA' X hW cw_Law_37 ki_Top_submit ks_Top_submit rfl f3 ⟨by show d1 + 1 ≤ 11; omega, by show 8 + (7 + 11) + 44 * d1 ≤ 414; omega⟩ ⟨Nat.le_of_ble_eq_true rfl, Nat.le_of_ble_eq_true rfl⟩ f5 (by rw [g1, f1]) hl.1 rfl rfl (Nat.le_of_ble_eq_true rfl) d_Law_law_247 rfl (fun H locs hW => ?_)
    refine lv_aload_n hx hb d_Law_law_250 rfl (lv_at hl 2 rfl) ?_
    refine lv_aload_n hx hb d_Law_law_251 rfl (lv_at hl 0 rfl) ?_
    refine lv_iload_n hx hb d_Law_law_252 rfl (lv_at hl 3 rfl) ?_
    refine lv_iconst (v := (nI 1)) hx hb d_Law_law_253 (by decide +kernel) ?_
    refine N_iadd hx hb d_Law_law_254 ?_
    refine R_sld hx hb hX hbl hbA hW.2.2 (k := i + 1) (by omega) (by omega) d_Law_law_255 ?_
    refine lv_aload_n hx hb d_Law_law_256 rfl (lv_at hl 0 rfl) ?_
    refine lv_iload_n hx hb d_Law_law_257 rfl (lv_at hl 3 rfl) ?_
    refine lv_iconst (v := (nI 2)) hx hb d_Law_law_258 (by decide +kernel) ?_
    refine N_iadd hx hb d_Law_law_259 ?_
    refine R_sld hx hb hX hbl hbA hW.2.2 (k := i + 2) (by omega) (by omega) d_Law_law_260 ?_
    refine lv_aload_n hx hb d_Law_law_261 rfl (lv_at hl 0 rfl) ?_
    refine lv_iload_n hx hb d_Law_law_262 rfl (lv_at hl 3 rfl) ?_
    refine lv_iconst (v := (nI 3)) hx hb d_Law_law_263 (by decide +kernel) ?_
    refine N_iadd hx hb d_Law_law_264 ?_
    refine R_sld hx hb hX hbl hbA hW.2.2 (k := i + 3) (by omega) (by omega) d_Law_law_265 ?_
    refine lv_aload_n hx hb d_Law_law_266 rfl (lv_at hl 0 rfl) ?_
    refine lv_iload_n hx hb d_Law_law_267 rfl (lv_at hl 3 rfl) ?_
    refine lv_iconst (v := (nI 4)) hx hb d_Law_law_268 (by decide +kernel) ?_
    refine N_iadd hx hb d_Law_law_269 ?_
    refine R_sld hx hb hX hbl hbA hW.2.2 (k := i + 4) (by omega) (by omega) d_Law_law_270 ?_
    refine lv_aload_n hx hb d_Law_law_271 rfl (lv_at hl 0 rfl) ?_
    refine lv_iload_n hx hb d_Law_law_272 rfl (lv_at hl 3 rfl) ?_
    refine lv_iconst (v := (nI 5)) hx hb d_Law_law_273 (by decide +kernel) ?_
    refine N_iadd hx hb d_Law_law_274 ?_
    refine R_sld hx hb hX hbl hbA hW.2.2 (k := i + 5) (by omega) (by omega) d_Law_law_275 ?_
    refine lv_if_eq (tgt := 283) hx hb d_Law_law_276 (by decide) (fun c276 => ?_) (fun c276 => ?_)
    · exact absurd c276 c239
    · refine lv_iconst (v := (nI 1)) hx hb d_Law_law_279 (by decide +kernel) ?_
      refine lv_goto (tgt := 284) hx hb d_Law_law_280 (by decide) ?_
      refine W.eq (g2 := F0 m 284 ls (.int (bI true) :: .int (xs (i + 4)) :: .int (xs (i + 3)) :: .int (xs (i + 2)) :: .int (xs (i + 1)) :: .ref (hm 0) :: .int r :: [])) rfl ?_
      refine R_callB (st1 := .int r :: .int r :: []) hM' X hW cw_Law_41 ki_Model_submit ks_Model_submit rfl f4 ⟨by show d2 + 1 ≤ 11; omega, by show 8 + (6 + 11) + 44 * d2 ≤ 414; omega⟩ ⟨Nat.le_of_ble_eq_true rfl, Nat.le_of_ble_eq_true rfl⟩ (by have := congrArg List.length g1; simpa using this) f6 (by rw [g2, f2]) hl.1 rfl rfl (Nat.le_of_ble_eq_true rfl) d_Law_law_284 rfl (fun H locs hW => ?_)
      refine lv_icmp_eq (tgt := 567) hx hb d_Law_law_287 (by decide) (fun _ => ?_) (fun cq => absurd rfl cq)
      refine lv_iinc (v := nI (i + 6)) (lv' := [(3, .int (nI (i + 6))), (0, .ref b), (1, .ref (h 0)), (2, .ref (hm 0))]) hx hb d_Law_law_567 hl (k := 3) rfl (nI_6 i) (by decide) rfl (fun ls hl => ?_)
      refine lv_goto (tgt := 18) hx hb d_Law_law_570 (by decide) ?_
      exact ih wa' wm' _ _ ls hI' hW (lv_sub hl [1, 2, 3, 0] rfl)
theorem kb_Top_correct : Cond.code y_Top_correct b_Top_correct 3 (some .boolean) ∈ TBL := TBL_t (List.mem_append_right _ (List.mem_append_left _ (List.mem_of_getElem? (i := 120) rfl))) rfl
theorem km_Law_42 : Cond.methodLink "ContestRowsLaw" 42 y_Top_correct ∈ TBL := TBL_t (List.mem_append_right _ (List.mem_append_left _ (List.mem_of_getElem? (i := 117) rfl))) rfl
theorem cw_Law_42 : Cw "ContestRowsLaw" 42 y_Top_correct b_Top_correct 3 (some .boolean) 2 := ⟨kb_Top_correct, kn_Top, km_Law_42, by decide +kernel⟩
theorem ki_Top_correct : Cond.instanceMethod y_Top_correct ∈ TBL := TBL_t (List.mem_append_right _ (List.mem_append_left _ (List.mem_of_getElem? (i := 118) rfl))) rfl
theorem ks_Top_correct : Cond.selects "ContestRows" y_Top_correct y_Top_correct ∈ TBL := TBL_t (List.mem_append_right _ (List.mem_append_left _ (List.mem_of_getElem? (i := 119) rfl))) rfl
theorem kb_Model_correct : Cond.code y_Model_correct b_Model_correct 3 (some .boolean) ∈ TBL := TBL_t (List.mem_append_right _ (List.mem_append_right _ (List.mem_of_getElem? (i := 135) rfl))) rfl
theorem km_Law_46 : Cond.methodLink "ContestRowsLaw" 46 y_Model_correct ∈ TBL := TBL_t (List.mem_append_right _ (List.mem_append_right _ (List.mem_of_getElem? (i := 132) rfl))) rfl
theorem cw_Law_46 : Cw "ContestRowsLaw" 46 y_Model_correct b_Model_correct 3 (some .boolean) 2 := ⟨kb_Model_correct, kn_Model, km_Law_46, by decide +kernel⟩
theorem ki_Model_correct : Cond.instanceMethod y_Model_correct ∈ TBL := TBL_t (List.mem_append_right _ (List.mem_append_right _ (List.mem_of_getElem? (i := 133) rfl))) rfl
theorem ks_Model_correct : Cond.selects "ContestRowsModel" y_Model_correct y_Model_correct ∈ TBL := TBL_t (List.mem_append_right _ (List.mem_append_right _ (List.mem_of_getElem? (i := 134) rfl))) rfl
set_option maxHeartbeats 4000000 in
set_option maxRecDepth 100000 in
theorem law_correct {p : Program} {l : Launch} {e : Env} {s : State} {m : MethodId} {below : List Frame} {meth : Method} {c : Code} {G : va_G} {cI cZ cJ : ClassId} {h hm : Nat → Nat} {b L : Nat} {xs : Nat → Int32} (hL : L ≤ 3072) (X : Fx p m c code 4 s #[Value.ref b] "ContestRowsLaw" G (tyL cI cZ cJ) (fun q : Nat => s.heap.size ≤ q)) (hX : va_X b L xs s s.heap) (hbl : b < s.heap.size) {i : Nat} (hi : i + 6 ≤ L) (ih : ∀ (wa wm : va_W) (H : Heap) (locs : List Loc) (ls : Array Slot), InvW h hm cI cZ cJ wa wm → Wr G (fun q : Nat => s.heap.size ≤ q) s.heap (wa ++ wm) H locs → lv_has ls 4 [(0, .ref b), (1, .ref (h 0)), (2, .ref (hm 0)), (3, .int (nI (i + 6)))] → W p l e room_1 s m #[Value.ref b] below meth c H locs 45 6900 (lw_Z below #[Value.ref b] s) (F0 m 18 ls [])) (wa wm : va_W) (H : Heap) (locs : List Loc) (ls : Array Slot) (hI : InvW h hm cI cZ cJ wa wm) (hW : Wr G (fun q : Nat => s.heap.size ≤ q) s.heap (wa ++ wm) H locs) (hl : lv_has ls 4 [(0, .ref b), (1, .ref (h 0)), (2, .ref (hm 0)), (3, .int (nI i))]) : W p l e room_1 s m #[Value.ref b] below meth c H locs 45 6900 (lw_Z below #[Value.ref b] s) (F0 m 292 ls []) := by
  have hx := X.1.1
  have hb := X.1.2.1
  have hbA : ¬ (fun q : Nat => s.heap.size ≤ q) b := Nat.not_le.mpr hbl
  obtain ⟨f1, f2, ⟨fsA, f3⟩, ⟨fsM, f4⟩, f5, f6⟩ := hI.facts
  refine lv_aload_n hx hb d_Law_law_292 rfl (lv_at hl 1 rfl) ?_
  refine lv_aload_n hx hb d_Law_law_293 rfl (lv_at hl 0 rfl) ?_
  refine lv_iload_n hx hb d_Law_law_294 rfl (lv_at hl 3 rfl) ?_
  refine lv_iconst (v := (nI 1)) hx hb d_Law_law_295 (by decide +kernel) ?_
  refine N_iadd hx hb d_Law_law_296 ?_
  refine R_sld hx hb hX hbl hbA hW.2.2 (k := i + 1) (by omega) (by omega) d_Law_law_297 ?_
  refine lv_aload_n hx hb d_Law_law_298 rfl (lv_at hl 0 rfl) ?_
  refine lv_iload_n hx hb d_Law_law_299 rfl (lv_at hl 3 rfl) ?_
  refine lv_iconst (v := (nI 2)) hx hb d_Law_law_300 (by decide +kernel) ?_
  refine N_iadd hx hb d_Law_law_301 ?_
  refine R_sld hx hb hX hbl hbA hW.2.2 (k := i + 2) (by omega) (by omega) d_Law_law_302 ?_
  refine lv_if_eq (tgt := 310) hx hb d_Law_law_303 (by decide) (fun c303 => ?_) (fun c303 => ?_)
  · refine lv_iconst (v := (nI 0)) hx hb d_Law_law_310 (by decide +kernel) ?_
    refine W.eq (g2 := F0 m 311 ls (.int (bI false) :: .int (xs (i + 1)) :: .ref (h 0) :: [])) rfl ?_
    obtain ⟨d1, d2, r, wa', wm', hd1, hd2, hI', hA', hM'⟩ := case_correct l G cI cZ cJ h hm hI (xs (i + 1)) false
    obtain ⟨g1, g2, -⟩ := hI'.facts
    clear hI
    refine R_callA (st1 := .int (bI r) :: []) hA' X hW cw_Law_42 ki_Top_correct ks_Top_correct rfl f3 ⟨by show d1 + 1 ≤ 11; omega, by show 8 + (3 + 11) + 44 * d1 ≤ 414; omega⟩ ⟨Nat.le_of_ble_eq_true rfl, Nat.le_of_ble_eq_true rfl⟩ f5 (by rw [g1, f1]) hl.1 rfl rfl (Nat.le_of_ble_eq_true rfl) d_Law_law_311 rfl (fun H locs hW => ?_)
    refine lv_aload_n hx hb d_Law_law_314 rfl (lv_at hl 2 rfl) ?_
    refine lv_aload_n hx hb d_Law_law_315 rfl (lv_at hl 0 rfl) ?_
    refine lv_iload_n hx hb d_Law_law_316 rfl (lv_at hl 3 rfl) ?_
    refine lv_iconst (v := (nI 1)) hx hb d_Law_law_317 (by decide +kernel) ?_
    refine N_iadd hx hb d_Law_law_318 ?_
    refine R_sld hx hb hX hbl hbA hW.2.2 (k := i + 1) (by omega) (by omega) d_Law_law_319 ?_
    refine lv_aload_n hx hb d_Law_law_320 rfl (lv_at hl 0 rfl) ?_
    refine lv_iload_n hx hb d_Law_law_321 rfl (lv_at hl 3 rfl) ?_
    refine lv_iconst (v := (nI 2)) hx hb d_Law_law_322 (by decide +kernel) ?_
    refine N_iadd hx hb d_Law_law_323 ?_
    refine R_sld hx hb hX hbl hbA hW.2.2 (k := i + 2) (by omega) (by omega) d_Law_law_324 ?_
    refine lv_if_eq (tgt := 332) hx hb d_Law_law_325 (by decide) (fun c325 => ?_) (fun c325 => ?_)
    · refine lv_iconst (v := (nI 0)) hx hb d_Law_law_332 (by decide +kernel) ?_
      refine W.eq (g2 := F0 m 333 ls (.int (bI false) :: .int (xs (i + 1)) :: .ref (hm 0) :: .int (bI r) :: [])) rfl ?_
      refine R_callB (st1 := .int (bI r) :: .int (bI r) :: []) hM' X hW cw_Law_46 ki_Model_correct ks_Model_correct rfl f4 ⟨by show d2 + 1 ≤ 11; omega, by show 8 + (3 + 11) + 44 * d2 ≤ 414; omega⟩ ⟨Nat.le_of_ble_eq_true rfl, Nat.le_of_ble_eq_true rfl⟩ (by have := congrArg List.length g1; simpa using this) f6 (by rw [g2, f2]) hl.1 rfl rfl (Nat.le_of_ble_eq_true rfl) d_Law_law_333 rfl (fun H locs hW => ?_)
      refine lv_icmp_eq (tgt := 567) hx hb d_Law_law_336 (by decide) (fun _ => ?_) (fun cq => absurd rfl cq)
      refine lv_iinc (v := nI (i + 6)) (lv' := [(3, .int (nI (i + 6))), (0, .ref b), (1, .ref (h 0)), (2, .ref (hm 0))]) hx hb d_Law_law_567 hl (k := 3) rfl (nI_6 i) (by decide) rfl (fun ls hl => ?_)
      refine lv_goto (tgt := 18) hx hb d_Law_law_570 (by decide) ?_
      exact ih wa' wm' _ _ ls hI' hW (lv_sub hl [1, 2, 3, 0] rfl)
    · exact absurd c303 c325
  · refine lv_iconst (v := (nI 1)) hx hb d_Law_law_306 (by decide +kernel) ?_
    refine lv_goto (tgt := 311) hx hb d_Law_law_307 (by decide) ?_
    refine W.eq (g2 := F0 m 311 ls (.int (bI true) :: .int (xs (i + 1)) :: .ref (h 0) :: [])) rfl ?_
    obtain ⟨d1, d2, r, wa', wm', hd1, hd2, hI', hA', hM'⟩ := case_correct l G cI cZ cJ h hm hI (xs (i + 1)) true
    obtain ⟨g1, g2, -⟩ := hI'.facts
    clear hI
    refine R_callA (st1 := .int (bI r) :: []) hA' X hW cw_Law_42 ki_Top_correct ks_Top_correct rfl f3 ⟨by show d1 + 1 ≤ 11; omega, by show 8 + (3 + 11) + 44 * d1 ≤ 414; omega⟩ ⟨Nat.le_of_ble_eq_true rfl, Nat.le_of_ble_eq_true rfl⟩ f5 (by rw [g1, f1]) hl.1 rfl rfl (Nat.le_of_ble_eq_true rfl) d_Law_law_311 rfl (fun H locs hW => ?_)
    refine lv_aload_n hx hb d_Law_law_314 rfl (lv_at hl 2 rfl) ?_
    refine lv_aload_n hx hb d_Law_law_315 rfl (lv_at hl 0 rfl) ?_
    refine lv_iload_n hx hb d_Law_law_316 rfl (lv_at hl 3 rfl) ?_
    refine lv_iconst (v := (nI 1)) hx hb d_Law_law_317 (by decide +kernel) ?_
    refine N_iadd hx hb d_Law_law_318 ?_
    refine R_sld hx hb hX hbl hbA hW.2.2 (k := i + 1) (by omega) (by omega) d_Law_law_319 ?_
    refine lv_aload_n hx hb d_Law_law_320 rfl (lv_at hl 0 rfl) ?_
    refine lv_iload_n hx hb d_Law_law_321 rfl (lv_at hl 3 rfl) ?_
    refine lv_iconst (v := (nI 2)) hx hb d_Law_law_322 (by decide +kernel) ?_
    refine N_iadd hx hb d_Law_law_323 ?_
    refine R_sld hx hb hX hbl hbA hW.2.2 (k := i + 2) (by omega) (by omega) d_Law_law_324 ?_
    refine lv_if_eq (tgt := 332) hx hb d_Law_law_325 (by decide) (fun c325 => ?_) (fun c325 => ?_)
    · exact absurd c325 c303
    · refine lv_iconst (v := (nI 1)) hx hb d_Law_law_328 (by decide +kernel) ?_
      refine lv_goto (tgt := 333) hx hb d_Law_law_329 (by decide) ?_
      refine W.eq (g2 := F0 m 333 ls (.int (bI true) :: .int (xs (i + 1)) :: .ref (hm 0) :: .int (bI r) :: [])) rfl ?_
      refine R_callB (st1 := .int (bI r) :: .int (bI r) :: []) hM' X hW cw_Law_46 ki_Model_correct ks_Model_correct rfl f4 ⟨by show d2 + 1 ≤ 11; omega, by show 8 + (3 + 11) + 44 * d2 ≤ 414; omega⟩ ⟨Nat.le_of_ble_eq_true rfl, Nat.le_of_ble_eq_true rfl⟩ (by have := congrArg List.length g1; simpa using this) f6 (by rw [g2, f2]) hl.1 rfl rfl (Nat.le_of_ble_eq_true rfl) d_Law_law_333 rfl (fun H locs hW => ?_)
      refine lv_icmp_eq (tgt := 567) hx hb d_Law_law_336 (by decide) (fun _ => ?_) (fun cq => absurd rfl cq)
      refine lv_iinc (v := nI (i + 6)) (lv' := [(3, .int (nI (i + 6))), (0, .ref b), (1, .ref (h 0)), (2, .ref (hm 0))]) hx hb d_Law_law_567 hl (k := 3) rfl (nI_6 i) (by decide) rfl (fun ls hl => ?_)
      refine lv_goto (tgt := 18) hx hb d_Law_law_570 (by decide) ?_
      exact ih wa' wm' _ _ ls hI' hW (lv_sub hl [1, 2, 3, 0] rfl)
theorem kb_Top_late : Cond.code y_Top_late b_Top_late 2 (some .boolean) ∈ TBL := TBL_t (List.mem_append_right _ (List.mem_append_left _ (List.mem_of_getElem? (i := 128) rfl))) rfl
theorem km_Law_47 : Cond.methodLink "ContestRowsLaw" 47 y_Top_late ∈ TBL := TBL_t (List.mem_append_right _ (List.mem_append_left _ (List.mem_of_getElem? (i := 125) rfl))) rfl
theorem cw_Law_47 : Cw "ContestRowsLaw" 47 y_Top_late b_Top_late 2 (some .boolean) 1 := ⟨kb_Top_late, kn_Top, km_Law_47, by decide +kernel⟩
theorem ki_Top_late : Cond.instanceMethod y_Top_late ∈ TBL := TBL_t (List.mem_append_right _ (List.mem_append_left _ (List.mem_of_getElem? (i := 126) rfl))) rfl
theorem ks_Top_late : Cond.selects "ContestRows" y_Top_late y_Top_late ∈ TBL := TBL_t (List.mem_append_right _ (List.mem_append_left _ (List.mem_of_getElem? (i := 127) rfl))) rfl
theorem kb_Model_late : Cond.code y_Model_late b_Model_late 2 (some .boolean) ∈ TBL := TBL_t (List.mem_append_right _ (List.mem_append_right _ (List.mem_of_getElem? (i := 143) rfl))) rfl
theorem km_Law_50 : Cond.methodLink "ContestRowsLaw" 50 y_Model_late ∈ TBL := TBL_t (List.mem_append_right _ (List.mem_append_right _ (List.mem_of_getElem? (i := 140) rfl))) rfl
theorem cw_Law_50 : Cw "ContestRowsLaw" 50 y_Model_late b_Model_late 2 (some .boolean) 1 := ⟨kb_Model_late, kn_Model, km_Law_50, by decide +kernel⟩
theorem ki_Model_late : Cond.instanceMethod y_Model_late ∈ TBL := TBL_t (List.mem_append_right _ (List.mem_append_right _ (List.mem_of_getElem? (i := 141) rfl))) rfl
theorem ks_Model_late : Cond.selects "ContestRowsModel" y_Model_late y_Model_late ∈ TBL := TBL_t (List.mem_append_right _ (List.mem_append_right _ (List.mem_of_getElem? (i := 142) rfl))) rfl
set_option maxHeartbeats 4000000 in
set_option maxRecDepth 100000 in
theorem law_late {p : Program} {l : Launch} {e : Env} {s : State} {m : MethodId} {below : List Frame} {meth : Method} {c : Code} {G : va_G} {cI cZ cJ : ClassId} {h hm : Nat → Nat} {b L : Nat} {xs : Nat → Int32} (hL : L ≤ 3072) (X : Fx p m c code 4 s #[Value.ref b] "ContestRowsLaw" G (tyL cI cZ cJ) (fun q : Nat => s.heap.size ≤ q)) (hX : va_X b L xs s s.heap) (hbl : b < s.heap.size) {i : Nat} (hi : i + 6 ≤ L) (ih : ∀ (wa wm : va_W) (H : Heap) (locs : List Loc) (ls : Array Slot), InvW h hm cI cZ cJ wa wm → Wr G (fun q : Nat => s.heap.size ≤ q) s.heap (wa ++ wm) H locs → lv_has ls 4 [(0, .ref b), (1, .ref (h 0)), (2, .ref (hm 0)), (3, .int (nI (i + 6)))] → W p l e room_1 s m #[Value.ref b] below meth c H locs 45 6900 (lw_Z below #[Value.ref b] s) (F0 m 18 ls [])) (wa wm : va_W) (H : Heap) (locs : List Loc) (ls : Array Slot) (hI : InvW h hm cI cZ cJ wa wm) (hW : Wr G (fun q : Nat => s.heap.size ≤ q) s.heap (wa ++ wm) H locs) (hl : lv_has ls 4 [(0, .ref b), (1, .ref (h 0)), (2, .ref (hm 0)), (3, .int (nI i))]) : W p l e room_1 s m #[Value.ref b] below meth c H locs 45 6900 (lw_Z below #[Value.ref b] s) (F0 m 341 ls []) := by
  have hx := X.1.1
  have hb := X.1.2.1
  have hbA : ¬ (fun q : Nat => s.heap.size ≤ q) b := Nat.not_le.mpr hbl
  obtain ⟨f1, f2, ⟨fsA, f3⟩, ⟨fsM, f4⟩, f5, f6⟩ := hI.facts
  refine lv_aload_n hx hb d_Law_law_341 rfl (lv_at hl 1 rfl) ?_
  refine lv_aload_n hx hb d_Law_law_342 rfl (lv_at hl 0 rfl) ?_
  refine lv_iload_n hx hb d_Law_law_343 rfl (lv_at hl 3 rfl) ?_
  refine lv_iconst (v := (nI 1)) hx hb d_Law_law_344 (by decide +kernel) ?_
  refine N_iadd hx hb d_Law_law_345 ?_
  refine R_sld hx hb hX hbl hbA hW.2.2 (k := i + 1) (by omega) (by omega) d_Law_law_346 ?_
  obtain ⟨d1, d2, r, wa', wm', hd1, hd2, hI', hA', hM'⟩ := case_late l G cI cZ cJ h hm hI (xs (i + 1))
  obtain ⟨g1, g2, -⟩ := hI'.facts
  clear hI
  refine R_callA (st1 := .int (bI r) :: []) hA' X hW cw_Law_47 ki_Top_late ks_Top_late rfl f3 ⟨by show d1 + 1 ≤ 11; omega, by show 8 + (2 + 11) + 44 * d1 ≤ 414; omega⟩ ⟨Nat.le_of_ble_eq_true rfl, Nat.le_of_ble_eq_true rfl⟩ f5 (by rw [g1, f1]) hl.1 rfl rfl (Nat.le_of_ble_eq_true rfl) d_Law_law_347 rfl (fun H locs hW => ?_)
  refine lv_aload_n hx hb d_Law_law_350 rfl (lv_at hl 2 rfl) ?_
  refine lv_aload_n hx hb d_Law_law_351 rfl (lv_at hl 0 rfl) ?_
  refine lv_iload_n hx hb d_Law_law_352 rfl (lv_at hl 3 rfl) ?_
  refine lv_iconst (v := (nI 1)) hx hb d_Law_law_353 (by decide +kernel) ?_
  refine N_iadd hx hb d_Law_law_354 ?_
  refine R_sld hx hb hX hbl hbA hW.2.2 (k := i + 1) (by omega) (by omega) d_Law_law_355 ?_
  refine R_callB (st1 := .int (bI r) :: .int (bI r) :: []) hM' X hW cw_Law_50 ki_Model_late ks_Model_late rfl f4 ⟨by show d2 + 1 ≤ 11; omega, by show 8 + (2 + 11) + 44 * d2 ≤ 414; omega⟩ ⟨Nat.le_of_ble_eq_true rfl, Nat.le_of_ble_eq_true rfl⟩ (by have := congrArg List.length g1; simpa using this) f6 (by rw [g2, f2]) hl.1 rfl rfl (Nat.le_of_ble_eq_true rfl) d_Law_law_356 rfl (fun H locs hW => ?_)
  refine lv_icmp_eq (tgt := 567) hx hb d_Law_law_359 (by decide) (fun _ => ?_) (fun cq => absurd rfl cq)
  refine lv_iinc (v := nI (i + 6)) (lv' := [(3, .int (nI (i + 6))), (0, .ref b), (1, .ref (h 0)), (2, .ref (hm 0))]) hx hb d_Law_law_567 hl (k := 3) rfl (nI_6 i) (by decide) rfl (fun ls hl => ?_)
  refine lv_goto (tgt := 18) hx hb d_Law_law_570 (by decide) ?_
  exact ih wa' wm' _ _ ls hI' hW (lv_sub hl [1, 2, 3, 0] rfl)
theorem kb_Top_score : Cond.code y_Top_score b_Top_score 3 (some .long) ∈ TBL := TBL_t (List.mem_append_right _ (List.mem_append_left _ (List.mem_of_getElem? (i := 140) rfl))) rfl
theorem km_Law_51 : Cond.methodLink "ContestRowsLaw" 51 y_Top_score ∈ TBL := TBL_t (List.mem_append_right _ (List.mem_append_left _ (List.mem_of_getElem? (i := 137) rfl))) rfl
theorem cw_Law_51 : Cw "ContestRowsLaw" 51 y_Top_score b_Top_score 3 (some .long) 2 := ⟨kb_Top_score, kn_Top, km_Law_51, by decide +kernel⟩
theorem ki_Top_score : Cond.instanceMethod y_Top_score ∈ TBL := TBL_t (List.mem_append_right _ (List.mem_append_left _ (List.mem_of_getElem? (i := 138) rfl))) rfl
theorem ks_Top_score : Cond.selects "ContestRows" y_Top_score y_Top_score ∈ TBL := TBL_t (List.mem_append_right _ (List.mem_append_left _ (List.mem_of_getElem? (i := 139) rfl))) rfl
theorem kb_Model_score : Cond.code y_Model_score b_Model_score 5 (some .long) ∈ TBL := TBL_t (List.mem_append_right _ (List.mem_append_right _ (List.mem_of_getElem? (i := 155) rfl))) rfl
theorem km_Law_55 : Cond.methodLink "ContestRowsLaw" 55 y_Model_score ∈ TBL := TBL_t (List.mem_append_right _ (List.mem_append_right _ (List.mem_of_getElem? (i := 152) rfl))) rfl
theorem cw_Law_55 : Cw "ContestRowsLaw" 55 y_Model_score b_Model_score 5 (some .long) 2 := ⟨kb_Model_score, kn_Model, km_Law_55, by decide +kernel⟩
theorem ki_Model_score : Cond.instanceMethod y_Model_score ∈ TBL := TBL_t (List.mem_append_right _ (List.mem_append_right _ (List.mem_of_getElem? (i := 153) rfl))) rfl
theorem ks_Model_score : Cond.selects "ContestRowsModel" y_Model_score y_Model_score ∈ TBL := TBL_t (List.mem_append_right _ (List.mem_append_right _ (List.mem_of_getElem? (i := 154) rfl))) rfl
set_option maxHeartbeats 4000000 in
set_option maxRecDepth 100000 in
theorem law_score {p : Program} {l : Launch} {e : Env} {s : State} {m : MethodId} {below : List Frame} {meth : Method} {c : Code} {G : va_G} {cI cZ cJ : ClassId} {h hm : Nat → Nat} {b L : Nat} {xs : Nat → Int32} (hL : L ≤ 3072) (X : Fx p m c code 4 s #[Value.ref b] "ContestRowsLaw" G (tyL cI cZ cJ) (fun q : Nat => s.heap.size ≤ q)) (hX : va_X b L xs s s.heap) (hbl : b < s.heap.size) {i : Nat} (hi : i + 6 ≤ L) (ih : ∀ (wa wm : va_W) (H : Heap) (locs : List Loc) (ls : Array Slot), InvW h hm cI cZ cJ wa wm → Wr G (fun q : Nat => s.heap.size ≤ q) s.heap (wa ++ wm) H locs → lv_has ls 4 [(0, .ref b), (1, .ref (h 0)), (2, .ref (hm 0)), (3, .int (nI (i + 6)))] → W p l e room_1 s m #[Value.ref b] below meth c H locs 45 6900 (lw_Z below #[Value.ref b] s) (F0 m 18 ls [])) (wa wm : va_W) (H : Heap) (locs : List Loc) (ls : Array Slot) (hI : InvW h hm cI cZ cJ wa wm) (hW : Wr G (fun q : Nat => s.heap.size ≤ q) s.heap (wa ++ wm) H locs) (hl : lv_has ls 4 [(0, .ref b), (1, .ref (h 0)), (2, .ref (hm 0)), (3, .int (nI i))]) : W p l e room_1 s m #[Value.ref b] below meth c H locs 45 6900 (lw_Z below #[Value.ref b] s) (F0 m 364 ls []) := by
  have hx := X.1.1
  have hb := X.1.2.1
  have hbA : ¬ (fun q : Nat => s.heap.size ≤ q) b := Nat.not_le.mpr hbl
  obtain ⟨f1, f2, ⟨fsA, f3⟩, ⟨fsM, f4⟩, f5, f6⟩ := hI.facts
  refine lv_aload_n hx hb d_Law_law_364 rfl (lv_at hl 1 rfl) ?_
  refine lv_aload_n hx hb d_Law_law_365 rfl (lv_at hl 0 rfl) ?_
  refine lv_iload_n hx hb d_Law_law_366 rfl (lv_at hl 3 rfl) ?_
  refine lv_iconst (v := (nI 1)) hx hb d_Law_law_367 (by decide +kernel) ?_
  refine N_iadd hx hb d_Law_law_368 ?_
  refine R_sld hx hb hX hbl hbA hW.2.2 (k := i + 1) (by omega) (by omega) d_Law_law_369 ?_
  refine lv_aload_n hx hb d_Law_law_370 rfl (lv_at hl 0 rfl) ?_
  refine lv_iload_n hx hb d_Law_law_371 rfl (lv_at hl 3 rfl) ?_
  refine lv_iconst (v := (nI 2)) hx hb d_Law_law_372 (by decide +kernel) ?_
  refine N_iadd hx hb d_Law_law_373 ?_
  refine R_sld hx hb hX hbl hbA hW.2.2 (k := i + 2) (by omega) (by omega) d_Law_law_374 ?_
  obtain ⟨d1, d2, r, wa', wm', hd1, hd2, hI', hA', hM'⟩ := case_score l G cI cZ cJ h hm hI (xs (i + 1)) (xs (i + 2))
  obtain ⟨g1, g2, -⟩ := hI'.facts
  clear hI
  refine R_callA (st1 := .long r :: []) hA' X hW cw_Law_51 ki_Top_score ks_Top_score rfl f3 ⟨by show d1 + 1 ≤ 11; omega, by show 8 + (3 + 11) + 44 * d1 ≤ 414; omega⟩ ⟨Nat.le_of_ble_eq_true rfl, Nat.le_of_ble_eq_true rfl⟩ f5 (by rw [g1, f1]) hl.1 rfl rfl (Nat.le_of_ble_eq_true rfl) d_Law_law_375 rfl (fun H locs hW => ?_)
  refine lv_aload_n hx hb d_Law_law_378 rfl (lv_at hl 2 rfl) ?_
  refine lv_aload_n hx hb d_Law_law_379 rfl (lv_at hl 0 rfl) ?_
  refine lv_iload_n hx hb d_Law_law_380 rfl (lv_at hl 3 rfl) ?_
  refine lv_iconst (v := (nI 1)) hx hb d_Law_law_381 (by decide +kernel) ?_
  refine N_iadd hx hb d_Law_law_382 ?_
  refine R_sld hx hb hX hbl hbA hW.2.2 (k := i + 1) (by omega) (by omega) d_Law_law_383 ?_
  refine lv_aload_n hx hb d_Law_law_384 rfl (lv_at hl 0 rfl) ?_
  refine lv_iload_n hx hb d_Law_law_385 rfl (lv_at hl 3 rfl) ?_
  refine lv_iconst (v := (nI 2)) hx hb d_Law_law_386 (by decide +kernel) ?_
  refine N_iadd hx hb d_Law_law_387 ?_
  refine R_sld hx hb hX hbl hbA hW.2.2 (k := i + 2) (by omega) (by omega) d_Law_law_388 ?_
  refine R_callB (st1 := .long r :: .long r :: []) hM' X hW cw_Law_55 ki_Model_score ks_Model_score rfl f4 ⟨by show d2 + 1 ≤ 11; omega, by show 8 + (5 + 11) + 44 * d2 ≤ 414; omega⟩ ⟨Nat.le_of_ble_eq_true rfl, Nat.le_of_ble_eq_true rfl⟩ (by have := congrArg List.length g1; simpa using this) f6 (by rw [g2, f2]) hl.1 rfl rfl (Nat.le_of_ble_eq_true rfl) d_Law_law_389 rfl (fun H locs hW => ?_)
  refine W.lcmp hx hb d_Law_law_392 ?_
  rw [lg_self]
  refine lv_if_eq (tgt := 567) hx hb d_Law_law_393 (by decide) (fun _ => ?_) (fun cq => absurd rfl cq)
  refine lv_iinc (v := nI (i + 6)) (lv' := [(3, .int (nI (i + 6))), (0, .ref b), (1, .ref (h 0)), (2, .ref (hm 0))]) hx hb d_Law_law_567 hl (k := 3) rfl (nI_6 i) (by decide) rfl (fun ls hl => ?_)
  refine lv_goto (tgt := 18) hx hb d_Law_law_570 (by decide) ?_
  exact ih wa' wm' _ _ ls hI' hW (lv_sub hl [1, 2, 3, 0] rfl)
theorem kb_Top_points : Cond.code y_Top_points b_Top_points 3 (some .long) ∈ TBL := TBL_t (List.mem_append_right _ (List.mem_append_left _ (List.mem_of_getElem? (i := 184) rfl))) rfl
theorem km_Law_56 : Cond.methodLink "ContestRowsLaw" 56 y_Top_points ∈ TBL := TBL_t (List.mem_append_right _ (List.mem_append_left _ (List.mem_of_getElem? (i := 181) rfl))) rfl
theorem cw_Law_56 : Cw "ContestRowsLaw" 56 y_Top_points b_Top_points 3 (some .long) 2 := ⟨kb_Top_points, kn_Top, km_Law_56, by decide +kernel⟩
theorem ki_Top_points : Cond.instanceMethod y_Top_points ∈ TBL := TBL_t (List.mem_append_right _ (List.mem_append_left _ (List.mem_of_getElem? (i := 182) rfl))) rfl
theorem ks_Top_points : Cond.selects "ContestRows" y_Top_points y_Top_points ∈ TBL := TBL_t (List.mem_append_right _ (List.mem_append_left _ (List.mem_of_getElem? (i := 183) rfl))) rfl
theorem kb_Model_points : Cond.code y_Model_points b_Model_points 3 (some .long) ∈ TBL := TBL_t (List.mem_append_right _ (List.mem_append_right _ (List.mem_of_getElem? (i := 192) rfl))) rfl
theorem km_Law_59 : Cond.methodLink "ContestRowsLaw" 59 y_Model_points ∈ TBL := TBL_t (List.mem_append_right _ (List.mem_append_right _ (List.mem_of_getElem? (i := 189) rfl))) rfl
theorem cw_Law_59 : Cw "ContestRowsLaw" 59 y_Model_points b_Model_points 3 (some .long) 2 := ⟨kb_Model_points, kn_Model, km_Law_59, by decide +kernel⟩
theorem ki_Model_points : Cond.instanceMethod y_Model_points ∈ TBL := TBL_t (List.mem_append_right _ (List.mem_append_right _ (List.mem_of_getElem? (i := 190) rfl))) rfl
theorem ks_Model_points : Cond.selects "ContestRowsModel" y_Model_points y_Model_points ∈ TBL := TBL_t (List.mem_append_right _ (List.mem_append_right _ (List.mem_of_getElem? (i := 191) rfl))) rfl
set_option maxHeartbeats 4000000 in
set_option maxRecDepth 100000 in
theorem law_points {p : Program} {l : Launch} {e : Env} {s : State} {m : MethodId} {below : List Frame} {meth : Method} {c : Code} {G : va_G} {cI cZ cJ : ClassId} {h hm : Nat → Nat} {b L : Nat} {xs : Nat → Int32} (hL : L ≤ 3072) (X : Fx p m c code 4 s #[Value.ref b] "ContestRowsLaw" G (tyL cI cZ cJ) (fun q : Nat => s.heap.size ≤ q)) (hX : va_X b L xs s s.heap) (hbl : b < s.heap.size) {i : Nat} (hi : i + 6 ≤ L) (ih : ∀ (wa wm : va_W) (H : Heap) (locs : List Loc) (ls : Array Slot), InvW h hm cI cZ cJ wa wm → Wr G (fun q : Nat => s.heap.size ≤ q) s.heap (wa ++ wm) H locs → lv_has ls 4 [(0, .ref b), (1, .ref (h 0)), (2, .ref (hm 0)), (3, .int (nI (i + 6)))] → W p l e room_1 s m #[Value.ref b] below meth c H locs 45 6900 (lw_Z below #[Value.ref b] s) (F0 m 18 ls [])) (wa wm : va_W) (H : Heap) (locs : List Loc) (ls : Array Slot) (hI : InvW h hm cI cZ cJ wa wm) (hW : Wr G (fun q : Nat => s.heap.size ≤ q) s.heap (wa ++ wm) H locs) (hl : lv_has ls 4 [(0, .ref b), (1, .ref (h 0)), (2, .ref (hm 0)), (3, .int (nI i))]) : W p l e room_1 s m #[Value.ref b] below meth c H locs 45 6900 (lw_Z below #[Value.ref b] s) (F0 m 398 ls []) := by
  have hx := X.1.1
  have hb := X.1.2.1
  have hbA : ¬ (fun q : Nat => s.heap.size ≤ q) b := Nat.not_le.mpr hbl
  obtain ⟨f1, f2, ⟨fsA, f3⟩, ⟨fsM, f4⟩, f5, f6⟩ := hI.facts
  refine lv_aload_n hx hb d_Law_law_398 rfl (lv_at hl 1 rfl) ?_
  refine lv_aload_n hx hb d_Law_law_399 rfl (lv_at hl 0 rfl) ?_
  refine lv_iload_n hx hb d_Law_law_400 rfl (lv_at hl 3 rfl) ?_
  refine lv_iconst (v := (nI 1)) hx hb d_Law_law_401 (by decide +kernel) ?_
  refine N_iadd hx hb d_Law_law_402 ?_
  refine R_sld hx hb hX hbl hbA hW.2.2 (k := i + 1) (by omega) (by omega) d_Law_law_403 ?_
  refine lv_aload_n hx hb d_Law_law_404 rfl (lv_at hl 0 rfl) ?_
  refine lv_iload_n hx hb d_Law_law_405 rfl (lv_at hl 3 rfl) ?_
  refine lv_iconst (v := (nI 2)) hx hb d_Law_law_406 (by decide +kernel) ?_
  refine N_iadd hx hb d_Law_law_407 ?_
  refine R_sld hx hb hX hbl hbA hW.2.2 (k := i + 2) (by omega) (by omega) d_Law_law_408 ?_
  obtain ⟨d1, d2, r, wa', wm', hd1, hd2, hI', hA', hM'⟩ := case_points l G cI cZ cJ h hm hI (xs (i + 1)) (xs (i + 2))
  obtain ⟨g1, g2, -⟩ := hI'.facts
  clear hI
  refine R_callA (st1 := .long r :: []) hA' X hW cw_Law_56 ki_Top_points ks_Top_points rfl f3 ⟨by show d1 + 1 ≤ 11; omega, by show 8 + (3 + 11) + 44 * d1 ≤ 414; omega⟩ ⟨Nat.le_of_ble_eq_true rfl, Nat.le_of_ble_eq_true rfl⟩ f5 (by rw [g1, f1]) hl.1 rfl rfl (Nat.le_of_ble_eq_true rfl) d_Law_law_409 rfl (fun H locs hW => ?_)
  refine lv_aload_n hx hb d_Law_law_412 rfl (lv_at hl 2 rfl) ?_
  refine lv_aload_n hx hb d_Law_law_413 rfl (lv_at hl 0 rfl) ?_
  refine lv_iload_n hx hb d_Law_law_414 rfl (lv_at hl 3 rfl) ?_
  refine lv_iconst (v := (nI 1)) hx hb d_Law_law_415 (by decide +kernel) ?_
  refine N_iadd hx hb d_Law_law_416 ?_
  refine R_sld hx hb hX hbl hbA hW.2.2 (k := i + 1) (by omega) (by omega) d_Law_law_417 ?_
  refine lv_aload_n hx hb d_Law_law_418 rfl (lv_at hl 0 rfl) ?_
  refine lv_iload_n hx hb d_Law_law_419 rfl (lv_at hl 3 rfl) ?_
  refine lv_iconst (v := (nI 2)) hx hb d_Law_law_420 (by decide +kernel) ?_
  refine N_iadd hx hb d_Law_law_421 ?_
  refine R_sld hx hb hX hbl hbA hW.2.2 (k := i + 2) (by omega) (by omega) d_Law_law_422 ?_
  refine R_callB (st1 := .long r :: .long r :: []) hM' X hW cw_Law_59 ki_Model_points ks_Model_points rfl f4 ⟨by show d2 + 1 ≤ 11; omega, by show 8 + (3 + 11) + 44 * d2 ≤ 414; omega⟩ ⟨Nat.le_of_ble_eq_true rfl, Nat.le_of_ble_eq_true rfl⟩ (by have := congrArg List.length g1; simpa using this) f6 (by rw [g2, f2]) hl.1 rfl rfl (Nat.le_of_ble_eq_true rfl) d_Law_law_423 rfl (fun H locs hW => ?_)
  refine W.lcmp hx hb d_Law_law_426 ?_
  rw [lg_self]
  refine lv_if_eq (tgt := 567) hx hb d_Law_law_427 (by decide) (fun _ => ?_) (fun cq => absurd rfl cq)
  refine lv_iinc (v := nI (i + 6)) (lv' := [(3, .int (nI (i + 6))), (0, .ref b), (1, .ref (h 0)), (2, .ref (hm 0))]) hx hb d_Law_law_567 hl (k := 3) rfl (nI_6 i) (by decide) rfl (fun ls hl => ?_)
  refine lv_goto (tgt := 18) hx hb d_Law_law_570 (by decide) ?_
  exact ih wa' wm' _ _ ls hI' hW (lv_sub hl [1, 2, 3, 0] rfl)
theorem kb_Top_place : Cond.code y_Top_place b_Top_place 2 (some .int) ∈ TBL := TBL_t (List.mem_append_right _ (List.mem_append_left _ (List.mem_of_getElem? (i := 188) rfl))) rfl
theorem km_Law_60 : Cond.methodLink "ContestRowsLaw" 60 y_Top_place ∈ TBL := TBL_t (List.mem_append_right _ (List.mem_append_left _ (List.mem_of_getElem? (i := 185) rfl))) rfl
theorem cw_Law_60 : Cw "ContestRowsLaw" 60 y_Top_place b_Top_place 2 (some .int) 1 := ⟨kb_Top_place, kn_Top, km_Law_60, by decide +kernel⟩
theorem ki_Top_place : Cond.instanceMethod y_Top_place ∈ TBL := TBL_t (List.mem_append_right _ (List.mem_append_left _ (List.mem_of_getElem? (i := 186) rfl))) rfl
theorem ks_Top_place : Cond.selects "ContestRows" y_Top_place y_Top_place ∈ TBL := TBL_t (List.mem_append_right _ (List.mem_append_left _ (List.mem_of_getElem? (i := 187) rfl))) rfl
theorem kb_Model_place : Cond.code y_Model_place b_Model_place 5 (some .int) ∈ TBL := TBL_t (List.mem_append_right _ (List.mem_append_right _ (List.mem_of_getElem? (i := 196) rfl))) rfl
theorem km_Law_63 : Cond.methodLink "ContestRowsLaw" 63 y_Model_place ∈ TBL := TBL_t (List.mem_append_right _ (List.mem_append_right _ (List.mem_of_getElem? (i := 193) rfl))) rfl
theorem cw_Law_63 : Cw "ContestRowsLaw" 63 y_Model_place b_Model_place 5 (some .int) 1 := ⟨kb_Model_place, kn_Model, km_Law_63, by decide +kernel⟩
theorem ki_Model_place : Cond.instanceMethod y_Model_place ∈ TBL := TBL_t (List.mem_append_right _ (List.mem_append_right _ (List.mem_of_getElem? (i := 194) rfl))) rfl
theorem ks_Model_place : Cond.selects "ContestRowsModel" y_Model_place y_Model_place ∈ TBL := TBL_t (List.mem_append_right _ (List.mem_append_right _ (List.mem_of_getElem? (i := 195) rfl))) rfl
set_option maxHeartbeats 4000000 in
set_option maxRecDepth 100000 in
theorem law_place {p : Program} {l : Launch} {e : Env} {s : State} {m : MethodId} {below : List Frame} {meth : Method} {c : Code} {G : va_G} {cI cZ cJ : ClassId} {h hm : Nat → Nat} {b L : Nat} {xs : Nat → Int32} (hL : L ≤ 3072) (X : Fx p m c code 4 s #[Value.ref b] "ContestRowsLaw" G (tyL cI cZ cJ) (fun q : Nat => s.heap.size ≤ q)) (hX : va_X b L xs s s.heap) (hbl : b < s.heap.size) {i : Nat} (hi : i + 6 ≤ L) (ih : ∀ (wa wm : va_W) (H : Heap) (locs : List Loc) (ls : Array Slot), InvW h hm cI cZ cJ wa wm → Wr G (fun q : Nat => s.heap.size ≤ q) s.heap (wa ++ wm) H locs → lv_has ls 4 [(0, .ref b), (1, .ref (h 0)), (2, .ref (hm 0)), (3, .int (nI (i + 6)))] → W p l e room_1 s m #[Value.ref b] below meth c H locs 45 6900 (lw_Z below #[Value.ref b] s) (F0 m 18 ls [])) (wa wm : va_W) (H : Heap) (locs : List Loc) (ls : Array Slot) (hI : InvW h hm cI cZ cJ wa wm) (hW : Wr G (fun q : Nat => s.heap.size ≤ q) s.heap (wa ++ wm) H locs) (hl : lv_has ls 4 [(0, .ref b), (1, .ref (h 0)), (2, .ref (hm 0)), (3, .int (nI i))]) : W p l e room_1 s m #[Value.ref b] below meth c H locs 45 6900 (lw_Z below #[Value.ref b] s) (F0 m 432 ls []) := by
  have hx := X.1.1
  have hb := X.1.2.1
  have hbA : ¬ (fun q : Nat => s.heap.size ≤ q) b := Nat.not_le.mpr hbl
  obtain ⟨f1, f2, ⟨fsA, f3⟩, ⟨fsM, f4⟩, f5, f6⟩ := hI.facts
  refine lv_aload_n hx hb d_Law_law_432 rfl (lv_at hl 1 rfl) ?_
  refine lv_aload_n hx hb d_Law_law_433 rfl (lv_at hl 0 rfl) ?_
  refine lv_iload_n hx hb d_Law_law_434 rfl (lv_at hl 3 rfl) ?_
  refine lv_iconst (v := (nI 1)) hx hb d_Law_law_435 (by decide +kernel) ?_
  refine N_iadd hx hb d_Law_law_436 ?_
  refine R_sld hx hb hX hbl hbA hW.2.2 (k := i + 1) (by omega) (by omega) d_Law_law_437 ?_
  obtain ⟨d1, d2, r, wa', wm', hd1, hd2, hI', hA', hM'⟩ := case_place l G cI cZ cJ h hm hI (xs (i + 1))
  obtain ⟨g1, g2, -⟩ := hI'.facts
  clear hI
  refine R_callA (st1 := .int r :: []) hA' X hW cw_Law_60 ki_Top_place ks_Top_place rfl f3 ⟨by show d1 + 1 ≤ 11; omega, by show 8 + (2 + 11) + 44 * d1 ≤ 414; omega⟩ ⟨Nat.le_of_ble_eq_true rfl, Nat.le_of_ble_eq_true rfl⟩ f5 (by rw [g1, f1]) hl.1 rfl rfl (Nat.le_of_ble_eq_true rfl) d_Law_law_438 rfl (fun H locs hW => ?_)
  refine lv_aload_n hx hb d_Law_law_441 rfl (lv_at hl 2 rfl) ?_
  refine lv_aload_n hx hb d_Law_law_442 rfl (lv_at hl 0 rfl) ?_
  refine lv_iload_n hx hb d_Law_law_443 rfl (lv_at hl 3 rfl) ?_
  refine lv_iconst (v := (nI 1)) hx hb d_Law_law_444 (by decide +kernel) ?_
  refine N_iadd hx hb d_Law_law_445 ?_
  refine R_sld hx hb hX hbl hbA hW.2.2 (k := i + 1) (by omega) (by omega) d_Law_law_446 ?_
  refine R_callB (st1 := .int r :: .int r :: []) hM' X hW cw_Law_63 ki_Model_place ks_Model_place rfl f4 ⟨by show d2 + 1 ≤ 11; omega, by show 8 + (5 + 11) + 44 * d2 ≤ 414; omega⟩ ⟨Nat.le_of_ble_eq_true rfl, Nat.le_of_ble_eq_true rfl⟩ (by have := congrArg List.length g1; simpa using this) f6 (by rw [g2, f2]) hl.1 rfl rfl (Nat.le_of_ble_eq_true rfl) d_Law_law_447 rfl (fun H locs hW => ?_)
  refine lv_icmp_eq (tgt := 567) hx hb d_Law_law_450 (by decide) (fun _ => ?_) (fun cq => absurd rfl cq)
  refine lv_iinc (v := nI (i + 6)) (lv' := [(3, .int (nI (i + 6))), (0, .ref b), (1, .ref (h 0)), (2, .ref (hm 0))]) hx hb d_Law_law_567 hl (k := 3) rfl (nI_6 i) (by decide) rfl (fun ls hl => ?_)
  refine lv_goto (tgt := 18) hx hb d_Law_law_570 (by decide) ?_
  exact ih wa' wm' _ _ ls hI' hW (lv_sub hl [1, 2, 3, 0] rfl)
theorem kb_Top_shared : Cond.code y_Top_shared b_Top_shared 3 (some .boolean) ∈ TBL := TBL_t (List.mem_append_right _ (List.mem_append_left _ (List.mem_of_getElem? (i := 205) rfl))) rfl
theorem km_Law_64 : Cond.methodLink "ContestRowsLaw" 64 y_Top_shared ∈ TBL := TBL_t (List.mem_append_right _ (List.mem_append_left _ (List.mem_of_getElem? (i := 202) rfl))) rfl
theorem cw_Law_64 : Cw "ContestRowsLaw" 64 y_Top_shared b_Top_shared 3 (some .boolean) 2 := ⟨kb_Top_shared, kn_Top, km_Law_64, by decide +kernel⟩
theorem ki_Top_shared : Cond.instanceMethod y_Top_shared ∈ TBL := TBL_t (List.mem_append_right _ (List.mem_append_left _ (List.mem_of_getElem? (i := 203) rfl))) rfl
theorem ks_Top_shared : Cond.selects "ContestRows" y_Top_shared y_Top_shared ∈ TBL := TBL_t (List.mem_append_right _ (List.mem_append_left _ (List.mem_of_getElem? (i := 204) rfl))) rfl
theorem kb_Model_shared : Cond.code y_Model_shared b_Model_shared 3 (some .boolean) ∈ TBL := TBL_t (List.mem_append_right _ (List.mem_append_right _ (List.mem_of_getElem? (i := 204) rfl))) rfl
theorem km_Law_67 : Cond.methodLink "ContestRowsLaw" 67 y_Model_shared ∈ TBL := TBL_t (List.mem_append_right _ (List.mem_append_right _ (List.mem_of_getElem? (i := 201) rfl))) rfl
theorem cw_Law_67 : Cw "ContestRowsLaw" 67 y_Model_shared b_Model_shared 3 (some .boolean) 2 := ⟨kb_Model_shared, kn_Model, km_Law_67, by decide +kernel⟩
theorem ki_Model_shared : Cond.instanceMethod y_Model_shared ∈ TBL := TBL_t (List.mem_append_right _ (List.mem_append_right _ (List.mem_of_getElem? (i := 202) rfl))) rfl
theorem ks_Model_shared : Cond.selects "ContestRowsModel" y_Model_shared y_Model_shared ∈ TBL := TBL_t (List.mem_append_right _ (List.mem_append_right _ (List.mem_of_getElem? (i := 203) rfl))) rfl
set_option maxHeartbeats 4000000 in
set_option maxRecDepth 100000 in
theorem law_shared {p : Program} {l : Launch} {e : Env} {s : State} {m : MethodId} {below : List Frame} {meth : Method} {c : Code} {G : va_G} {cI cZ cJ : ClassId} {h hm : Nat → Nat} {b L : Nat} {xs : Nat → Int32} (hL : L ≤ 3072) (X : Fx p m c code 4 s #[Value.ref b] "ContestRowsLaw" G (tyL cI cZ cJ) (fun q : Nat => s.heap.size ≤ q)) (hX : va_X b L xs s s.heap) (hbl : b < s.heap.size) {i : Nat} (hi : i + 6 ≤ L) (ih : ∀ (wa wm : va_W) (H : Heap) (locs : List Loc) (ls : Array Slot), InvW h hm cI cZ cJ wa wm → Wr G (fun q : Nat => s.heap.size ≤ q) s.heap (wa ++ wm) H locs → lv_has ls 4 [(0, .ref b), (1, .ref (h 0)), (2, .ref (hm 0)), (3, .int (nI (i + 6)))] → W p l e room_1 s m #[Value.ref b] below meth c H locs 45 6900 (lw_Z below #[Value.ref b] s) (F0 m 18 ls [])) (wa wm : va_W) (H : Heap) (locs : List Loc) (ls : Array Slot) (hI : InvW h hm cI cZ cJ wa wm) (hW : Wr G (fun q : Nat => s.heap.size ≤ q) s.heap (wa ++ wm) H locs) (hl : lv_has ls 4 [(0, .ref b), (1, .ref (h 0)), (2, .ref (hm 0)), (3, .int (nI i))]) : W p l e room_1 s m #[Value.ref b] below meth c H locs 45 6900 (lw_Z below #[Value.ref b] s) (F0 m 455 ls []) := by
  have hx := X.1.1
  have hb := X.1.2.1
  have hbA : ¬ (fun q : Nat => s.heap.size ≤ q) b := Nat.not_le.mpr hbl
  obtain ⟨f1, f2, ⟨fsA, f3⟩, ⟨fsM, f4⟩, f5, f6⟩ := hI.facts
  refine lv_aload_n hx hb d_Law_law_455 rfl (lv_at hl 1 rfl) ?_
  refine lv_aload_n hx hb d_Law_law_456 rfl (lv_at hl 0 rfl) ?_
  refine lv_iload_n hx hb d_Law_law_457 rfl (lv_at hl 3 rfl) ?_
  refine lv_iconst (v := (nI 1)) hx hb d_Law_law_458 (by decide +kernel) ?_
  refine N_iadd hx hb d_Law_law_459 ?_
  refine R_sld hx hb hX hbl hbA hW.2.2 (k := i + 1) (by omega) (by omega) d_Law_law_460 ?_
  refine lv_aload_n hx hb d_Law_law_461 rfl (lv_at hl 0 rfl) ?_
  refine lv_iload_n hx hb d_Law_law_462 rfl (lv_at hl 3 rfl) ?_
  refine lv_iconst (v := (nI 2)) hx hb d_Law_law_463 (by decide +kernel) ?_
  refine N_iadd hx hb d_Law_law_464 ?_
  refine R_sld hx hb hX hbl hbA hW.2.2 (k := i + 2) (by omega) (by omega) d_Law_law_465 ?_
  obtain ⟨d1, d2, r, wa', wm', hd1, hd2, hI', hA', hM'⟩ := case_shared l G cI cZ cJ h hm hI (xs (i + 1)) (xs (i + 2))
  obtain ⟨g1, g2, -⟩ := hI'.facts
  clear hI
  refine R_callA (st1 := .int (bI r) :: []) hA' X hW cw_Law_64 ki_Top_shared ks_Top_shared rfl f3 ⟨by show d1 + 1 ≤ 11; omega, by show 8 + (3 + 11) + 44 * d1 ≤ 414; omega⟩ ⟨Nat.le_of_ble_eq_true rfl, Nat.le_of_ble_eq_true rfl⟩ f5 (by rw [g1, f1]) hl.1 rfl rfl (Nat.le_of_ble_eq_true rfl) d_Law_law_466 rfl (fun H locs hW => ?_)
  refine lv_aload_n hx hb d_Law_law_469 rfl (lv_at hl 2 rfl) ?_
  refine lv_aload_n hx hb d_Law_law_470 rfl (lv_at hl 0 rfl) ?_
  refine lv_iload_n hx hb d_Law_law_471 rfl (lv_at hl 3 rfl) ?_
  refine lv_iconst (v := (nI 1)) hx hb d_Law_law_472 (by decide +kernel) ?_
  refine N_iadd hx hb d_Law_law_473 ?_
  refine R_sld hx hb hX hbl hbA hW.2.2 (k := i + 1) (by omega) (by omega) d_Law_law_474 ?_
  refine lv_aload_n hx hb d_Law_law_475 rfl (lv_at hl 0 rfl) ?_
  refine lv_iload_n hx hb d_Law_law_476 rfl (lv_at hl 3 rfl) ?_
  refine lv_iconst (v := (nI 2)) hx hb d_Law_law_477 (by decide +kernel) ?_
  refine N_iadd hx hb d_Law_law_478 ?_
  refine R_sld hx hb hX hbl hbA hW.2.2 (k := i + 2) (by omega) (by omega) d_Law_law_479 ?_
  refine R_callB (st1 := .int (bI r) :: .int (bI r) :: []) hM' X hW cw_Law_67 ki_Model_shared ks_Model_shared rfl f4 ⟨by show d2 + 1 ≤ 11; omega, by show 8 + (3 + 11) + 44 * d2 ≤ 414; omega⟩ ⟨Nat.le_of_ble_eq_true rfl, Nat.le_of_ble_eq_true rfl⟩ (by have := congrArg List.length g1; simpa using this) f6 (by rw [g2, f2]) hl.1 rfl rfl (Nat.le_of_ble_eq_true rfl) d_Law_law_480 rfl (fun H locs hW => ?_)
  refine lv_icmp_eq (tgt := 567) hx hb d_Law_law_483 (by decide) (fun _ => ?_) (fun cq => absurd rfl cq)
  refine lv_iinc (v := nI (i + 6)) (lv' := [(3, .int (nI (i + 6))), (0, .ref b), (1, .ref (h 0)), (2, .ref (hm 0))]) hx hb d_Law_law_567 hl (k := 3) rfl (nI_6 i) (by decide) rfl (fun ls hl => ?_)
  refine lv_goto (tgt := 18) hx hb d_Law_law_570 (by decide) ?_
  exact ih wa' wm' _ _ ls hI' hW (lv_sub hl [1, 2, 3, 0] rfl)
theorem kb_Top_suspicious : Cond.code y_Top_suspicious b_Top_suspicious 6 (some .int) ∈ TBL := TBL_t (List.mem_append_right _ (List.mem_append_left _ (List.mem_of_getElem? (i := 210) rfl))) rfl
theorem km_Law_68 : Cond.methodLink "ContestRowsLaw" 68 y_Top_suspicious ∈ TBL := TBL_t (List.mem_append_right _ (List.mem_append_left _ (List.mem_of_getElem? (i := 207) rfl))) rfl
theorem cw_Law_68 : Cw "ContestRowsLaw" 68 y_Top_suspicious b_Top_suspicious 6 (some .int) 2 := ⟨kb_Top_suspicious, kn_Top, km_Law_68, by decide +kernel⟩
theorem ki_Top_suspicious : Cond.instanceMethod y_Top_suspicious ∈ TBL := TBL_t (List.mem_append_right _ (List.mem_append_left _ (List.mem_of_getElem? (i := 208) rfl))) rfl
theorem ks_Top_suspicious : Cond.selects "ContestRows" y_Top_suspicious y_Top_suspicious ∈ TBL := TBL_t (List.mem_append_right _ (List.mem_append_left _ (List.mem_of_getElem? (i := 209) rfl))) rfl
theorem kb_Model_suspicious : Cond.code y_Model_suspicious b_Model_suspicious 8 (some .int) ∈ TBL := TBL_t (List.mem_append_right _ (List.mem_append_right _ (List.mem_of_getElem? (i := 208) rfl))) rfl
theorem km_Law_72 : Cond.methodLink "ContestRowsLaw" 72 y_Model_suspicious ∈ TBL := TBL_t (List.mem_append_right _ (List.mem_append_right _ (List.mem_of_getElem? (i := 205) rfl))) rfl
theorem cw_Law_72 : Cw "ContestRowsLaw" 72 y_Model_suspicious b_Model_suspicious 8 (some .int) 2 := ⟨kb_Model_suspicious, kn_Model, km_Law_72, by decide +kernel⟩
theorem ki_Model_suspicious : Cond.instanceMethod y_Model_suspicious ∈ TBL := TBL_t (List.mem_append_right _ (List.mem_append_right _ (List.mem_of_getElem? (i := 206) rfl))) rfl
theorem ks_Model_suspicious : Cond.selects "ContestRowsModel" y_Model_suspicious y_Model_suspicious ∈ TBL := TBL_t (List.mem_append_right _ (List.mem_append_right _ (List.mem_of_getElem? (i := 207) rfl))) rfl
set_option maxHeartbeats 4000000 in
set_option maxRecDepth 100000 in
theorem law_suspicious {p : Program} {l : Launch} {e : Env} {s : State} {m : MethodId} {below : List Frame} {meth : Method} {c : Code} {G : va_G} {cI cZ cJ : ClassId} {h hm : Nat → Nat} {b L : Nat} {xs : Nat → Int32} (hL : L ≤ 3072) (X : Fx p m c code 4 s #[Value.ref b] "ContestRowsLaw" G (tyL cI cZ cJ) (fun q : Nat => s.heap.size ≤ q)) (hX : va_X b L xs s s.heap) (hbl : b < s.heap.size) {i : Nat} (hi : i + 6 ≤ L) (ih : ∀ (wa wm : va_W) (H : Heap) (locs : List Loc) (ls : Array Slot), InvW h hm cI cZ cJ wa wm → Wr G (fun q : Nat => s.heap.size ≤ q) s.heap (wa ++ wm) H locs → lv_has ls 4 [(0, .ref b), (1, .ref (h 0)), (2, .ref (hm 0)), (3, .int (nI (i + 6)))] → W p l e room_1 s m #[Value.ref b] below meth c H locs 45 6900 (lw_Z below #[Value.ref b] s) (F0 m 18 ls [])) (wa wm : va_W) (H : Heap) (locs : List Loc) (ls : Array Slot) (hI : InvW h hm cI cZ cJ wa wm) (hW : Wr G (fun q : Nat => s.heap.size ≤ q) s.heap (wa ++ wm) H locs) (hl : lv_has ls 4 [(0, .ref b), (1, .ref (h 0)), (2, .ref (hm 0)), (3, .int (nI i))]) : W p l e room_1 s m #[Value.ref b] below meth c H locs 45 6900 (lw_Z below #[Value.ref b] s) (F0 m 488 ls []) := by
  have hx := X.1.1
  have hb := X.1.2.1
  have hbA : ¬ (fun q : Nat => s.heap.size ≤ q) b := Nat.not_le.mpr hbl
  obtain ⟨f1, f2, ⟨fsA, f3⟩, ⟨fsM, f4⟩, f5, f6⟩ := hI.facts
  refine lv_aload_n hx hb d_Law_law_488 rfl (lv_at hl 1 rfl) ?_
  refine lv_aload_n hx hb d_Law_law_489 rfl (lv_at hl 0 rfl) ?_
  refine lv_iload_n hx hb d_Law_law_490 rfl (lv_at hl 3 rfl) ?_
  refine lv_iconst (v := (nI 1)) hx hb d_Law_law_491 (by decide +kernel) ?_
  refine N_iadd hx hb d_Law_law_492 ?_
  refine R_sld hx hb hX hbl hbA hW.2.2 (k := i + 1) (by omega) (by omega) d_Law_law_493 ?_
  refine lv_aload_n hx hb d_Law_law_494 rfl (lv_at hl 0 rfl) ?_
  refine lv_iload_n hx hb d_Law_law_495 rfl (lv_at hl 3 rfl) ?_
  refine lv_iconst (v := (nI 2)) hx hb d_Law_law_496 (by decide +kernel) ?_
  refine N_iadd hx hb d_Law_law_497 ?_
  refine R_sld hx hb hX hbl hbA hW.2.2 (k := i + 2) (by omega) (by omega) d_Law_law_498 ?_
  obtain ⟨d1, d2, r, wa', wm', hd1, hd2, hI', hA', hM'⟩ := case_suspicious l G cI cZ cJ h hm hI (xs (i + 1)) (xs (i + 2))
  obtain ⟨g1, g2, -⟩ := hI'.facts
  clear hI
  refine R_callA (st1 := .int r :: []) hA' X hW cw_Law_68 ki_Top_suspicious ks_Top_suspicious rfl f3 ⟨by show d1 + 1 ≤ 11; omega, by show 8 + (6 + 11) + 44 * d1 ≤ 414; omega⟩ ⟨Nat.le_of_ble_eq_true rfl, Nat.le_of_ble_eq_true rfl⟩ f5 (by rw [g1, f1]) hl.1 rfl rfl (Nat.le_of_ble_eq_true rfl) d_Law_law_499 rfl (fun H locs hW => ?_)
  refine lv_aload_n hx hb d_Law_law_502 rfl (lv_at hl 2 rfl) ?_
  refine lv_aload_n hx hb d_Law_law_503 rfl (lv_at hl 0 rfl) ?_
  refine lv_iload_n hx hb d_Law_law_504 rfl (lv_at hl 3 rfl) ?_
  refine lv_iconst (v := (nI 1)) hx hb d_Law_law_505 (by decide +kernel) ?_
  refine N_iadd hx hb d_Law_law_506 ?_
  refine R_sld hx hb hX hbl hbA hW.2.2 (k := i + 1) (by omega) (by omega) d_Law_law_507 ?_
  refine lv_aload_n hx hb d_Law_law_508 rfl (lv_at hl 0 rfl) ?_
  refine lv_iload_n hx hb d_Law_law_509 rfl (lv_at hl 3 rfl) ?_
  refine lv_iconst (v := (nI 2)) hx hb d_Law_law_510 (by decide +kernel) ?_
  refine N_iadd hx hb d_Law_law_511 ?_
  refine R_sld hx hb hX hbl hbA hW.2.2 (k := i + 2) (by omega) (by omega) d_Law_law_512 ?_
  refine R_callB (st1 := .int r :: .int r :: []) hM' X hW cw_Law_72 ki_Model_suspicious ks_Model_suspicious rfl f4 ⟨by show d2 + 1 ≤ 11; omega, by show 8 + (8 + 11) + 44 * d2 ≤ 414; omega⟩ ⟨Nat.le_of_ble_eq_true rfl, Nat.le_of_ble_eq_true rfl⟩ (by have := congrArg List.length g1; simpa using this) f6 (by rw [g2, f2]) hl.1 rfl rfl (Nat.le_of_ble_eq_true rfl) d_Law_law_513 rfl (fun H locs hW => ?_)
  refine lv_icmp_eq (tgt := 567) hx hb d_Law_law_516 (by decide) (fun _ => ?_) (fun cq => absurd rfl cq)
  refine lv_iinc (v := nI (i + 6)) (lv' := [(3, .int (nI (i + 6))), (0, .ref b), (1, .ref (h 0)), (2, .ref (hm 0))]) hx hb d_Law_law_567 hl (k := 3) rfl (nI_6 i) (by decide) rfl (fun ls hl => ?_)
  refine lv_goto (tgt := 18) hx hb d_Law_law_570 (by decide) ?_
  exact ih wa' wm' _ _ ls hI' hW (lv_sub hl [1, 2, 3, 0] rfl)
theorem kb_Top_even : Cond.code y_Top_even b_Top_even 3 (some .int) ∈ TBL := TBL_t (List.mem_append_right _ (List.mem_append_left _ (List.mem_of_getElem? (i := 234) rfl))) rfl
theorem km_Law_73 : Cond.methodLink "ContestRowsLaw" 73 y_Top_even ∈ TBL := TBL_t (List.mem_append_right _ (List.mem_append_left _ (List.mem_of_getElem? (i := 231) rfl))) rfl
theorem cw_Law_73 : Cw "ContestRowsLaw" 73 y_Top_even b_Top_even 3 (some .int) 2 := ⟨kb_Top_even, kn_Top, km_Law_73, by decide +kernel⟩
theorem ki_Top_even : Cond.instanceMethod y_Top_even ∈ TBL := TBL_t (List.mem_append_right _ (List.mem_append_left _ (List.mem_of_getElem? (i := 232) rfl))) rfl
theorem ks_Top_even : Cond.selects "ContestRows" y_Top_even y_Top_even ∈ TBL := TBL_t (List.mem_append_right _ (List.mem_append_left _ (List.mem_of_getElem? (i := 233) rfl))) rfl
theorem kb_Model_even : Cond.code y_Model_even b_Model_even 6 (some .int) ∈ TBL := TBL_t (List.mem_append_right _ (List.mem_append_right _ (List.mem_of_getElem? (i := 220) rfl))) rfl
theorem km_Law_76 : Cond.methodLink "ContestRowsLaw" 76 y_Model_even ∈ TBL := TBL_t (List.mem_append_right _ (List.mem_append_right _ (List.mem_of_getElem? (i := 217) rfl))) rfl
theorem cw_Law_76 : Cw "ContestRowsLaw" 76 y_Model_even b_Model_even 6 (some .int) 2 := ⟨kb_Model_even, kn_Model, km_Law_76, by decide +kernel⟩
theorem ki_Model_even : Cond.instanceMethod y_Model_even ∈ TBL := TBL_t (List.mem_append_right _ (List.mem_append_right _ (List.mem_of_getElem? (i := 218) rfl))) rfl
theorem ks_Model_even : Cond.selects "ContestRowsModel" y_Model_even y_Model_even ∈ TBL := TBL_t (List.mem_append_right _ (List.mem_append_right _ (List.mem_of_getElem? (i := 219) rfl))) rfl
set_option maxHeartbeats 4000000 in
set_option maxRecDepth 100000 in
theorem law_even {p : Program} {l : Launch} {e : Env} {s : State} {m : MethodId} {below : List Frame} {meth : Method} {c : Code} {G : va_G} {cI cZ cJ : ClassId} {h hm : Nat → Nat} {b L : Nat} {xs : Nat → Int32} (hL : L ≤ 3072) (X : Fx p m c code 4 s #[Value.ref b] "ContestRowsLaw" G (tyL cI cZ cJ) (fun q : Nat => s.heap.size ≤ q)) (hX : va_X b L xs s s.heap) (hbl : b < s.heap.size) {i : Nat} (hi : i + 6 ≤ L) (ih : ∀ (wa wm : va_W) (H : Heap) (locs : List Loc) (ls : Array Slot), InvW h hm cI cZ cJ wa wm → Wr G (fun q : Nat => s.heap.size ≤ q) s.heap (wa ++ wm) H locs → lv_has ls 4 [(0, .ref b), (1, .ref (h 0)), (2, .ref (hm 0)), (3, .int (nI (i + 6)))] → W p l e room_1 s m #[Value.ref b] below meth c H locs 45 6900 (lw_Z below #[Value.ref b] s) (F0 m 18 ls [])) (wa wm : va_W) (H : Heap) (locs : List Loc) (ls : Array Slot) (hI : InvW h hm cI cZ cJ wa wm) (hW : Wr G (fun q : Nat => s.heap.size ≤ q) s.heap (wa ++ wm) H locs) (hl : lv_has ls 4 [(0, .ref b), (1, .ref (h 0)), (2, .ref (hm 0)), (3, .int (nI i))]) : W p l e room_1 s m #[Value.ref b] below meth c H locs 45 6900 (lw_Z below #[Value.ref b] s) (F0 m 521 ls []) := by
  have hx := X.1.1
  have hb := X.1.2.1
  have hbA : ¬ (fun q : Nat => s.heap.size ≤ q) b := Nat.not_le.mpr hbl
  obtain ⟨f1, f2, ⟨fsA, f3⟩, ⟨fsM, f4⟩, f5, f6⟩ := hI.facts
  refine lv_aload_n hx hb d_Law_law_521 rfl (lv_at hl 1 rfl) ?_
  refine lv_aload_n hx hb d_Law_law_522 rfl (lv_at hl 0 rfl) ?_
  refine lv_iload_n hx hb d_Law_law_523 rfl (lv_at hl 3 rfl) ?_
  refine lv_iconst (v := (nI 1)) hx hb d_Law_law_524 (by decide +kernel) ?_
  refine N_iadd hx hb d_Law_law_525 ?_
  refine R_sld hx hb hX hbl hbA hW.2.2 (k := i + 1) (by omega) (by omega) d_Law_law_526 ?_
  refine lv_aload_n hx hb d_Law_law_527 rfl (lv_at hl 0 rfl) ?_
  refine lv_iload_n hx hb d_Law_law_528 rfl (lv_at hl 3 rfl) ?_
  refine lv_iconst (v := (nI 2)) hx hb d_Law_law_529 (by decide +kernel) ?_
  refine N_iadd hx hb d_Law_law_530 ?_
  refine R_sld hx hb hX hbl hbA hW.2.2 (k := i + 2) (by omega) (by omega) d_Law_law_531 ?_
  obtain ⟨d1, d2, r, wa', wm', hd1, hd2, hI', hA', hM'⟩ := case_even l G cI cZ cJ h hm hI (xs (i + 1)) (xs (i + 2))
  obtain ⟨g1, g2, -⟩ := hI'.facts
  clear hI
  refine R_callA (st1 := .int r :: []) hA' X hW cw_Law_73 ki_Top_even ks_Top_even rfl f3 ⟨by show d1 + 1 ≤ 11; omega, by show 8 + (3 + 11) + 44 * d1 ≤ 414; omega⟩ ⟨Nat.le_of_ble_eq_true rfl, Nat.le_of_ble_eq_true rfl⟩ f5 (by rw [g1, f1]) hl.1 rfl rfl (Nat.le_of_ble_eq_true rfl) d_Law_law_532 rfl (fun H locs hW => ?_)
  refine lv_aload_n hx hb d_Law_law_535 rfl (lv_at hl 2 rfl) ?_
  refine lv_aload_n hx hb d_Law_law_536 rfl (lv_at hl 0 rfl) ?_
  refine lv_iload_n hx hb d_Law_law_537 rfl (lv_at hl 3 rfl) ?_
  refine lv_iconst (v := (nI 1)) hx hb d_Law_law_538 (by decide +kernel) ?_
  refine N_iadd hx hb d_Law_law_539 ?_
  refine R_sld hx hb hX hbl hbA hW.2.2 (k := i + 1) (by omega) (by omega) d_Law_law_540 ?_
  refine lv_aload_n hx hb d_Law_law_541 rfl (lv_at hl 0 rfl) ?_
  refine lv_iload_n hx hb d_Law_law_542 rfl (lv_at hl 3 rfl) ?_
  refine lv_iconst (v := (nI 2)) hx hb d_Law_law_543 (by decide +kernel) ?_
  refine N_iadd hx hb d_Law_law_544 ?_
  refine R_sld hx hb hX hbl hbA hW.2.2 (k := i + 2) (by omega) (by omega) d_Law_law_545 ?_
  refine R_callB (st1 := .int r :: .int r :: []) hM' X hW cw_Law_76 ki_Model_even ks_Model_even rfl f4 ⟨by show d2 + 1 ≤ 11; omega, by show 8 + (6 + 11) + 44 * d2 ≤ 414; omega⟩ ⟨Nat.le_of_ble_eq_true rfl, Nat.le_of_ble_eq_true rfl⟩ (by have := congrArg List.length g1; simpa using this) f6 (by rw [g2, f2]) hl.1 rfl rfl (Nat.le_of_ble_eq_true rfl) d_Law_law_546 rfl (fun H locs hW => ?_)
  refine lv_icmp_eq (tgt := 567) hx hb d_Law_law_549 (by decide) (fun _ => ?_) (fun cq => absurd rfl cq)
  refine lv_iinc (v := nI (i + 6)) (lv' := [(3, .int (nI (i + 6))), (0, .ref b), (1, .ref (h 0)), (2, .ref (hm 0))]) hx hb d_Law_law_567 hl (k := 3) rfl (nI_6 i) (by decide) rfl (fun ls hl => ?_)
  refine lv_goto (tgt := 18) hx hb d_Law_law_570 (by decide) ?_
  exact ih wa' wm' _ _ ls hI' hW (lv_sub hl [1, 2, 3, 0] rfl)
theorem kb_Top_apart : Cond.code y_Top_apart b_Top_apart 1 (some .int) ∈ TBL := TBL_t (List.mem_append_right _ (List.mem_append_right _ (List.mem_of_getElem? (i := 6) rfl))) rfl
theorem km_Law_77 : Cond.methodLink "ContestRowsLaw" 77 y_Top_apart ∈ TBL := TBL_t (List.mem_append_right _ (List.mem_append_right _ (List.mem_of_getElem? (i := 3) rfl))) rfl
theorem cw_Law_77 : Cw "ContestRowsLaw" 77 y_Top_apart b_Top_apart 1 (some .int) 0 := ⟨kb_Top_apart, kn_Top, km_Law_77, by decide +kernel⟩
theorem ki_Top_apart : Cond.instanceMethod y_Top_apart ∈ TBL := TBL_t (List.mem_append_right _ (List.mem_append_right _ (List.mem_of_getElem? (i := 4) rfl))) rfl
theorem ks_Top_apart : Cond.selects "ContestRows" y_Top_apart y_Top_apart ∈ TBL := TBL_t (List.mem_append_right _ (List.mem_append_right _ (List.mem_of_getElem? (i := 5) rfl))) rfl
theorem kb_Model_apart : Cond.code y_Model_apart b_Model_apart 4 (some .int) ∈ TBL := TBL_t (List.mem_append_right _ (List.mem_append_right _ (List.mem_of_getElem? (i := 228) rfl))) rfl
theorem km_Law_80 : Cond.methodLink "ContestRowsLaw" 80 y_Model_apart ∈ TBL := TBL_t (List.mem_append_right _ (List.mem_append_right _ (List.mem_of_getElem? (i := 225) rfl))) rfl
theorem cw_Law_80 : Cw "ContestRowsLaw" 80 y_Model_apart b_Model_apart 4 (some .int) 0 := ⟨kb_Model_apart, kn_Model, km_Law_80, by decide +kernel⟩
theorem ki_Model_apart : Cond.instanceMethod y_Model_apart ∈ TBL := TBL_t (List.mem_append_right _ (List.mem_append_right _ (List.mem_of_getElem? (i := 226) rfl))) rfl
theorem ks_Model_apart : Cond.selects "ContestRowsModel" y_Model_apart y_Model_apart ∈ TBL := TBL_t (List.mem_append_right _ (List.mem_append_right _ (List.mem_of_getElem? (i := 227) rfl))) rfl
set_option maxHeartbeats 4000000 in
set_option maxRecDepth 100000 in
theorem law_apart {p : Program} {l : Launch} {e : Env} {s : State} {m : MethodId} {below : List Frame} {meth : Method} {c : Code} {G : va_G} {cI cZ cJ : ClassId} {h hm : Nat → Nat} {b L : Nat} {xs : Nat → Int32} (hL : L ≤ 3072) (X : Fx p m c code 4 s #[Value.ref b] "ContestRowsLaw" G (tyL cI cZ cJ) (fun q : Nat => s.heap.size ≤ q)) (hX : va_X b L xs s s.heap) (hbl : b < s.heap.size) {i : Nat} (hi : i + 6 ≤ L) (ih : ∀ (wa wm : va_W) (H : Heap) (locs : List Loc) (ls : Array Slot), InvW h hm cI cZ cJ wa wm → Wr G (fun q : Nat => s.heap.size ≤ q) s.heap (wa ++ wm) H locs → lv_has ls 4 [(0, .ref b), (1, .ref (h 0)), (2, .ref (hm 0)), (3, .int (nI (i + 6)))] → W p l e room_1 s m #[Value.ref b] below meth c H locs 45 6900 (lw_Z below #[Value.ref b] s) (F0 m 18 ls [])) (wa wm : va_W) (H : Heap) (locs : List Loc) (ls : Array Slot) (hI : InvW h hm cI cZ cJ wa wm) (hW : Wr G (fun q : Nat => s.heap.size ≤ q) s.heap (wa ++ wm) H locs) (hl : lv_has ls 4 [(0, .ref b), (1, .ref (h 0)), (2, .ref (hm 0)), (3, .int (nI i))]) : W p l e room_1 s m #[Value.ref b] below meth c H locs 45 6900 (lw_Z below #[Value.ref b] s) (F0 m 554 ls []) := by
  have hx := X.1.1
  have hb := X.1.2.1
  have hbA : ¬ (fun q : Nat => s.heap.size ≤ q) b := Nat.not_le.mpr hbl
  obtain ⟨f1, f2, ⟨fsA, f3⟩, ⟨fsM, f4⟩, f5, f6⟩ := hI.facts
  refine lv_aload_n hx hb d_Law_law_554 rfl (lv_at hl 1 rfl) ?_
  obtain ⟨d1, d2, r, wa', wm', hd1, hd2, hI', hA', hM'⟩ := case_apart l G cI cZ cJ h hm hI 
  obtain ⟨g1, g2, -⟩ := hI'.facts
  clear hI
  refine R_callA (st1 := .int r :: []) hA' X hW cw_Law_77 ki_Top_apart ks_Top_apart rfl f3 ⟨by show d1 + 1 ≤ 11; omega, by show 8 + (1 + 11) + 44 * d1 ≤ 414; omega⟩ ⟨Nat.le_of_ble_eq_true rfl, Nat.le_of_ble_eq_true rfl⟩ f5 (by rw [g1, f1]) hl.1 rfl rfl (Nat.le_of_ble_eq_true rfl) d_Law_law_555 rfl (fun H locs hW => ?_)
  refine lv_aload_n hx hb d_Law_law_558 rfl (lv_at hl 2 rfl) ?_
  refine R_callB (st1 := .int r :: .int r :: []) hM' X hW cw_Law_80 ki_Model_apart ks_Model_apart rfl f4 ⟨by show d2 + 1 ≤ 11; omega, by show 8 + (4 + 11) + 44 * d2 ≤ 414; omega⟩ ⟨Nat.le_of_ble_eq_true rfl, Nat.le_of_ble_eq_true rfl⟩ (by have := congrArg List.length g1; simpa using this) f6 (by rw [g2, f2]) hl.1 rfl rfl (Nat.le_of_ble_eq_true rfl) d_Law_law_559 rfl (fun H locs hW => ?_)
  refine lv_icmp_eq (tgt := 567) hx hb d_Law_law_562 (by decide) (fun _ => ?_) (fun cq => absurd rfl cq)
  refine lv_iinc (v := nI (i + 6)) (lv' := [(3, .int (nI (i + 6))), (0, .ref b), (1, .ref (h 0)), (2, .ref (hm 0))]) hx hb d_Law_law_567 hl (k := 3) rfl (nI_6 i) (by decide) rfl (fun ls hl => ?_)
  refine lv_goto (tgt := 18) hx hb d_Law_law_570 (by decide) ?_
  exact ih wa' wm' _ _ ls hI' hW (lv_sub hl [1, 2, 3, 0] rfl)
set_option maxHeartbeats 4000000 in
set_option maxRecDepth 100000 in
theorem law_loop {p : Program} {l : Launch} {e : Env} {s : State} {m : MethodId} {below : List Frame} {meth : Method} {c : Code} {G : va_G} {cI cZ cJ : ClassId} {h hm : Nat → Nat} {aK aV b L : Nat} {xs : Nat → Int32} (hL : L ≤ 3072) (X : Fx p m c code 4 s #[Value.ref b] "ContestRowsLaw" G (tyL cI cZ cJ) (fun q : Nat => s.heap.size ≤ q)) (hX : va_X b L xs s s.heap) (hbl : b < s.heap.size) (hE : JX aK aV (fun q : Nat => s.heap.size ≤ q) s) (hr : meth.sig.returnType = ret) (hlocks : meth.locks = false) : ∀ (n i : Nat), i ≤ 3078 → L + 6 < i + n → ∀ (wa wm : va_W) (H : Heap) (locs : List Loc) (ls : Array Slot), InvW h hm cI cZ cJ wa wm → Wr G (fun q : Nat => s.heap.size ≤ q) s.heap (wa ++ wm) H locs → lv_has ls 4 [(0, .ref b), (1, .ref (h 0)), (2, .ref (hm 0)), (3, .int (nI i))] → W p l e room_1 s m #[Value.ref b] below meth c H locs 45 6900 (lw_Z below #[Value.ref b] s) (F0 m 18 ls []) := by
  have hx := X.1.1
  have hb := X.1.2.1
  have hbA : ¬ (fun q : Nat => s.heap.size ≤ q) b := Nat.not_le.mpr hbl
  intro n
  induction n with
  | zero =>
    intro i h1 h2 wa wm H locs ls hI hW hl
    by_cases hi : i ≤ L
    · omega
    · refine lv_iload_n hx hb d_Law_law_18 rfl (lv_at hl 3 rfl) ?_
      refine lv_aload_n hx hb d_Law_law_19 rfl (lv_at hl 0 rfl) ?_
      refine va_slen hx hb hX hbl hbA hW.2.2 d_Law_law_20 ?_
      refine lv_bipush (v := nI 6) hx hb d_Law_law_21 (by decide +kernel) ?_
      refine lv_isub hx hb d_Law_law_23 ?_
      refine lv_icmp_gt (tgt := 573) hx hb d_Law_law_24 (by decide) (fun _ => ?_) (fun c24 => ?_)
      · refine lv_iconst (v := 1) hx hb d_Law_law_573 (by decide) ?_
        refine va_forget (fun q hq => hW.2.2.2.2 q hq) ?_
        exact lw_ret hx hb hr hlocks d_Law_law_574
      · exfalso
        refine c24 (i_lt.mpr ?_)
        have := pk_sub_toInt (a := L) (b := 6) (by omega) (by omega)
        rw [show (Int32.ofNat L : Int32) = nI L from rfl, this, i_T (by omega)]
        omega
  | succ n ihn =>
    intro i h1 h2 wa wm H locs ls hI hW hl
    refine lv_iload_n hx hb d_Law_law_18 rfl (lv_at hl 3 rfl) ?_
    refine lv_aload_n hx hb d_Law_law_19 rfl (lv_at hl 0 rfl) ?_
    refine va_slen hx hb hX hbl hbA hW.2.2 d_Law_law_20 ?_
    refine lv_bipush (v := nI 6) hx hb d_Law_law_21 (by decide +kernel) ?_
    refine lv_isub hx hb d_Law_law_23 ?_
    have hsub : (Int32.ofNat L - nI 6 : Int32).toInt = (L : Int) - 6 := pk_sub_toInt (a := L) (b := 6) (by omega) (by omega)
    refine lv_icmp_gt (tgt := 573) hx hb d_Law_law_24 (by decide) (fun _ => ?_) (fun c24 => ?_)
    · refine lv_iconst (v := 1) hx hb d_Law_law_573 (by decide) ?_
      refine va_forget (fun q hq => hW.2.2.2.2 q hq) ?_
      exact lw_ret hx hb hr hlocks d_Law_law_574
    · have hi : i + 6 ≤ L := by
        have := mt i_lt.mpr c24
        rw [hsub, i_T (by omega)] at this
        omega
      have ih : ∀ (wa wm : va_W) (H : Heap) (locs : List Loc) (ls : Array Slot), InvW h hm cI cZ cJ wa wm → Wr G (fun q : Nat => s.heap.size ≤ q) s.heap (wa ++ wm) H locs → lv_has ls 4 [(0, .ref b), (1, .ref (h 0)), (2, .ref (hm 0)), (3, .int (nI (i + 6)))] → W p l e room_1 s m #[Value.ref b] below meth c H locs 45 6900 (lw_Z below #[Value.ref b] s) (F0 m 18 ls []) := fun wa wm H locs ls => ihn (i + 6) (by omega) (by omega) wa wm H locs ls
      refine lv_aload_n hx hb d_Law_law_27 rfl (lv_at hl 0 rfl) ?_
      refine lv_iload_n hx hb d_Law_law_28 rfl (lv_at hl 3 rfl) ?_
      refine R_sld hx hb hX hbl hbA hW.2.2 (k := i) (by omega) (by omega) d_Law_law_29 ?_
      refine lv_bipush (v := nI 15) hx hb d_Law_law_30 (by decide +kernel) ?_
      refine lv_iand hx hb d_Law_law_32 ?_
      obtain ⟨j, hj, ej⟩ := pk_andE (xs i) (m := nI 15) 4 (by decide +kernel)
      rw [ej]
      have hj16 : j < 16 := hj
      rcases (show j = 0 ∨ j = 1 ∨ j = 2 ∨ j = 3 ∨ j = 4 ∨ j = 5 ∨ j = 6 ∨ j = 7 ∨ j = 8 ∨ j = 9 ∨ j = 10 ∨ j = 11 ∨ j = 12 ∨ j = 13 ∨ j = 14 ∨ j = 15 by omega) with rfl | rfl | rfl | rfl | rfl | rfl | rfl | rfl | rfl | rfl | rfl | rfl | rfl | rfl | rfl | rfl
      · refine lv_tableIn (tgt := 108) hx hb d_Law_law_33 (by decide +kernel) (by decide +kernel) (off := 75) (by decide +kernel) (by decide) ?_
        exact law_puzzle hL X hX hbl hi ih wa wm H locs ls hI hW hl
      · refine lv_tableIn (tgt := 131) hx hb d_Law_law_33 (by decide +kernel) (by decide +kernel) (off := 98) (by decide +kernel) (by decide) ?_
        exact law_person hL X hX hbl hi ih wa wm H locs ls hI hW hl
      · refine lv_tableIn (tgt := 144) hx hb d_Law_law_33 (by decide +kernel) (by decide +kernel) (off := 111) (by decide +kernel) (by decide) ?_
        exact law_unit hL X hX hbl hi ih wa wm H locs ls hI hW hl
      · refine lv_tableIn (tgt := 167) hx hb d_Law_law_33 (by decide +kernel) (by decide +kernel) (off := 134) (by decide +kernel) (by decide) ?_
        exact law_rules hL X hX hbl hE hi ih wa wm H locs ls hI hW hl
      · refine lv_tableIn (tgt := 180) hx hb d_Law_law_33 (by decide +kernel) (by decide +kernel) (off := 147) (by decide +kernel) (by decide) ?_
        exact law_start hL X hX hbl hi ih wa wm H locs ls hI hW hl
      · refine lv_tableIn (tgt := 213) hx hb d_Law_law_33 (by decide +kernel) (by decide +kernel) (off := 180) (by decide +kernel) (by decide) ?_
        exact law_submit hL X hX hbl hi ih wa wm H locs ls hI hW hl
      · refine lv_tableIn (tgt := 292) hx hb d_Law_law_33 (by decide +kernel) (by decide +kernel) (off := 259) (by decide +kernel) (by decide) ?_
        exact law_correct hL X hX hbl hi ih wa wm H locs ls hI hW hl
      · refine lv_tableIn (tgt := 341) hx hb d_Law_law_33 (by decide +kernel) (by decide +kernel) (off := 308) (by decide +kernel) (by decide) ?_
        exact law_late hL X hX hbl hi ih wa wm H locs ls hI hW hl
      · refine lv_tableIn (tgt := 364) hx hb d_Law_law_33 (by decide +kernel) (by decide +kernel) (off := 331) (by decide +kernel) (by decide) ?_
        exact law_score hL X hX hbl hi ih wa wm H locs ls hI hW hl
      · refine lv_tableIn (tgt := 398) hx hb d_Law_law_33 (by decide +kernel) (by decide +kernel) (off := 365) (by decide +kernel) (by decide) ?_
        exact law_points hL X hX hbl hi ih wa wm H locs ls hI hW hl
      · refine lv_tableIn (tgt := 432) hx hb d_Law_law_33 (by decide +kernel) (by decide +kernel) (off := 399) (by decide +kernel) (by decide) ?_
        exact law_place hL X hX hbl hi ih wa wm H locs ls hI hW hl
      · refine lv_tableIn (tgt := 455) hx hb d_Law_law_33 (by decide +kernel) (by decide +kernel) (off := 422) (by decide +kernel) (by decide) ?_
        exact law_shared hL X hX hbl hi ih wa wm H locs ls hI hW hl
      · refine lv_tableIn (tgt := 488) hx hb d_Law_law_33 (by decide +kernel) (by decide +kernel) (off := 455) (by decide +kernel) (by decide) ?_
        exact law_suspicious hL X hX hbl hi ih wa wm H locs ls hI hW hl
      · refine lv_tableIn (tgt := 521) hx hb d_Law_law_33 (by decide +kernel) (by decide +kernel) (off := 488) (by decide +kernel) (by decide) ?_
        exact law_even hL X hX hbl hi ih wa wm H locs ls hI hW hl
      · refine lv_tableIn (tgt := 554) hx hb d_Law_law_33 (by decide +kernel) (by decide +kernel) (off := 521) (by decide +kernel) (by decide) ?_
        exact law_apart hL X hX hbl hi ih wa wm H locs ls hI hW hl
      · refine lv_tableOut (tgt := 567) hx hb d_Law_law_33 (by decide +kernel) (by decide) ?_
        refine lv_iinc (v := nI (i + 6)) (lv' := [(3, .int (nI (i + 6))), (0, .ref b), (1, .ref (h 0)), (2, .ref (hm 0))]) hx hb d_Law_law_567 hl (k := 3) rfl (nI_6 i) (by decide) rfl (fun ls hl => ?_)
        refine lv_goto (tgt := 18) hx hb d_Law_law_570 (by decide) ?_
        exact ih wa wm _ _ ls hI hW (lv_sub hl [1, 2, 3, 0] rfl)
