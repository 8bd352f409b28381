/-! BASE4: contracts that read a String constant and a static of the JDK's -/
section BASE4
def JX (aK aV : Nat) (A : Nat → Prop) (U : State) : Prop := vk_R "ContestRows$RuleText" 22 "PFWDT" aK U ∧ vk_S 1 [5] [[80, 70, 87, 68, 84]] (fun _ => aK) (fun _ => aV) A U U.heap ∧ va_Z "java/lang/String" "COMPACT_STRINGS" "Z" (.int 1) A U U.heap
theorem JX.to {aK aV : Nat} {A B : Nat → Prop} {s U : State} {H : Heap} {locs : List Loc} (h : JX aK aV A s) (hS : va_S A s.heap H locs) (hB : ∀ q, B q → A q) (hU : U.heap = H) (hw : s.WarmedH U.vm) : JX aK aV B U := by
  obtain ⟨h1, h2, h3⟩ := h
  refine ⟨vk_R.warm hw h1, ?_, ?_⟩
  · rw [hU]; exact ((vk_S.moved hw.alike h2).kept hS.2.1).narrow hB
  · rw [hU]; exact ((va_Z.moved hw.alike h3).kept hS.2.1).narrow hB
def CPreX (aK aV : Nat) (G : va_G) (tys : List (ClassId × FieldType)) (av : List Value) (wc : va_W) (sz : Nat) : Array Value → State → Prop := fun v U => CPre G tys av wc sz v U ∧ JX aK aV (va_A wc sz) U
def CtX (l : Launch) (aK aV : Nat) (G : va_G) (tys : List (ClassId × FieldType)) (y : MethodName) (bytes : ByteArray) (maxL : Nat) (ret : Option FieldType) (rm : Room) (av : List Value) (wc : va_W) (ov : Option Value) (wv : va_W) : Prop :=
  ∀ sz, Met l y (.code y bytes maxL ret :: TBL) rm (CPreX aK aV G tys av wc sz) (CQ G wc sz ov wv) 0 0 (va_A wc sz)
theorem CPreX_blind {aK aV : Nat} {G : va_G} {tys : List (ClassId × FieldType)} {av : List Value} {wc : va_W} {sz : Nat} : FrameBlind (CPreX aK aV G tys av wc sz) := fun a U g mk q => by
  refine ⟨CPre_blind a U g mk q.1, vk_R.same (u := U) rfl q.2.1, ?_, ?_⟩
  · exact vk_S.moved (u := U) (U := U.calling g mk a) (Vm.Alike.refl U.vm) q.2.2.1
  · exact va_Z.moved (u := U) (U := U.calling g mk a) (Vm.Alike.refl U.vm) q.2.2.2
theorem M_startX {l : Launch} {aK aV : Nat} {G : va_G} {tys : List (ClassId × FieldType)} {y : MethodName} {bytes : ByteArray} {maxL : Nat} {ret : Option FieldType} {rm : Room} {av : List Value} {wc : va_W} {ov : Option Value} {wv : va_W}
    (hy : plainName y.cls = true) (hav : (lg_sl av).length ≤ maxL)
    (body : ∀ (p : Program) (e : Env) (s : State) (m : MethodId) (args : Array Value) (below : List Frame) (meth : Method) (c : Code) (A : Nat → Prop) (Q : State → Prop) (ls : Array Slot),
      Fx p m c bytes maxL s args y.cls G tys A → (meth.sig.returnType = ret ∧ meth.locks = false ∧ Q = MQ below (CQ G wc s.heap.size ov wv) args s 0 0 A ∧ A = va_A wc s.heap.size) → Wr G A s.heap wc s.heap [] → lv_has ls maxL (lv_args 0 av) → JX aK aV A s →
      W p l e rm s m args below meth c s.heap [] 0 0 Q (F0 m 0 ls [])) : CtX l aK aV G tys y bytes maxL ret rm av wc ov wv := by
  intro sz
  refine Met.ofW (cc := bytes) (maxL := maxL) (ret := ret) hy rfl ?_
  intro p e s m args below meth c s₁ B hml hv
  obtain ⟨⟨rfl, hsz, hP, hK, hD0⟩, hE⟩ := hv
  have hts := atoms_spec (ws := .code y bytes maxL ret :: TBL) B.pre
  have hown : s.vm.findClass y.cls = some m.cls := findClass_of_methodNamed B.named
  subst hsz
  rw [lg_entry_eq]
  exact body p e s m av.toArray below meth c (va_A wc s.heap.size) _ _ ⟨⟨B.exec, B.bytes, hml, hown, fun w h => hts w (List.mem_cons_of_mem _ h)⟩, hK, fun q h => Or.inr h⟩ ⟨B.returns, B.notSynchronized, rfl, rfl⟩ ⟨hP, hD0.self, va_S.rf⟩ (lv_entry av hav) hE
variable {p : Program} {l : Launch} {e : Env} {R : Room} {s : State} {m : MethodId} {args : Array Value} {below : List Frame} {meth : Method} {c : Code} {H : Heap} {locs : List Loc} {cells slots : Nat} {Q : State → Prop}
variable {cc : ByteArray} {nL pc : Nat} {ls : Array Slot} {rest st0 st1 : List Value} {own : String} {G : va_G} {A : Nat → Prop} {a aK aV : Nat} {tys : List (ClassId × FieldType)} {ws wc wv w : va_W} {ov : Option Value}
theorem R_preX {av : List Value} (X : Fx p m c cc nL s args own G tys A) (hW : Wr G A s.heap ws H locs) (hE : JX aK aV A s) (isC : List Nat) (hn : va_nd isC = true) (hC : isC.map (fun i => ws[i]?) = wc.map some) : ∀ U : State, U.heap = H → s.WarmedH U.vm → CPreX aK aV G tys av wc H.size av.toArray U := fun U hU hw =>
  ⟨R_pre X hW isC hn hC U hU hw, hE.to hW.2.2 (va_free (wc := wc) hW.2.1 hW.2.2 X.2.2 isC hC) hU hw⟩
theorem R_callVX {C : String} {b index maxL n : Nat} {y : MethodName} {bytes : ByteArray} {ret : Option FieldType} {rm : Room} {As : List Value} (hM : CtX l aK aV G tys y bytes maxL ret rm (.ref b :: As) wc ov wv) (X : Fx p m c cc nL s args own G tys A) (hE : JX aK aV A s) (hW : Wr G A s.heap ws H locs) (hc : Cw own index y bytes maxL ret n) (hin : Cond.instanceMethod y ∈ TBL) (hse : Cond.selects C y y ∈ TBL) (hrecv : ∃ cell : Cell, H[b]? = some cell ∧ cell.vm.isStatics = false ∧ s.vm.findClass C = some cell.cls) (hrm : rm.cells = 0 ∧ rm.slots = 0) (hR : rm.frames + 1 ≤ R.frames ∧ 8 + (maxL + 11) + rm.locals ≤ R.locals) (hcs : cells ≤ R.cells ∧ slots ≤ R.slots) (bs : List Bool) (hn : va_nd (mk_pos bs 0) = true) (hbs : bs.length ≤ ws.length) (hC : mk_pick ws bs = wc) (hv : wv.map Prod.fst = wc.map Prod.fst) (hl : ls.size = nL) (hsk : st0 = As.reverse ++ .ref b :: rest) (hlen : As.length = n) (hw8 : (rest.map fun v => v.category).sum ≤ 8) (hdg : decode cc pc = .ok (.invokevirtual index, 3)) (hst : ov.toList ++ rest = st1)
    (kk : ∀ (H1 : Heap) (locs1 : List Loc), Wr G A s.heap (mk_put ws bs wv) H1 locs1 → W p l e R s m args below meth c H1 locs1 cells slots Q (F0 m (pc + 3) ls st1)) : W p l e R s m args below meth c H locs cells slots Q (F0 m pc ls st0) := by
  have h1 := mk_pick_pos bs ws [] hbs
  have h2 := mk_put_set bs ws [] wv hbs
  simp only [List.length_nil, List.nil_append] at h1 h2
  rw [hC] at h1
  have hts := X.1.2.2.2.2
  refine R_run (va_runV X.1 (hM H.size) ⟨hc.toB hts hrm hR, hts _ hin, hts _ hse⟩ ⟨CPreX_blind, hrecv, R_preX X hW hE _ hn h1⟩ rfl hlen hl hsk (lv_room hw8) hdg ⟨hcs.1, hcs.2⟩) hW X.2.2 (mk_pos bs 0) h1 hv hst (fun H1 locs1 hW1 => kk H1 locs1 ?_)
  rw [h2] at hW1
  exact hW1
theorem R_callSX {index maxL n : Nat} {y : MethodName} {bytes : ByteArray} {ret : Option FieldType} {rm : Room} {As : List Value} (hM : CtX l aK aV G tys y bytes maxL ret rm As wc ov wv) (X : Fx p m c cc nL s args own G tys A) (hE : JX aK aV A s) (hW : Wr G A s.heap ws H locs) (hc : Cw own index y bytes maxL ret n) (hin : Cond.static y ∈ TBL) (hrm : rm.cells = 0 ∧ rm.slots = 0) (hR : rm.frames + 1 ≤ R.frames ∧ 8 + (maxL + 11) + rm.locals ≤ R.locals) (hcs : cells ≤ R.cells ∧ slots ≤ R.slots) (bs : List Bool) (hn : va_nd (mk_pos bs 0) = true) (hbs : bs.length ≤ ws.length) (hC : mk_pick ws bs = wc) (hv : wv.map Prod.fst = wc.map Prod.fst) (hl : ls.size = nL) (hsk : st0 = As.reverse ++ rest) (hlen : As.length = n) (hw8 : (rest.map fun v => v.category).sum ≤ 8) (hdg : decode cc pc = .ok (.invokestatic index, 3)) (hst : ov.toList ++ rest = st1)
    (kk : ∀ (H1 : Heap) (locs1 : List Loc), Wr G A s.heap (mk_put ws bs wv) H1 locs1 → W p l e R s m args below meth c H1 locs1 cells slots Q (F0 m (pc + 3) ls st1)) : W p l e R s m args below meth c H locs cells slots Q (F0 m pc ls st0) := by
  have h1 := mk_pick_pos bs ws [] hbs
  have h2 := mk_put_set bs ws [] wv hbs
  simp only [List.length_nil, List.nil_append] at h1 h2
  rw [hC] at h1
  have hts := X.1.2.2.2.2
  refine R_run (va_runS X.1 (hM H.size) ⟨hc.toB hts hrm hR, hts _ hin⟩ ⟨CPreX_blind, R_preX X hW hE _ hn h1⟩ rfl hlen hl hsk (lv_room hw8) hdg ⟨hcs.1, hcs.2⟩) hW X.2.2 (mk_pos bs 0) h1 hv hst (fun H1 locs1 hW1 => kk H1 locs1 ?_)
  rw [h2] at hW1
  exact hW1
theorem R_bret (X : Fx p m c cc nL s args own G tys A) (Y : Rx meth below s args (some .byte) G wc ov wv A Q) (hW : Wr G A s.heap w H locs) (hw : w = wv) {x : Int32} (hn : narrow .byte (.int x) = .int x) (ho : some (Value.int x) = ov) (hdg : decode cc pc = .ok (.ireturn, 1)) : W p l e R s m args below meth c H locs 0 0 Q (F0 m pc ls [.int x]) := by
  have hq := R_q Y hW hw ho
  obtain ⟨hr, hlk, rfl, hAe⟩ := Y
  exact W.zret X.1.1 X.1.2.1 hr hn hq hW.2.2.2.2 hdg hlk
abbrev w_NilJ : va_W := []
theorem i2b_ne : ∀ u, u < 256 → u ≠ 68 ∧ u ≠ 70 ∧ u ≠ 80 ∧ u ≠ 84 ∧ u ≠ 87 → ∀ k ∈ [68, 70, 80, 84, 87], (nI k).toInt ≠ ((nI u).toInt8.toInt32).toInt := by decide +kernel
theorem i2c_u {u : Nat} (h : u ≤ 255) : ((nI u).toUInt32 % 65536).toInt32 = nI u := lg_i2c_word (by rw [i_T (by omega)]; omega) (by rw [i_T (by omega)]; omega)
end BASE4
def nwC (r : (Nat ⊕ Nat) × (Nat → Nat)) (nw : Nat → Nat) : Nat → Nat := match r.1 with
  | .inl _ => cpyN 5 r.2 nw
  | .inr _ => nw
theorem eod_tl (un : Nat → Nat) (tl fr : Nat) : ∀ n e, e ≤ tl → eodG un tl fr n e ≤ tl
  | 0, _, h => h
  | n + 1, e, h => by
    unfold eodG
    split
    · exact eod_tl un tl fr n (e + 1) (by omega)
    · exact h
def y_JStr_indexOf1 : MethodName := ⟨"java/lang/String", "indexOf", "(I)I"⟩
abbrev b_JStr_indexOf1 : ByteArray := prog_11_method_79_code
def y_JStr_indexOf2 : MethodName := ⟨"java/lang/String", "indexOf", "(II)I"⟩
abbrev b_JStr_indexOf2 : ByteArray := prog_11_method_80_code
def y_JStr_isLatin1 : MethodName := ⟨"java/lang/String", "isLatin1", "()Z"⟩
abbrev b_JStr_isLatin1 : ByteArray := prog_11_method_154_code
def y_JStr_length : MethodName := ⟨"java/lang/String", "length", "()I"⟩
abbrev b_JStr_length : ByteArray := prog_11_method_54_code
def y_JStr_coder : MethodName := ⟨"java/lang/String", "coder", "()B"⟩
abbrev b_JStr_coder : ByteArray := prog_11_method_152_code
def y_JLat_indexOf : MethodName := ⟨"java/lang/StringLatin1", "indexOf", "([BIII)I"⟩
abbrev b_JLat_indexOf : ByteArray := prog_12_method_22_code
def y_JLat_canEncode : MethodName := ⟨"java/lang/StringLatin1", "canEncode", "(I)Z"⟩
abbrev b_JLat_canEncode : ByteArray := prog_12_method_4_code
def y_JLat_indexOfChar : MethodName := ⟨"java/lang/StringLatin1", "indexOfChar", "([BIII)I"⟩
abbrev b_JLat_indexOfChar : ByteArray := prog_12_method_23_code
