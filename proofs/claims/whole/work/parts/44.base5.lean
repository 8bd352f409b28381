/-! BASE5: constructors: cells come -/
section BASE5
def CPreE (E : State → Prop) (G : va_G) (tys : List (ClassId × FieldType)) (av : List Value) (wc : va_W) (sz : Nat) : Array Value → State → Prop := fun v U => CPre G tys av wc sz v U ∧ E U
def CQN (G : va_G) (wc : va_W) (sz : Nat) (post : va_W → Prop) : Array Value → State → Outcome → State → Prop := fun _ st oc t =>
  oc = .returned none ∧ ∃ wv, post wv ∧ va_P G vwCl wv t.heap ∧ va_D (va_A wc sz) wv ∧ va_F (va_A wc sz) st t
def CtN (l : Launch) (E : State → Prop) (G : va_G) (tys : List (ClassId × FieldType)) (y : MethodName) (bytes : ByteArray) (maxL : Nat) (rm : Room) (av : List Value) (wc : va_W) (post : va_W → Prop) (mc ms : Nat) : Prop :=
  ∀ sz, Met l y (.code y bytes maxL none :: TBL) rm (CPreE E G tys av wc sz) (CQN G wc sz post) mc ms (va_A wc sz)
abbrev rmN (d mc ms : Nat) : Room := { frames := d, cells := mc, slots := ms, locals := 44 * d }
theorem M_startN {l : Launch} {E : State → Prop} {G : va_G} {tys : List (ClassId × FieldType)} {y : MethodName} {bytes : ByteArray} {maxL : Nat} {rm : Room} {av : List Value} {wc : va_W} {post : va_W → Prop} {mc ms : Nat}
    (hy : plainName y.cls = true) (hav : (lg_sl av).length ≤ maxL)
    (body : ∀ (p : Program) (e : Env) (s : State) (m : MethodId) (args : Array Value) (below : List Frame) (meth : Method) (c : Code) (A : Nat → Prop) (Q : State → Prop) (ls : Array Slot),
      Fx p m c bytes maxL s args y.cls G tys A → (meth.sig.returnType = none ∧ meth.locks = false ∧ Q = MQ below (CQN G wc s.heap.size post) args s mc ms A ∧ A = va_A wc s.heap.size) → Wr G A s.heap wc s.heap [] → lv_has ls maxL (lv_args 0 av) → E s → meth.name = y.name →
      W p l e rm s m args below meth c s.heap [] 0 0 Q (F0 m 0 ls [])) : CtN l E G tys y bytes maxL rm av wc post mc ms := by
  intro sz
  refine Met.ofW (cc := bytes) (maxL := maxL) (ret := none) hy rfl ?_
  intro p e s m args below meth c s₁ B hml hv
  obtain ⟨⟨rfl, hsz, hP, hK, hD0⟩, hE⟩ := hv
  have hts := atoms_spec (ws := .code y bytes maxL none :: TBL) B.pre
  have hown : s.vm.findClass y.cls = some m.cls := findClass_of_methodNamed B.named
  subst hsz
  rw [lg_entry_eq]
  exact body p e s m av.toArray below meth c (va_A wc s.heap.size) _ _ ⟨⟨B.exec, B.bytes, hml, hown, fun w h => hts w (List.mem_cons_of_mem _ h)⟩, hK, fun q h => Or.inr h⟩ ⟨B.returns, B.notSynchronized, rfl, rfl⟩ ⟨hP, hD0.self, va_S.rf⟩ (lv_entry av hav) hE (name_of_methodNamed B.named B.method).1
variable {p : Program} {l : Launch} {e : Env} {R : Room} {s : State} {m : MethodId} {args : Array Value} {below : List Frame} {meth : Method} {c : Code} {H : Heap} {locs : List Loc} {cells slots : Nat} {Q : State → Prop}
variable {cc : ByteArray} {nL pc : Nat} {ls : Array Slot} {rest st0 : List Value} {own : String} {G : va_G} {A : Nat → Prop} {a : Nat} {tys : List (ClassId × FieldType)} {ws wc wr w : va_W} {H0 : Heap}
theorem Wr.sub {ws' : va_W} (h : Wr G A H0 ws H locs) (is : List Nat) (hn : va_nd is = true) (hs : is.map (fun i => ws[i]?) = ws'.map some) : Wr G A H0 ws' H locs := by
  refine ⟨fun j q hj => ?_, h.2.1.sub is hn hs, h.2.2⟩
  have h1 := congrArg (fun l => l[j]?) hs
  simp only [List.getElem?_map, hj, Option.map_some] at h1
  cases hi : is[j]? with
  | none => rw [hi] at h1; simp at h1
  | some i => rw [hi] at h1; exact h.1 i q (by simpa using h1)
theorem ra_eq {U : State} {c1 c2 : ClassId} {ty : FieldType} (hp : ∀ C, ty ≠ .object C) (h1 : va_RA U c1 ty) (h2 : va_RA U c2 ty) : c1 = c2 := by
  cases ty with
  | object C => exact absurd rfl (hp C)
  | _ => exact Option.some.inj (h1.symm.trans h2)
theorem R_newa {cA : ClassId} {atype : ArrayType} {ty : FieldType} {n t0 : Nat} {a0 : vp_A} (X : Fx p m c cc nL s args own G tys A) (hW : Wr G A s.heap ws H locs) (harr : Cond.arrayClass ty ∈ TBL) (hty : newarray.typeOf atype = ty) (hp : ∀ C, ty ≠ .object C) (ht : tys[t0]? = some (cA, ty)) (ha : ∀ c : ClassId, vp_cell c a0 = arrV c n (fun _ => defaultValue ty)) (hn : n < 2 ^ 31) (hbytes : n * componentBytes ty ≤ 536870912) (hcells : cells + 1 ≤ R.cells) (hslots : slots + n ≤ R.slots) (hdg : decode cc pc = .ok (.newarray atype, 2))
    (kk : ∀ (q : Nat) (H1 : Heap), Wr G A s.heap (ws ++ [(q, .inl (cA, a0))]) H1 locs → W p l e R s m args below meth c H1 locs (cells + 1) (slots + n) Q (F0 m (pc + 2) ls (.ref q :: rest))) : W p l e R s m args below meth c H locs cells slots Q (F0 m pc ls (.int (nI n) :: rest)) := by
  refine va_newa (N' := n) (a0 := a0) X.1.1 X.1.2.1 (by rw [hty]; exact X.1.2.2.2.2 _ harr) hty X.2.1 hW.1 hW.2.1 hW.2.2 X.2.2 ha (nI_pos hn) (nI_clamp hn) hbytes hcells hslots hdg (fun q c1 H1 hK1 h1 h2 h3 => ?_)
  have e : c1 = cA := ra_eq hp (hK1.2 tys.length (c1, ty) (by simp)).2 (X.2.1.2 t0 _ ht).2
  subst e
  exact kk q H1 ⟨h1, h2, h3⟩
theorem R_putF {C : String} {T : u_T} {N ci index : Nat} (X : Fx p m c cc nL s args own G tys A) (hW : Wr G A H0 ws H locs) (hin : ∀ w ∈ u_ws C T N, w ∈ TBL) (hc : vwCl[ci]? = some (C, T, N)) (ty0 : Nat → FieldType) (hty : ∀ k, k < N → parseFieldDescriptor (T k).2.2.1 = some (ty0 k)) (hnm : ∀ a, a < N → ∀ b, b < N → a ≠ b → (T a).2.1 ≠ (T b).2.1) (k : Nat) (hk : k < N) (hlink : Cond.fieldLink own index (T k).1 (T k).2.1 (T k).2.2.1 ∈ TBL) (hfin : (T k).2.2.2 = true) (hi : meth.name = "<init>") (hdecl : (T k).1 = own) {ty : FieldType} (hd : parseFieldDescriptor (T k).2.2.1 = some ty) (q0 : Nat) {fs : List Value} (he : ws[q0]? = some (a, .inr (ci, fs))) {v : Value} (hn : narrow ty v = v) (hfit : fits ty v = true) (hl : k < fs.length) (hdg : decode cc pc = .ok (.putfield index, 3))
    (kk : ∀ (H1 : Heap) (locs1 : List Loc), Wr G A H0 (ws.set q0 (a, .inr (ci, fs.set k v))) H1 locs1 → W p l e R s m args below meth c H1 locs1 cells slots Q (F0 m (pc + 3) ls rest)) : W p l e R s m args below meth c H locs cells slots Q (F0 m pc ls (v :: .ref a :: rest)) :=
  va_putF X.1.1 X.1.2.1 X.1.2.2.2.2 hin ty0 hty hnm X.1.2.2.2.1 X.2.1 hW.1 hW.2.1 hW.2.2 q0 he hc k hk (X.1.2.2.2.2 _ hlink) (fun _ h => h) hfin hi hdecl hd hn hfit hl hdg (fun H1 locs1 h1 h2 h3 => kk H1 locs1 ⟨h1, h2, h3⟩)
theorem R_new {C : String} {T : u_T} {N ci index : Nat} {fs : List Value} (X : Fx p m c cc nL s args own G tys A) (hW : Wr G A s.heap ws H locs) (hin : ∀ w ∈ u_ws C T N, w ∈ TBL) (hc : vwCl[ci]? = some (C, T, N)) (ty0 : Nat → FieldType) (hty : ∀ k, k < N → parseFieldDescriptor (T k).2.2.1 = some (ty0 k)) (hcl : Cond.classLink own index C ∈ TBL) (hinst : Cond.instantiable C N ∈ TBL) (hini : Cond.initialized C ∈ TBL) (hfs : ∀ j, j < N → defaultValue (ty0 j) = vp_V fs j) (hcells : cells + 1 ≤ R.cells) (hslots : slots + N ≤ R.slots) (hdg : decode cc pc = .ok (.new index, 3))
    (kk : ∀ (q : Nat) (H1 : Heap), Wr G A s.heap (ws ++ [(q, .inr (ci, fs))]) H1 locs → W p l e R s m args below meth c H1 locs (cells + 1) (slots + N) Q (F0 m (pc + 3) ls (.ref q :: rest))) : W p l e R s m args below meth c H locs cells slots Q (F0 m pc ls rest) :=
  va_new X.1.1 X.1.2.1 X.1.2.2.2.2 hin ty0 hty X.1.2.2.2.1 (X.1.2.2.2.2 _ hcl) (X.1.2.2.2.2 _ hinst) (X.1.2.2.2.2 _ hini) X.2.1 hW.1 hW.2.1 hW.2.2 X.2.2 hc hfs hcells hslots hdg (fun q H1 h1 h2 h3 => kk q H1 ⟨h1, h2, h3⟩)
theorem R_vretN {wv : va_W} {post : va_W → Prop} {mc ms : Nat} (X : Fx p m c cc nL s args own G tys A) (Y : meth.sig.returnType = none ∧ meth.locks = false ∧ Q = MQ below (CQN G wc s.heap.size post) args s mc ms A ∧ A = va_A wc s.heap.size) (hW : Wr G A s.heap wv H locs) (hp : post wv) (hc : cells ≤ mc) (hs : slots ≤ ms) (hdg : decode cc pc = .ok (.return_, 1)) : W p l e R s m args below meth c H locs cells slots Q (F0 m pc ls []) := by
  obtain ⟨hr, hlk, rfl, hAe⟩ := Y
  refine W.widen hc hs ?_
  refine W.vret X.1.1 X.1.2.1 hr (fun t ht hwm => ?_) hW.2.2.2.2 hdg hlk
  subst hAe
  exact ⟨rfl, wv, hp, by rw [ht]; exact hW.1, hW.2.1, hW.2.2.F ht⟩
theorem R_runN {post : va_W → Prop} {mc ms : Nat} {ar : Array Value} (hr : va_Run p l e R s m args below meth c H locs cells slots mc ms (F0 m pc ls st0) rest (CQN G wc H.size post ar) (va_A wc H.size)) (hW : Wr G A H0 ws H locs) (hA : ∀ q, H0.size ≤ q → A q) (isC isR : List Nat) (hC : isC.map (fun i => ws[i]?) = wc.map some) (hR : isR.map (fun i => ws[i]?) = wr.map some) (hn : va_nd isR = true) (hdis : ∀ i ∈ isR, i ∉ isC)
    (kk : ∀ (wv : va_W) (H1 : Heap) (locs1 : List Loc), post wv → Wr G A H0 (wr ++ wv) H1 locs1 → W p l e R s m args below meth c H1 locs1 (cells + mc) (slots + ms) Q (F0 m (pc + 3) ls rest)) : W p l e R s m args below meth c H locs cells slots Q (F0 m pc ls st0) := by
  obtain ⟨hP, hD, hS⟩ := hW
  have hF := va_free (wc := wc) hD hS hA isC hC
  intro T hT Xs
  obtain ⟨v, st₀, t, T', L, h0, X', hL, e1, e2, ⟨hv1, wv, hp, hP1, hD1, hz, hk⟩, st⟩ := hr T hT Xs
  cases hv1
  rw [h0] at hz hk
  have hS1 : va_S A H0 T'.heap (locs ++ L) := ⟨Nat.le_trans hS.1 (by rw [e1]; exact hz), fun q h1 h2 => by rw [e1, hk q (Nat.lt_of_lt_of_le h1 hS.1) (fun z => h2 (hF q z))]; exact hS.2.1 q h1 h2, fun q hq => by
      rcases List.mem_append.mp hq with h | h
      · exact hS.2.2 q h
      · exact hF _ (hL q h)⟩
  obtain ⟨g1, g2⟩ := va_join (wr := wr) (w1 := wv) hP hD isC isR hC hR hn hdis (H1 := T'.heap) (fun q a1 a2 => by rw [e1]; exact hk q a1 a2) hF (by rw [e1]; exact hP1) hD1
  obtain ⟨t2, a1, b1⟩ := kk wv T'.heap (locs ++ L) hp ⟨g1, g2, hS1⟩ T' rfl X'
  exact ⟨t2, st t2 a1, b1⟩
/-- an extra fact that goes along a call -/
def EOk (E : State → Prop) : Prop := (∀ (s U : State), s.WarmedH U.vm → E s → E U) ∧ ∀ (U : State) (g : JFrame) (mk : MethodId) (a : Array Value), E U → E (U.calling g mk a)
theorem CPreE_blind {E : State → Prop} (hE : EOk E) {av : List Value} {sz : Nat} : FrameBlind (CPreE E G tys av wc sz) := fun a U g mk q => ⟨CPre_blind a U g mk q.1, hE.2 U g mk a q.2⟩
theorem R_preE {E : State → Prop} (hE : EOk E) (h : E s) {av : List Value} (X : Fx p m c cc nL s args own G tys A) (hW : Wr G A H0 ws H locs) (isC : List Nat) (hn : va_nd isC = true) (hC : isC.map (fun i => ws[i]?) = wc.map some) : ∀ U : State, U.heap = H → s.WarmedH U.vm → CPreE E G tys av wc H.size av.toArray U := fun U hU hw => ⟨R_pre X hW isC hn hC U hU hw, hE.1 s U hw h⟩
theorem Cw.toBN {index maxL n mc ms : Nat} {y : MethodName} {bytes : ByteArray} {ret : Option FieldType} {rm : Room} (h : Cw own index y bytes maxL ret n) (hts : ∀ w ∈ TBL, w.before args s = true) (hrm : rm.cells = mc ∧ rm.slots = ms) (hR : rm.frames + 1 ≤ R.frames ∧ 8 + (maxL + 11) + rm.locals ≤ R.locals) : CallB R s args own index y bytes maxL ret (.code y bytes maxL ret :: TBL) rm mc ms n := by
  obtain ⟨h1, h2, h3, h4⟩ := h
  exact callB_of n hts (fun w hw => by
    rcases List.mem_cons.mp hw with e | e
    · rw [e]; exact ⟨h1, TBL_good _ h1⟩
    · exact ⟨e, TBL_good _ e⟩) rfl hrm.1 hrm.2 (hts _ h2) (hts _ h3) h4 hR
/-- invokespecial of a constructor, plain -/
theorem R_init {E : State → Prop} (hE : EOk E) (hs : E s) {index maxL mc ms b : Nat} {y : MethodName} {bytes : ByteArray} {rm : Room} {post : va_W → Prop} (hM : CtN l E G tys y bytes maxL rm [.ref b] wc post mc ms) (X : Fx p m c cc nL s args own G tys A) (hW : Wr G A s.heap ws H locs) (hc : Cw own index y bytes maxL none 0) (hy : y.name = "<init>") (hin : Cond.instanceMethod y ∈ TBL) (hrm : rm.cells = mc ∧ rm.slots = ms) (hR : rm.frames + 1 ≤ R.frames ∧ 8 + (maxL + 11) + rm.locals ≤ R.locals) (hcs : cells + mc ≤ R.cells ∧ slots + ms ≤ R.slots) (isC isR : List Nat) (hnC : va_nd isC = true) (hC : isC.map (fun i => ws[i]?) = wc.map some) (hRr : isR.map (fun i => ws[i]?) = wr.map some) (hn : va_nd isR = true) (hdis : ∀ i ∈ isR, i ∉ isC) (hl : ls.size = nL) (hw8 : (rest.map fun v => v.category).sum ≤ 8) (hdg : decode cc pc = .ok (.invokespecial index, 3))
    (kk : ∀ (wv : va_W) (H1 : Heap) (locs1 : List Loc), post wv → Wr G A s.heap (wr ++ wv) H1 locs1 → W p l e R s m args below meth c H1 locs1 (cells + mc) (slots + ms) Q (F0 m (pc + 3) ls rest)) : W p l e R s m args below meth c H locs cells slots Q (F0 m pc ls (.ref b :: rest)) := by
  have hts := X.1.2.2.2.2
  exact R_runN (va_runI (As := []) X.1 (hM H.size) ⟨hc.toBN hts hrm hR, hy, hts _ hin⟩ ⟨CPreE_blind hE, R_preE hE hs X hW isC hnC hC⟩ rfl rfl hl rfl (lv_room hw8) hdg hcs) hW X.2.2 isC isR hC hRr hn hdis kk
/-- invokespecial of a nest mate's private constructor -/
theorem R_initN {E : State → Prop} (hE : EOk E) (hs : E s) {index maxL mc ms b : Nat} {y : MethodName} {host : String} {bytes : ByteArray} {rm : Room} {post : va_W → Prop} (hM : CtN l E G tys y bytes maxL rm [.ref b] wc post mc ms) (X : Fx p m c cc nL s args own G tys A) (hW : Wr G A s.heap ws H locs) (hl1 : Cond.code y bytes maxL none ∈ TBL) (hl2 : Cond.initialized y.cls ∈ TBL) (hl3 : va_Nw (.methodLinkNest own index y host) s) (hd : y.cls ≠ "java/lang/invoke/MethodHandle" ∧ y.cls ≠ "java/lang/invoke/VarHandle" ∧ (parseMethodDescriptor y.desc).map (fun d => d.parameters.length) = some 0) (hy : y.name = "<init>") (hin : Cond.instanceMethod y ∈ TBL) (hrm : rm.cells = mc ∧ rm.slots = ms) (hR : rm.frames + 1 ≤ R.frames ∧ 8 + (maxL + 11) + rm.locals ≤ R.locals) (hcs : cells + mc ≤ R.cells ∧ slots + ms ≤ R.slots) (isC isR : List Nat) (hnC : va_nd isC = true) (hC : isC.map (fun i => ws[i]?) = wc.map some) (hRr : isR.map (fun i => ws[i]?) = wr.map some) (hn : va_nd isR = true) (hdis : ∀ i ∈ isR, i ∉ isC) (hl : ls.size = nL) (hw8 : (rest.map fun v => v.category).sum ≤ 8) (hdg : decode cc pc = .ok (.invokespecial index, 3))
    (kk : ∀ (wv : va_W) (H1 : Heap) (locs1 : List Loc), post wv → Wr G A s.heap (wr ++ wv) H1 locs1 → W p l e R s m args below meth c H1 locs1 (cells + mc) (slots + ms) Q (F0 m (pc + 3) ls rest)) : W p l e R s m args below meth c H locs cells slots Q (F0 m pc ls (.ref b :: rest)) := by
  have hts := X.1.2.2.2.2
  have hG : GoodIn TBL (.code y bytes maxL none :: TBL) := fun w hw => by
    rcases List.mem_cons.mp hw with e | e
    · rw [e]; exact ⟨hl1, TBL_good _ hl1⟩
    · exact ⟨e, TBL_good _ e⟩
  exact R_runN (va_runIN (As := []) X.1 (hM H.size) ⟨va_cnB 0 hts hG rfl hrm.1 hrm.2 hl3 (hts _ hl2) hd hR, hy, hts _ hin⟩ ⟨CPreE_blind hE, R_preE hE hs X hW isC hnC hC⟩ rfl rfl hl rfl (lv_room hw8) hdg hcs) hW X.2.2 isC isR hC hRr hn hdis kk
theorem EOk_T : EOk (fun _ => True) := ⟨fun _ _ _ _ => trivial, fun _ _ _ _ _ => trivial⟩
theorem df_i (c : ClassId) (n : Nat) : vp_cell c (n, .inl (aE nI (fun _ => 0))) = arrV c n (fun _ => defaultValue .int) := rfl
theorem df_io (c : ClassId) (n : Nat) : vp_cell c (n, .inl (aE oI (fun _ => some 0))) = arrV c n (fun _ => defaultValue .int) := rfl
theorem df_z (c : ClassId) (n : Nat) : vp_cell c (n, .inl (aE bI (fun _ => false))) = arrV c n (fun _ => defaultValue .boolean) := rfl
theorem df_l (c : ClassId) (n : Nat) : vp_cell c (n, .inr (.inl (aF lN (fun _ => 0)))) = arrV c n (fun _ => defaultValue .long) := rfl
theorem df_lo (c : ClassId) (n : Nat) : vp_cell c (n, .inr (.inl (aF oL (fun _ => some 0)))) = arrV c n (fun _ => defaultValue .long) := rfl
end BASE5
