/-! BASE: one contract form for every method that makes no cell, rows over a world kept in one fact, a call row -/
section BASE
def bI (b : Bool) : Int32 := match b with
  | true => 1
  | false => 0
def oI (o : Option Nat) : Int32 := match o with
  | none => -1
  | some n => nI n
def oL (o : Option Nat) : Int64 := match o with
  | none => -1
  | some n => lN n
def aE {α : Type} (enc : α → Int32) (g : Nat → α) : Nat → Int32 := fun i => enc (g i)
def aF {α : Type} (enc : α → Int64) (g : Nat → α) : Nat → Int64 := fun i => enc (g i)
theorem aE_upd {α : Type} (enc : α → Int32) (g : Nat → α) (k : Nat) (v : α) : upd (aE enc g) k (enc v) = aE enc (va_up g k v) := by
  funext j
  by_cases h : j = k <;> simp [upd, aE, va_up, h]
theorem aF_upd {α : Type} (enc : α → Int64) (g : Nat → α) (k : Nat) (v : α) : vp_updL (aF enc g) k (enc v) = aF enc (va_up g k v) := by
  funext j
  by_cases h : j = k <;> simp [vp_updL, aF, va_up, h]
theorem bI_nar (b : Bool) : vp_nar .boolean (bI b) = bI b := by cases b <;> decide +kernel
theorem bI_narrow (b : Bool) : narrow .boolean (.int (bI b)) = .int (bI b) := by cases b <;> decide +kernel
theorem bI_0 {b : Bool} : bI b = 0 ↔ b = false := by cases b <;> decide +kernel
theorem bI_inj {a b : Bool} : bI a = bI b ↔ a = b := by cases a <;> cases b <;> decide +kernel
abbrev tyL (cI cZ cJ : ClassId) : List (ClassId × FieldType) := [(cI, .int), (cZ, .boolean), (cJ, .long)]
/-- the world, kept: its cells, apart, and what has changed since H0 -/
def Wr (G : va_G) (A : Nat → Prop) (H0 : Heap) (ws : va_W) (H : Heap) (locs : List Loc) : Prop := va_P G vwCl ws H ∧ va_D A ws ∧ va_S A H0 H locs
/-- what holds in a method's body: code, class, the tables' words, the classes' numbers, new cells are free -/
abbrev Fx (p : Program) (m : MethodId) (c : Code) (cc : ByteArray) (nL : Nat) (s : State) (args : Array Value) (own : String) (G : va_G) (tys : List (ClassId × FieldType)) (A : Nat → Prop) : Prop :=
  CallFix p m c cc nL s args TBL own ∧ va_K G vwCl tys s ∧ ∀ q, s.heap.size ≤ q → A q
def CPre (G : va_G) (tys : List (ClassId × FieldType)) (av : List Value) (wc : va_W) (sz : Nat) : Array Value → State → Prop :=
  va_Pc av (fun U => U.heap.size = sz ∧ va_P G vwCl wc U.heap ∧ va_K G vwCl tys U ∧ va_D (fun _ => True) wc)
def CQ (G : va_G) (wc : va_W) (sz : Nat) (ov : Option Value) (wv : va_W) : Array Value → State → Outcome → State → Prop := fun _ st oc t =>
  oc = .returned ov ∧ va_P G vwCl wv t.heap ∧ va_D (va_A wc sz) wv ∧ va_F (va_A wc sz) st t
/-- the contract: from the world wc, with the arguments av: the answer ov, the world wv -/
def Ct (l : Launch) (G : va_G) (tys : List (ClassId × FieldType)) (y : MethodName) (bytes : ByteArray) (maxL : Nat) (ret : Option FieldType) (rm : Room) (av : List Value) (wc : va_W) (ov : Option Value) (wv : va_W) : Prop :=
  ∀ sz, Met l y (.code y bytes maxL ret :: TBL) rm (CPre G tys av wc sz) (CQ G wc sz ov wv) 0 0 (va_A wc sz)
theorem CPre_blind {G : va_G} {tys : List (ClassId × FieldType)} {av : List Value} {wc : va_W} {sz : Nat} : FrameBlind (CPre G tys av wc sz) := fun a U g mk q => by
  obtain ⟨q0, q1, qP, qK, qD⟩ := q
  exact ⟨q0, q1, qP, va_K.moved (u := U) (U := U.calling g mk a) (Vm.Alike.refl U.vm) qK, qD⟩
abbrev rmL (d : Nat) : Room := { frames := d, cells := 0, slots := 0, locals := 44 * d }
/-- a method's proof begins -/
theorem M_start {l : Launch} {G : va_G} {tys : List (ClassId × FieldType)} {y : MethodName} {bytes : ByteArray} {maxL : Nat} {ret : Option FieldType} {rm : Room} {av : List Value} {wc : va_W} {ov : Option Value} {wv : va_W}
    (hy : plainName y.cls = true) (hav : (lg_sl av).length ≤ maxL)
    (body : ∀ (p : Program) (e : Env) (s : State) (m : MethodId) (args : Array Value) (below : List Frame) (meth : Method) (c : Code) (A : Nat → Prop) (Q : State → Prop) (ls : Array Slot),
      Fx p m c bytes maxL s args y.cls G tys A → (meth.sig.returnType = ret ∧ meth.locks = false ∧ Q = MQ below (CQ G wc s.heap.size ov wv) args s 0 0 A ∧ A = va_A wc s.heap.size) → Wr G A s.heap wc s.heap [] → lv_has ls maxL (lv_args 0 av) →
      W p l e rm s m args below meth c s.heap [] 0 0 Q (F0 m 0 ls [])) : Ct l G tys y bytes maxL ret rm av wc ov wv := by
  intro sz
  refine Met.ofW (cc := bytes) (maxL := maxL) (ret := ret) hy rfl ?_
  intro p e s m args below meth c s₁ B hml hv
  obtain ⟨rfl, hsz, hP, hK, hD0⟩ := hv
  have hts := atoms_spec (ws := .code y bytes maxL ret :: TBL) B.pre
  have hown : s.vm.findClass y.cls = some m.cls := findClass_of_methodNamed B.named
  subst hsz
  rw [lg_entry_eq]
  exact body p e s m av.toArray below meth c (va_A wc s.heap.size) _ _ ⟨⟨B.exec, B.bytes, hml, hown, fun w h => hts w (List.mem_cons_of_mem _ h)⟩, hK, fun q h => Or.inr h⟩ ⟨B.returns, B.notSynchronized, rfl, rfl⟩ ⟨hP, hD0.self, va_S.rf⟩ (lv_entry av hav)
section ROWS
variable {p : Program} {l : Launch} {e : Env} {R : Room} {s : State} {m : MethodId} {args : Array Value} {below : List Frame} {meth : Method} {c : Code} {H : Heap} {locs : List Loc} {cells slots : Nat} {Q : State → Prop}
variable {cc : ByteArray} {nL pc : Nat} {ls : Array Slot} {rest : List Value} {own : String} {G : va_G} {A : Nat → Prop} {a : Nat} {tys : List (ClassId × FieldType)} {ws : va_W} {H0 : Heap}
theorem R_get {C : String} {T : u_T} {N ci index : Nat} (X : Fx p m c cc nL s args own G tys A) (hW : Wr G A H0 ws H locs) (hin : ∀ w ∈ u_ws C T N, w ∈ TBL) (hc : vwCl[ci]? = some (C, T, N)) (k : Nat) (hk : k < N) (hlink : Cond.fieldLink own index (T k).1 (T k).2.1 (T k).2.2.1 ∈ TBL) (q0 : Nat) {fs : List Value} (he : ws[q0]? = some (a, .inr (ci, fs))) {v : Value} (hv : fs[k]? = some v) (hdg : decode cc pc = .ok (.getfield index, 3))
    (kk : W p l e R s m args below meth c H locs cells slots Q (F0 m (pc + 3) ls (v :: rest))) : W p l e R s m args below meth c H locs cells slots Q (F0 m pc ls (.ref a :: rest)) :=
  va_get X.1.1 X.1.2.1 X.1.2.2.2.2 hin X.1.2.2.2.1 X.2.1 hW.1 q0 he hc k hk (X.1.2.2.2.2 _ hlink) (fun _ h => h) hv hdg kk
theorem R_put {C : String} {T : u_T} {N ci index : Nat} (X : Fx p m c cc nL s args own G tys A) (hW : Wr G A H0 ws H locs) (hin : ∀ w ∈ u_ws C T N, w ∈ TBL) (hc : vwCl[ci]? = some (C, T, N)) (ty0 : Nat → FieldType) (hty : ∀ k, k < N → parseFieldDescriptor (T k).2.2.1 = some (ty0 k)) (hnm : ∀ a, a < N → ∀ b, b < N → a ≠ b → (T a).2.1 ≠ (T b).2.1) (k : Nat) (hk : k < N) (hlink : Cond.fieldLink own index (T k).1 (T k).2.1 (T k).2.2.1 ∈ TBL) (hfin : (T k).2.2.2 = false) {ty : FieldType} (hd : parseFieldDescriptor (T k).2.2.1 = some ty) (q0 : Nat) {fs : List Value} (he : ws[q0]? = some (a, .inr (ci, fs))) {v : Value} (hn : narrow ty v = v) (hfit : fits ty v = true) (hl : k < fs.length) (hdg : decode cc pc = .ok (.putfield index, 3))
    (kk : ∀ (H1 : Heap) (locs1 : List Loc), Wr G A H0 (ws.set q0 (a, .inr (ci, fs.set k v))) H1 locs1 → W p l e R s m args below meth c H1 locs1 cells slots Q (F0 m (pc + 3) ls rest)) : W p l e R s m args below meth c H locs cells slots Q (F0 m pc ls (v :: .ref a :: rest)) :=
  va_put X.1.1 X.1.2.1 X.1.2.2.2.2 hin ty0 hty hnm X.1.2.2.2.1 X.2.1 hW.1 hW.2.1 hW.2.2 q0 he hc k hk (X.1.2.2.2.2 _ hlink) (fun _ h => h) hfin hd hn hfit hl hdg (fun H1 locs1 h1 h2 h3 => kk H1 locs1 ⟨h1, h2, h3⟩)
theorem R_iald {α : Type} {enc : α → Int32} {f : Nat → α} {n t0 : Nat} {cA : ClassId} (X : Fx p m c cc nL s args own G tys A) (hW : Wr G A H0 ws H locs) (ht : tys[t0]? = some (cA, .int)) (q0 : Nat) (ha : ws[q0]? = some (a, .inl (cA, n, .inl (aE enc f)))) {k : Nat} (hk : k < n) (hn : n < 2 ^ 31) (hdg : decode cc pc = .ok (.iaload, 1))
    (kk : W p l e R s m args below meth c H locs cells slots Q (F0 m (pc + 1) ls (.int (enc (f k)) :: rest))) : W p l e R s m args below meth c H locs cells slots Q (F0 m pc ls (.int (nI k) :: .ref a :: rest)) := by
  refine va_iald X.1.1 X.1.2.1 X.2.1 hW.1 q0 t0 ha ht (vp_in_nI hk hn) hdg ?_
  rw [nI_clamp (Nat.lt_trans hk hn)]
  exact kk
theorem R_zald {α : Type} {enc : α → Int32} {f : Nat → α} {n t0 : Nat} {cA : ClassId} (X : Fx p m c cc nL s args own G tys A) (hW : Wr G A H0 ws H locs) (ht : tys[t0]? = some (cA, .boolean)) (q0 : Nat) (ha : ws[q0]? = some (a, .inl (cA, n, .inl (aE enc f)))) {k : Nat} (hk : k < n) (hn : n < 2 ^ 31) (hdg : decode cc pc = .ok (.baload, 1))
    (kk : W p l e R s m args below meth c H locs cells slots Q (F0 m (pc + 1) ls (.int (enc (f k)) :: rest))) : W p l e R s m args below meth c H locs cells slots Q (F0 m pc ls (.int (nI k) :: .ref a :: rest)) := by
  refine va_zald X.1.1 X.1.2.1 X.2.1 hW.1 q0 t0 ha ht (vp_in_nI hk hn) hdg ?_
  rw [nI_clamp (Nat.lt_trans hk hn)]
  exact kk
theorem R_lald {α : Type} {enc : α → Int64} {f : Nat → α} {n t0 : Nat} {cA : ClassId} (X : Fx p m c cc nL s args own G tys A) (hW : Wr G A H0 ws H locs) (ht : tys[t0]? = some (cA, .long)) (q0 : Nat) (ha : ws[q0]? = some (a, .inl (cA, n, .inr (.inl (aF enc f))))) {k : Nat} (hk : k < n) (hn : n < 2 ^ 31) (hdg : decode cc pc = .ok (.laload, 1))
    (kk : W p l e R s m args below meth c H locs cells slots Q (F0 m (pc + 1) ls (.long (enc (f k)) :: rest))) : W p l e R s m args below meth c H locs cells slots Q (F0 m pc ls (.int (nI k) :: .ref a :: rest)) := by
  refine va_lald X.1.1 X.1.2.1 X.2.1 hW.1 q0 t0 ha ht (vp_in_nI hk hn) hdg ?_
  rw [nI_clamp (Nat.lt_trans hk hn)]
  exact kk
theorem R_iast {α : Type} {enc : α → Int32} {f : Nat → α} {n t0 : Nat} {cA : ClassId} (X : Fx p m c cc nL s args own G tys A) (hW : Wr G A H0 ws H locs) (ht : tys[t0]? = some (cA, .int)) (q0 : Nat) (ha : ws[q0]? = some (a, .inl (cA, n, .inl (aE enc f)))) {k : Nat} (hk : k < n) (hn : n < 2 ^ 31) {x : Int32} (v : α) (hv : x = enc v) (hdg : decode cc pc = .ok (.iastore, 1))
    (kk : ∀ (H1 : Heap) (locs1 : List Loc), Wr G A H0 (ws.set q0 (a, .inl (cA, n, .inl (aE enc (va_up f k v))))) H1 locs1 → W p l e R s m args below meth c H1 locs1 cells slots Q (F0 m (pc + 1) ls rest)) : W p l e R s m args below meth c H locs cells slots Q (F0 m pc ls (.int x :: .int (nI k) :: .ref a :: rest)) := by
  subst hv
  refine va_iast X.1.1 X.1.2.1 X.2.1 hW.1 hW.2.1 hW.2.2 q0 t0 ha ht (vp_in_nI hk hn) hdg (fun H1 locs1 h1 h2 h3 => kk H1 locs1 ?_)
  rw [nI_clamp (Nat.lt_trans hk hn), aE_upd] at h1 h2
  exact ⟨h1, h2, h3⟩
theorem R_zast {f : Nat → Bool} {n t0 : Nat} {cA : ClassId} (X : Fx p m c cc nL s args own G tys A) (hW : Wr G A H0 ws H locs) (ht : tys[t0]? = some (cA, .boolean)) (q0 : Nat) (ha : ws[q0]? = some (a, .inl (cA, n, .inl (aE bI f)))) {k : Nat} (hk : k < n) (hn : n < 2 ^ 31) {x : Int32} (v : Bool) (hv : x = bI v) (hdg : decode cc pc = .ok (.bastore, 1))
    (kk : ∀ (H1 : Heap) (locs1 : List Loc), Wr G A H0 (ws.set q0 (a, .inl (cA, n, .inl (aE bI (va_up f k v))))) H1 locs1 → W p l e R s m args below meth c H1 locs1 cells slots Q (F0 m (pc + 1) ls rest)) : W p l e R s m args below meth c H locs cells slots Q (F0 m pc ls (.int x :: .int (nI k) :: .ref a :: rest)) := by
  subst hv
  refine va_zast X.1.1 X.1.2.1 X.2.1 hW.1 hW.2.1 hW.2.2 q0 t0 ha ht (vp_in_nI hk hn) hdg (fun H1 locs1 h1 h2 h3 => kk H1 locs1 ?_)
  rw [nI_clamp (Nat.lt_trans hk hn), bI_nar, aE_upd] at h1 h2
  exact ⟨h1, h2, h3⟩
theorem R_last {α : Type} {enc : α → Int64} {f : Nat → α} {n t0 : Nat} {cA : ClassId} (X : Fx p m c cc nL s args own G tys A) (hW : Wr G A H0 ws H locs) (ht : tys[t0]? = some (cA, .long)) (q0 : Nat) (ha : ws[q0]? = some (a, .inl (cA, n, .inr (.inl (aF enc f))))) {k : Nat} (hk : k < n) (hn : n < 2 ^ 31) {x : Int64} (v : α) (hv : x = enc v) (hdg : decode cc pc = .ok (.lastore, 1))
    (kk : ∀ (H1 : Heap) (locs1 : List Loc), Wr G A H0 (ws.set q0 (a, .inl (cA, n, .inr (.inl (aF enc (va_up f k v)))))) H1 locs1 → W p l e R s m args below meth c H1 locs1 cells slots Q (F0 m (pc + 1) ls rest)) : W p l e R s m args below meth c H locs cells slots Q (F0 m pc ls (.long x :: .int (nI k) :: .ref a :: rest)) := by
  subst hv
  refine va_last X.1.1 X.1.2.1 X.2.1 hW.1 hW.2.1 hW.2.2 q0 t0 ha ht (vp_in_nI hk hn) hdg (fun H1 locs1 h1 h2 h3 => kk H1 locs1 ?_)
  rw [nI_clamp (Nat.lt_trans hk hn), aF_upd] at h1 h2
  exact ⟨h1, h2, h3⟩
/-! returns -/
variable {wc wv w : va_W} {ov : Option Value} {ret : Option FieldType} {sz : Nat}
abbrev Rx (meth : Method) (below : List Frame) (s : State) (args : Array Value) (ret : Option FieldType) (G : va_G) (wc : va_W) (ov : Option Value) (wv : va_W) (A : Nat → Prop) (Q : State → Prop) : Prop :=
  meth.sig.returnType = ret ∧ meth.locks = false ∧ Q = MQ below (CQ G wc s.heap.size ov wv) args s 0 0 A ∧ A = va_A wc s.heap.size
theorem R_q (Y : Rx meth below s args ret G wc ov wv A Q) (hW : Wr G A s.heap w H locs) (hw : w = wv) {oc : Option Value} (ho : oc = ov) : ∀ t : State, t.heap = H → s.WarmedH t.vm → CQ G wc s.heap.size ov wv args s (.returned oc) t := fun t ht hwm => by
  subst hw; subst ho
  obtain ⟨-, -, -, rfl⟩ := Y
  exact ⟨rfl, by rw [ht]; exact hW.1, hW.2.1, hW.2.2.F ht⟩
theorem R_iret (X : Fx p m c cc nL s args own G tys A) (Y : Rx meth below s args (some .int) G wc ov wv A Q) (hW : Wr G A s.heap w H locs) (hw : w = wv) {x : Int32} (ho : some (Value.int x) = ov) (hdg : decode cc pc = .ok (.ireturn, 1)) : W p l e R s m args below meth c H locs 0 0 Q (F0 m pc ls [.int x]) := by
  have hq := R_q Y hW hw ho
  obtain ⟨hr, hlk, rfl, hAe⟩ := Y
  exact W.iret X.1.1 X.1.2.1 hr hq hW.2.2.2.2 hdg hlk
theorem R_zret (X : Fx p m c cc nL s args own G tys A) (Y : Rx meth below s args (some .boolean) G wc ov wv A Q) (hW : Wr G A s.heap w H locs) (hw : w = wv) {x : Int32} (b : Bool) (hx : x = bI b) (ho : some (Value.int (bI b)) = ov) (hdg : decode cc pc = .ok (.ireturn, 1)) : W p l e R s m args below meth c H locs 0 0 Q (F0 m pc ls [.int x]) := by
  subst hx
  have hq := R_q Y hW hw ho
  obtain ⟨hr, hlk, rfl, hAe⟩ := Y
  exact W.zret X.1.1 X.1.2.1 hr (bI_narrow b) hq hW.2.2.2.2 hdg hlk
theorem R_lret (X : Fx p m c cc nL s args own G tys A) (Y : Rx meth below s args (some .long) G wc ov wv A Q) (hW : Wr G A s.heap w H locs) (hw : w = wv) {x : Int64} (ho : some (Value.long x) = ov) (hdg : decode cc pc = .ok (.lreturn, 1)) : W p l e R s m args below meth c H locs 0 0 Q (F0 m pc ls [.long x]) := by
  have hq := R_q Y hW hw ho
  obtain ⟨hr, hlk, rfl, hAe⟩ := Y
  exact W.lret X.1.1 X.1.2.1 hr hq hW.2.2.2.2 hdg hlk
theorem R_vret (X : Fx p m c cc nL s args own G tys A) (Y : Rx meth below s args none G wc ov wv A Q) (hW : Wr G A s.heap w H locs) (hw : w = wv) (ho : none = ov) (hdg : decode cc pc = .ok (.return_, 1)) : W p l e R s m args below meth c H locs 0 0 Q (F0 m pc ls []) := by
  have hq := R_q Y hW hw ho
  obtain ⟨hr, hlk, rfl, hAe⟩ := Y
  exact W.vret X.1.1 X.1.2.1 hr hq hW.2.2.2.2 hdg hlk
end ROWS
/-! a call -/
def rp_set (ws : va_W) : List Nat → va_W → va_W
  | i :: is, x :: xs => rp_set (ws.set i x) is xs
  | _, _ => ws
theorem rp_mem : ∀ (is : List Nat) (xs ws : va_W) (k : Nat) (q : Nat × va_E), is.length = xs.length → (rp_set ws is xs)[k]? = some q → q ∈ xs ∨ (k ∉ is ∧ ws[k]? = some q)
  | [], xs, ws, k, q, _, h => by
    right
    exact ⟨List.not_mem_nil, by cases xs <;> exact h⟩
  | i :: is, [], ws, k, q, hl, h => by simp at hl
  | i :: is, x :: xs, ws, k, q, hl, h => by
    have hl' : is.length = xs.length := by simpa using hl
    rcases rp_mem is xs (ws.set i x) k q hl' h with h1 | ⟨h1, h2⟩
    · exact Or.inl (List.mem_cons_of_mem _ h1)
    · by_cases hk : k = i
      · subst hk
        left
        rw [List.getElem?_set] at h2
        by_cases hlt : k < ws.length
        · simp [hlt] at h2
          rw [h2]; exact List.mem_cons_self
        · simp [hlt] at h2
      · right
        rw [List.getElem?_set_ne (fun e => hk e.symm)] at h2
        exact ⟨fun hm => by
          rcases List.mem_cons.mp hm with e | e
          · exact hk e
          · exact h1 e, h2⟩
theorem rp_fst : ∀ (is : List Nat) (xs ws : va_W), is.map (fun i => (ws[i]?).map Prod.fst) = xs.map (fun x => some x.1) → (rp_set ws is xs).map Prod.fst = ws.map Prod.fst
  | [], xs, ws, _ => by cases xs <;> rfl
  | i :: is, [], ws, h => by simp at h
  | i :: is, x :: xs, ws, h => by
    simp only [List.map_cons, List.cons.injEq] at h
    obtain ⟨h1, h2⟩ := h
    have e : (ws.set i x).map Prod.fst = ws.map Prod.fst := by
      apply List.ext_getElem?
      intro j
      rw [List.getElem?_map, List.getElem?_map, List.getElem?_set]
      by_cases hj : i = j
      · subst hj
        rw [if_pos rfl]
        by_cases hlt : i < ws.length
        · rw [if_pos hlt, h1]; rfl
        · rw [if_neg hlt]
          rw [List.getElem?_eq_none (by omega)]
      · rw [if_neg hj]
    show (rp_set (ws.set i x) is xs).map Prod.fst = _
    rw [rp_fst is xs (ws.set i x) ?_, e]
    rw [← h2]
    apply List.map_congr_left
    intro j _
    show (ws.set i x)[j]?.map Prod.fst = (ws[j]?).map Prod.fst
    rw [← List.getElem?_map, ← List.getElem?_map, e]
theorem va_D.fst {A : Nat → Prop} {ws ws' : va_W} (h : va_D A ws) (he : ws'.map Prod.fst = ws.map Prod.fst) : va_D A ws' := by
  have key : ∀ (i : Nat) (p : Nat × va_E), ws'[i]? = some p → ∃ p', ws[i]? = some p' ∧ p'.1 = p.1 := by
    intro i p hp
    have h1 := congrArg (fun l => l[i]?) he
    simp only [List.getElem?_map, hp, Option.map_some] at h1
    cases hw : ws[i]? with
    | none => rw [hw] at h1; simp at h1
    | some p' =>
      rw [hw] at h1
      exact ⟨p', rfl, (by simpa using h1.symm)⟩
  refine ⟨fun i j p q hi hj hpq => ?_, fun k q hk => ?_⟩
  · obtain ⟨p', a1, a2⟩ := key i p hi
    obtain ⟨q', b1, b2⟩ := key j q hj
    exact h.1 i j p' q' a1 b1 (by rw [a2, b2, hpq])
  · obtain ⟨q', a1, a2⟩ := key k q hk
    rw [← a2]
    exact h.2 k q' a1
/-! the callee's cells by a mask -/
def mk_pos : List Bool → Nat → List Nat
  | [], _ => []
  | true :: bs, n => n :: mk_pos bs (n + 1)
  | false :: bs, n => mk_pos bs (n + 1)
def mk_pick : va_W → List Bool → va_W
  | w :: ws, true :: bs => w :: mk_pick ws bs
  | _ :: ws, false :: bs => mk_pick ws bs
  | _, _ => []
def mk_put : va_W → List Bool → va_W → va_W
  | _ :: ws, true :: bs, x :: xs => x :: mk_put ws bs xs
  | w :: ws, false :: bs, xs => w :: mk_put ws bs xs
  | ws, _, _ => ws
theorem mk_pick_pos : ∀ (bs : List Bool) (ws pre : va_W), bs.length ≤ ws.length → (mk_pos bs pre.length).map (fun i => (pre ++ ws)[i]?) = (mk_pick ws bs).map some
  | [], ws, pre, _ => by cases ws <;> rfl
  | b :: bs, [], pre, h => by simp at h
  | true :: bs, w :: ws, pre, h => by
    have ih := mk_pick_pos bs ws (pre ++ [w]) (by simpa using h)
    simp only [List.length_append, List.length_cons, List.length_nil, List.append_assoc, List.cons_append, List.nil_append, Nat.zero_add] at ih
    simp only [mk_pos, mk_pick, List.map_cons, ih]
    simp
  | false :: bs, w :: ws, pre, h => by
    have ih := mk_pick_pos bs ws (pre ++ [w]) (by simpa using h)
    simp only [List.length_append, List.length_cons, List.length_nil, List.append_assoc, List.cons_append, List.nil_append, Nat.zero_add] at ih
    simp only [mk_pos, mk_pick, ih]
theorem mk_put_set : ∀ (bs : List Bool) (ws pre xs : va_W), bs.length ≤ ws.length → rp_set (pre ++ ws) (mk_pos bs pre.length) xs = pre ++ mk_put ws bs xs
  | [], ws, pre, xs, _ => by cases ws <;> cases xs <;> rfl
  | b :: bs, [], pre, xs, h => by simp at h
  | true :: bs, w :: ws, pre, [], h => by simp [mk_pos, rp_set, mk_put]
  | true :: bs, w :: ws, pre, x :: xs, h => by
    have ih := mk_put_set bs ws (pre ++ [x]) xs (by simpa using h)
    simp only [List.length_append, List.length_cons, List.length_nil, List.append_assoc, List.cons_append, List.nil_append, Nat.zero_add] at ih
    simp only [mk_pos, rp_set, mk_put]
    rw [show (pre ++ w :: ws).set pre.length x = pre ++ x :: ws by simp]
    exact ih
  | false :: bs, w :: ws, pre, xs, h => by
    have ih := mk_put_set bs ws (pre ++ [w]) xs (by simpa using h)
    simp only [List.length_append, List.length_cons, List.length_nil, List.append_assoc, List.cons_append, List.nil_append, Nat.zero_add] at ih
    simp only [mk_pos]
    rw [ih]
    cases xs <;> rfl
section CALLS
variable {p : Program} {l : Launch} {e : Env} {R : Room} {s : State} {m : MethodId} {args : Array Value} {below : List Frame} {meth : Method} {c : Code} {H : Heap} {locs : List Loc} {cells slots : Nat} {Q : State → Prop}
variable {cc : ByteArray} {nL pc : Nat} {ls : Array Slot} {rest st0 st1 : List Value} {own : String} {G : va_G} {A : Nat → Prop} {a : Nat} {tys : List (ClassId × FieldType)} {ws wc wv : va_W} {H0 : Heap} {ov : Option Value} {ar : Array Value}
theorem R_run (hr : va_Run p l e R s m args below meth c H locs cells slots 0 0 (F0 m pc ls st0) rest (CQ G wc H.size ov wv ar) (va_A wc H.size)) (hW : Wr G A H0 ws H locs) (hA : ∀ q, H0.size ≤ q → A q) (isC : List Nat) (hC : isC.map (fun i => ws[i]?) = wc.map some) (hv : wv.map Prod.fst = wc.map Prod.fst) (hst : ov.toList ++ rest = st1)
    (kk : ∀ (H1 : Heap) (locs1 : List Loc), Wr G A H0 (rp_set ws isC wv) H1 locs1 → W p l e R s m args below meth c H1 locs1 cells slots Q (F0 m (pc + 3) ls st1)) : W p l e R s m args below meth c H locs cells slots Q (F0 m pc ls st0) := by
  subst hst
  obtain ⟨hP, hD, hS⟩ := hW
  have hF := va_free (wc := wc) hD hS hA isC hC
  have hlen : isC.length = wv.length := by
    have h1 := congrArg List.length hC
    have h2 := congrArg List.length hv
    simp at h1 h2
    omega
  have hCat : ∀ (j i : Nat), isC[j]? = some i → ∃ q, wc[j]? = some q ∧ ws[i]? = some q := by
    intro j i hj
    have h1 := congrArg (fun l => l[j]?) hC
    simp only [List.getElem?_map, hj, Option.map_some] at h1
    cases hw : wc[j]? with
    | none => rw [hw] at h1; simp at h1
    | some q => rw [hw] at h1; exact ⟨q, rfl, by simpa using h1⟩
  intro T hT Xs
  obtain ⟨v, st₀, t, T', L, h0, X', hL, e1, e2, ⟨hv1, hP1, hD1, hz, hk⟩, st⟩ := hr T hT Xs
  cases hv1
  rw [h0] at hz hk
  have hS1 : va_S A H0 T'.heap (locs ++ L) := ⟨Nat.le_trans hS.1 (by rw [e1]; exact hz), fun q h1 h2 => by rw [e1, hk q (Nat.lt_of_lt_of_le h1 hS.1) (fun z => h2 (hF q z))]; exact hS.2.1 q h1 h2, fun q hq => by
      rcases List.mem_append.mp hq with h | h
      · exact hS.2.2 q h
      · exact hF _ (hL q h)⟩
  have hP2 : va_P G vwCl (rp_set ws isC wv) T'.heap := by
    intro k q hq
    rcases rp_mem isC wv ws k q hlen hq with h1 | ⟨h1, h2⟩
    · obtain ⟨j, hj⟩ := List.getElem?_of_mem h1
      rw [e1]
      exact hP1 j q hj
    · refine (hP k q h2).kept ?_
      rw [e1]
      refine hk q.1 (hP k q h2).lt ?_
      rintro (⟨j, e', hj⟩ | hge)
      · have hjl : j < isC.length := by
          have := (List.getElem?_eq_some_iff.mp hj).1
          have h1 := congrArg List.length hC
          simp at h1
          omega
        obtain ⟨q', g1, g2⟩ := hCat j isC[j] (List.getElem?_eq_getElem hjl)
        rw [hj] at g1
        have e3 : q'.1 = q.1 := by rw [← Option.some.inj g1]
        have := hD.1 _ _ _ _ g2 h2 e3
        exact h1 (this ▸ List.getElem_mem hjl)
      · exact absurd (hP k q h2).lt (Nat.not_lt.mpr hge)
  have hD2 : va_D A (rp_set ws isC wv) := by
    refine hD.fst (rp_fst isC wv ws ?_)
    have h1 : isC.map (fun i => (ws[i]?).map Prod.fst) = (isC.map (fun i => ws[i]?)).map (fun o => o.map Prod.fst) := by rw [List.map_map]; rfl
    rw [h1, hC, List.map_map]
    have h2 : wv.map (fun x => some x.1) = (wv.map Prod.fst).map some := by rw [List.map_map]; rfl
    rw [h2, hv, List.map_map]
    rfl
  obtain ⟨t2, a1, b1⟩ := kk T'.heap (locs ++ L) ⟨hP2, hD2, hS1⟩ T' rfl X'
  exact ⟨t2, st t2 a1, b1⟩
/-- what a caller knows of its callee -/
def Cw (own : String) (index : Nat) (y : MethodName) (bytes : ByteArray) (maxL : Nat) (ret : Option FieldType) (n : Nat) : Prop :=
  Cond.code y bytes maxL ret ∈ TBL ∧ Cond.initialized y.cls ∈ TBL ∧ Cond.methodLink own index y ∈ TBL ∧ (y.cls ≠ "java/lang/invoke/MethodHandle" ∧ y.cls ≠ "java/lang/invoke/VarHandle" ∧ (parseMethodDescriptor y.desc).map (fun d => d.parameters.length) = some n)
theorem Cw.toB {index maxL n : Nat} {y : MethodName} {bytes : ByteArray} {ret : Option FieldType} {rm : Room} (h : Cw own index y bytes maxL ret n) (hts : ∀ w ∈ TBL, w.before args s = true) (hrm : rm.cells = 0 ∧ rm.slots = 0) (hR : rm.frames + 1 ≤ R.frames ∧ 8 + (maxL + 11) + rm.locals ≤ R.locals) : CallB R s args own index y bytes maxL ret (.code y bytes maxL ret :: TBL) rm 0 0 n := by
  obtain ⟨h1, h2, h3, h4⟩ := h
  exact callB_of n hts (fun w hw => by
    rcases List.mem_cons.mp hw with e | e
    · rw [e]; exact ⟨h1, TBL_good _ h1⟩
    · exact ⟨e, TBL_good _ e⟩) rfl hrm.1 hrm.2 (hts _ h2) (hts _ h3) h4 hR
theorem R_pre {av : List Value} (X : Fx p m c cc nL s args own G tys A) (hW : Wr G A H0 ws H locs) (isC : List Nat) (hn : va_nd isC = true) (hC : isC.map (fun i => ws[i]?) = wc.map some) : ∀ U : State, U.heap = H → s.WarmedH U.vm → CPre G tys av wc H.size av.toArray U := by
  intro U hU hw
  have hD := hW.2.1.sub (ws' := wc) isC hn hC
  have hP : va_P G vwCl wc H := by
    intro j q hj
    have h1 := congrArg (fun l => l[j]?) hC
    simp only [List.getElem?_map, hj, Option.map_some] at h1
    cases hi : isC[j]? with
    | none => rw [hi] at h1; simp at h1
    | some i =>
      rw [hi] at h1
      exact hW.1 i q (by simpa using h1)
  exact ⟨rfl, by rw [hU], by rw [hU]; exact hP, va_K.moved hw.alike X.2.1, hD.weaken (fun _ _ _ _ => trivial)⟩
/-- invokevirtual -/
theorem R_callV0 {C : String} {T : u_T} {N ci q0 b index maxL n : Nat} {y : MethodName} {bytes : ByteArray} {ret : Option FieldType} {rm : Room} {As fs : List Value} (hM : Ct l G tys y bytes maxL ret rm (.ref b :: As) wc ov wv) (X : Fx p m c cc nL s args own G tys A) (hs : H0 = s.heap) (hW : Wr G A H0 ws H locs) (hc : Cw own index y bytes maxL ret n) (hin : Cond.instanceMethod y ∈ TBL) (hse : Cond.selects C y y ∈ TBL) (hcl : vwCl[ci]? = some (C, T, N)) (he : ws[q0]? = some (b, .inr (ci, fs))) (hrm : rm.cells = 0 ∧ rm.slots = 0) (hR : rm.frames + 1 ≤ R.frames ∧ 8 + (maxL + 11) + rm.locals ≤ R.locals) (hcs : cells ≤ R.cells ∧ slots ≤ R.slots) (isC : List Nat) (hn : va_nd isC = true) (hC : isC.map (fun i => ws[i]?) = wc.map some) (hv : wv.map Prod.fst = wc.map Prod.fst) (hl : ls.size = nL) (hsk : st0 = As.reverse ++ .ref b :: rest) (hlen : As.length = n) (hw8 : (rest.map fun v => v.category).sum ≤ 8) (hdg : decode cc pc = .ok (.invokevirtual index, 3)) (hst : ov.toList ++ rest = st1)
    (kk : ∀ (H1 : Heap) (locs1 : List Loc), Wr G A H0 (rp_set ws isC wv) H1 locs1 → W p l e R s m args below meth c H1 locs1 cells slots Q (F0 m (pc + 3) ls st1)) : W p l e R s m args below meth c H locs cells slots Q (F0 m pc ls st0) := by
  have hts := X.1.2.2.2.2
  refine R_run (va_runV X.1 (hM H.size) ⟨hc.toB hts hrm hR, hts _ hin, hts _ hse⟩ ⟨CPre_blind, va_recv X.2.1 hW.1 hcl he, R_pre X hW isC hn hC⟩ rfl hlen hl hsk (lv_room hw8) hdg ⟨hcs.1, hcs.2⟩) hW (by rw [hs]; exact X.2.2) isC hC hv hst kk
/-- invokestatic -/
theorem R_callS0 {index maxL n : Nat} {y : MethodName} {bytes : ByteArray} {ret : Option FieldType} {rm : Room} {As : List Value} (hM : Ct l G tys y bytes maxL ret rm As wc ov wv) (X : Fx p m c cc nL s args own G tys A) (hs : H0 = s.heap) (hW : Wr G A H0 ws H locs) (hc : Cw own index y bytes maxL ret n) (hin : Cond.static y ∈ TBL) (hrm : rm.cells = 0 ∧ rm.slots = 0) (hR : rm.frames + 1 ≤ R.frames ∧ 8 + (maxL + 11) + rm.locals ≤ R.locals) (hcs : cells ≤ R.cells ∧ slots ≤ R.slots) (isC : List Nat) (hn : va_nd isC = true) (hC : isC.map (fun i => ws[i]?) = wc.map some) (hv : wv.map Prod.fst = wc.map Prod.fst) (hl : ls.size = nL) (hsk : st0 = As.reverse ++ rest) (hlen : As.length = n) (hw8 : (rest.map fun v => v.category).sum ≤ 8) (hdg : decode cc pc = .ok (.invokestatic index, 3)) (hst : ov.toList ++ rest = st1)
    (kk : ∀ (H1 : Heap) (locs1 : List Loc), Wr G A H0 (rp_set ws isC wv) H1 locs1 → W p l e R s m args below meth c H1 locs1 cells slots Q (F0 m (pc + 3) ls st1)) : W p l e R s m args below meth c H locs cells slots Q (F0 m pc ls st0) := by
  have hts := X.1.2.2.2.2
  refine R_run (va_runS X.1 (hM H.size) ⟨hc.toB hts hrm hR, hts _ hin⟩ ⟨CPre_blind, R_pre X hW isC hn hC⟩ rfl hlen hl hsk (lv_room hw8) hdg ⟨hcs.1, hcs.2⟩) hW (by rw [hs]; exact X.2.2) isC hC hv hst kk
theorem R_callV {C : String} {T : u_T} {N ci q0 b index maxL n : Nat} {y : MethodName} {bytes : ByteArray} {ret : Option FieldType} {rm : Room} {As fs : List Value} (hM : Ct l G tys y bytes maxL ret rm (.ref b :: As) wc ov wv) (X : Fx p m c cc nL s args own G tys A) (hs : H0 = s.heap) (hW : Wr G A H0 ws H locs) (hc : Cw own index y bytes maxL ret n) (hin : Cond.instanceMethod y ∈ TBL) (hse : Cond.selects C y y ∈ TBL) (hcl : vwCl[ci]? = some (C, T, N)) (he : ws[q0]? = some (b, .inr (ci, fs))) (hrm : rm.cells = 0 ∧ rm.slots = 0) (hR : rm.frames + 1 ≤ R.frames ∧ 8 + (maxL + 11) + rm.locals ≤ R.locals) (hcs : cells ≤ R.cells ∧ slots ≤ R.slots) (bs : List Bool) (hn : va_nd (mk_pos bs 0) = true) (hbs : bs.length ≤ ws.length) (hC : mk_pick ws bs = wc) (hv : wv.map Prod.fst = wc.map Prod.fst) (hl : ls.size = nL) (hsk : st0 = As.reverse ++ .ref b :: rest) (hlen : As.length = n) (hw8 : (rest.map fun v => v.category).sum ≤ 8) (hdg : decode cc pc = .ok (.invokevirtual index, 3)) (hst : ov.toList ++ rest = st1)
    (kk : ∀ (H1 : Heap) (locs1 : List Loc), Wr G A H0 (mk_put ws bs wv) H1 locs1 → W p l e R s m args below meth c H1 locs1 cells slots Q (F0 m (pc + 3) ls st1)) : W p l e R s m args below meth c H locs cells slots Q (F0 m pc ls st0) := by
  have h1 := mk_pick_pos bs ws [] hbs
  have h2 := mk_put_set bs ws [] wv hbs
  simp only [List.length_nil, List.nil_append] at h1 h2
  rw [hC] at h1
  refine R_callV0 hM X hs hW hc hin hse hcl he hrm hR hcs (mk_pos bs 0) hn h1 hv hl hsk hlen hw8 hdg hst (fun H1 locs1 hW1 => kk H1 locs1 ?_)
  rw [h2] at hW1
  exact hW1
theorem R_callS {index maxL n : Nat} {y : MethodName} {bytes : ByteArray} {ret : Option FieldType} {rm : Room} {As : List Value} (hM : Ct l G tys y bytes maxL ret rm As wc ov wv) (X : Fx p m c cc nL s args own G tys A) (hs : H0 = s.heap) (hW : Wr G A H0 ws H locs) (hc : Cw own index y bytes maxL ret n) (hin : Cond.static y ∈ TBL) (hrm : rm.cells = 0 ∧ rm.slots = 0) (hR : rm.frames + 1 ≤ R.frames ∧ 8 + (maxL + 11) + rm.locals ≤ R.locals) (hcs : cells ≤ R.cells ∧ slots ≤ R.slots) (bs : List Bool) (hn : va_nd (mk_pos bs 0) = true) (hbs : bs.length ≤ ws.length) (hC : mk_pick ws bs = wc) (hv : wv.map Prod.fst = wc.map Prod.fst) (hl : ls.size = nL) (hsk : st0 = As.reverse ++ rest) (hlen : As.length = n) (hw8 : (rest.map fun v => v.category).sum ≤ 8) (hdg : decode cc pc = .ok (.invokestatic index, 3)) (hst : ov.toList ++ rest = st1)
    (kk : ∀ (H1 : Heap) (locs1 : List Loc), Wr G A H0 (mk_put ws bs wv) H1 locs1 → W p l e R s m args below meth c H1 locs1 cells slots Q (F0 m (pc + 3) ls st1)) : W p l e R s m args below meth c H locs cells slots Q (F0 m pc ls st0) := by
  have h1 := mk_pick_pos bs ws [] hbs
  have h2 := mk_put_set bs ws [] wv hbs
  simp only [List.length_nil, List.nil_append] at h1 h2
  rw [hC] at h1
  refine R_callS0 hM X hs hW hc hin hrm hR hcs (mk_pos bs 0) hn h1 hv hl hsk hlen hw8 hdg hst (fun H1 locs1 hW1 => kk H1 locs1 ?_)
  rw [h2] at hW1
  exact hW1
end CALLS
end BASE
