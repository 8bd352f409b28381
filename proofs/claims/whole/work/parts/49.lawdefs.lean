-- ===== end of PART A; then your names; then what follows =====
/-! THE CLAIM OUT OF ONE WALK OF THE LAW'S BODY. Your part is whole_start (and what it stands on); all else here is the same for every law, but numbers. -/
def R_law : String := "ContestRowsLaw"
def lw_P (b : Addr) (xs : List Int32) (args : Array Value) (s : State) : Prop := args = #[.ref b] ∧ s.IntsAt b xs ∧ xs.length ≤ 3072 ∧ (Jvm.Cond.and given_1 narrow_1).before args s = true
def lw_Q (_ : Array Value) (s : State) (o : Outcome) (t : State) : Prop := o = .returned (some (.int 1)) ∧ Framed s o t [] 45 6900
def lw_Z (below : List Frame) (a : Array Value) (s : State) : State → Prop := fun t => ∃ o, t.status = .running ∧ Ended t below o ∧ lw_Q a s o t
/-- the law's own end, with 1 on the stack, nothing written that was there before, its room as the claim has it -/
theorem lw_ret {p : Program} {l : Launch} {e : Env} {s : State} {m : MethodId} {below : List Frame} {meth : Method} {c : Code} {b : Nat} (hx : p.tables.exec = Jvm.exec) (hb : c.code = code) (hr : meth.sig.returnType = ret) (hlocks : meth.locks = false) {pc : Nat} {H : Heap} {ls : Array Slot} (hdg : decode code pc = .ok (.ireturn, 1)) : W p l e room_1 s m #[Value.ref b] below meth c H [] 45 6900 (lw_Z below #[Value.ref b] s) (F0 m pc ls [.int 1]) := by
  intro T hT X
  obtain ⟨fs, hret, hrun, hended, hW, hframe⟩ := X.leave (v := some (.int 1)) (hlocks := hlocks) (fun h => by rw [hr] at h; cases h)
  have hmeth' : T.vm.method? m = some meth := X.method'
  refine ⟨T.setFrames fs, ?_, .returned (some (.int 1)), hrun, hended, rfl, ⟨_, rfl⟩, hW, hframe⟩
  jvm_step X.here [X.here.top, hx, hb, hdg, hmeth', hr, ret, narrow_b1]
  (try refine ⟨rfl, ?_⟩); (try refine ⟨rfl, ?_⟩)
  first | (intro acts; rw [hret _ acts rfl rfl rfl]) | rw [hret _ _ rfl rfl rfl]
  exact Steps.refl _
/-- what holds at the law's entry: the machine, the code, the tables' words (any of lw_tbl by 'hts w (by decide +kernel)'), the script of L ints xs at the cell b, what the Statement gives of the start (any of its parts by flat_of_before) -/
def lw_At (p : Program) (s : State) (m : MethodId) (meth : Method) (c : Code) (b L : Nat) (xs : Nat → Int32) : Prop :=
  p.tables.exec = Jvm.exec ∧ c.code = code ∧ meth.sig.returnType = ret ∧ c.maxLocals = 4 ∧ s.vm.findClass R_law = some m.cls ∧ (∀ w ∈ lw_tbl, w.before #[Value.ref b] s = true) ∧ va_X b L xs s s.heap ∧ b < s.heap.size ∧ meth.locks = false ∧ (Jvm.Cond.and given_1 narrow_1).before #[Value.ref b] s = true
/-! LAW: the two systems side by side -/
section LAWB
theorem InvW.facts {h hm : Nat → Nat} {cI cZ cJ : ClassId} {wa wm : va_W} (hI : InvW h hm cI cZ cJ wa wm) : wa.map Prod.fst = (List.range 28).map h ∧ wm.map Prod.fst = (List.range 17).map hm ∧ (∃ fs, wa[0]? = some (h 0, .inr (5, fs))) ∧ (∃ fs, wm[0]? = some (hm 0, .inr (6, fs))) ∧ wa.length = 28 ∧ wm.length = 17 := by
  obtain ⟨wr, se, ga, tw, np, tot, gr, fa, re, ss, sc, ne, stt, sco, tim, cnt, ns, sp, sq, sec, rt, it, ans, tl, un, nw, td, mth, mbd, mtd, mss, msc, mip, mcb, msco, mtim, rfl, rfl, -⟩ := hI
  exact ⟨rfl, rfl, ⟨_, rfl⟩, ⟨_, rfl⟩, rfl, rfl⟩
theorem pk_l : ∀ (wa wm : va_W), mk_pick (wa ++ wm) (List.replicate wa.length true) = wa
  | [], wm => by cases wm <;> rfl
  | w :: wa, wm => by show w :: mk_pick (wa ++ wm) (List.replicate wa.length true) = _; rw [pk_l wa wm]
theorem pt_l : ∀ (wa wm wa' : va_W), wa'.length = wa.length → mk_put (wa ++ wm) (List.replicate wa.length true) wa' = wa' ++ wm
  | [], wm, wa', h => by
    have : wa' = [] := List.length_eq_zero_iff.mp h
    subst this
    cases wm <;> rfl
  | w :: wa, wm, [], h => by simp at h
  | w :: wa, wm, x :: wa', h => by
    show x :: mk_put (wa ++ wm) (List.replicate wa.length true) wa' = _
    rw [pt_l wa wm wa' (by simpa using h)]
    rfl
theorem pk_r : ∀ (wa wm : va_W) (bs : List Bool), mk_pick (wa ++ wm) (List.replicate wa.length false ++ bs) = mk_pick wm bs
  | [], wm, bs => rfl
  | w :: wa, wm, bs => by
    show mk_pick (wa ++ wm) (List.replicate wa.length false ++ bs) = _
    exact pk_r wa wm bs
theorem pt_r : ∀ (wa wm wm' : va_W) (bs : List Bool), mk_put (wa ++ wm) (List.replicate wa.length false ++ bs) wm' = wa ++ mk_put wm bs wm'
  | [], wm, wm', bs => rfl
  | w :: wa, wm, wm', bs => by
    show w :: mk_put (wa ++ wm) (List.replicate wa.length false ++ bs) wm' = _
    rw [pt_r wa wm wm' bs]
    rfl
variable {p : Program} {l : Launch} {e : Env} {R : Room} {s : State} {m : MethodId} {args : Array Value} {below : List Frame} {meth : Method} {c : Code} {H : Heap} {locs : List Loc} {cells slots : Nat} {Q : State → Prop}
variable {cc : ByteArray} {nL pc : Nat} {ls : Array Slot} {rest st0 st1 : List Value} {own : String} {G : va_G} {A : Nat → Prop} {tys : List (ClassId × FieldType)} {wa wm wa' wm' : va_W} {ov : Option Value}
theorem R_callA {C : String} {T : u_T} {N ci b0 index maxL n d : Nat} {y : MethodName} {bytes : ByteArray} {ret : Option FieldType} {As fs : List Value} (hM : Ct l G tys y bytes maxL ret (rmL d) (.ref b0 :: As) wa ov wa') (X : Fx p m c cc nL s args own G tys A) (hW : Wr G A s.heap (wa ++ wm) H locs) (hc : Cw own index y bytes maxL ret n) (hin : Cond.instanceMethod y ∈ TBL) (hse : Cond.selects C y y ∈ TBL) (hcl : vwCl[ci]? = some (C, T, N)) (he : wa[0]? = some (b0, .inr (ci, fs))) (hR : d + 1 ≤ R.frames ∧ 8 + (maxL + 11) + 44 * d ≤ R.locals) (hcs : cells ≤ R.cells ∧ slots ≤ R.slots) (hL : wa.length = 28) (hv : wa'.map Prod.fst = wa.map Prod.fst) (hl : ls.size = nL) (hsk : st0 = As.reverse ++ .ref b0 :: rest) (hlen : As.length = n) (hw8 : (rest.map fun v => v.category).sum ≤ 8) (hdg : decode cc pc = .ok (.invokevirtual index, 3)) (hst : ov.toList ++ rest = st1)
    (kk : ∀ (H1 : Heap) (locs1 : List Loc), Wr G A s.heap (wa' ++ wm) H1 locs1 → W p l e R s m args below meth c H1 locs1 cells slots Q (F0 m (pc + 3) ls st1)) : W p l e R s m args below meth c H locs cells slots Q (F0 m pc ls st0) := by
  have hlv : wa'.length = wa.length := by have := congrArg List.length hv; simpa using this
  have e1 := pk_l wa wm
  have e2 := pt_l wa wm wa' hlv
  rw [hL] at e1 e2
  refine R_callV (q0 := 0) hM X rfl hW hc hin hse hcl (by rw [List.getElem?_append_left (by omega)]; exact he) ⟨rfl, rfl⟩ hR hcs (List.replicate 28 true) (by decide) (by rw [List.length_append, List.length_replicate]; omega) e1 hv hl hsk hlen hw8 hdg hst (fun H1 locs1 h1 => kk H1 locs1 ?_)
  rw [e2] at h1
  exact h1
theorem R_callAX {aK aV : Nat} {C : String} {T : u_T} {N ci b0 index maxL n d : Nat} {y : MethodName} {bytes : ByteArray} {ret : Option FieldType} {As fs : List Value} (hM : CtX l aK aV G tys y bytes maxL ret (rmL d) (.ref b0 :: As) wa ov wa') (X : Fx p m c cc nL s args own G tys A) (hE : JX aK aV A s) (hW : Wr G A s.heap (wa ++ wm) H locs) (hc : Cw own index y bytes maxL ret n) (hin : Cond.instanceMethod y ∈ TBL) (hse : Cond.selects C y y ∈ TBL) (hcl : vwCl[ci]? = some (C, T, N)) (he : wa[0]? = some (b0, .inr (ci, fs))) (hR : d + 1 ≤ R.frames ∧ 8 + (maxL + 11) + 44 * d ≤ R.locals) (hcs : cells ≤ R.cells ∧ slots ≤ R.slots) (hL : wa.length = 28) (hv : wa'.map Prod.fst = wa.map Prod.fst) (hl : ls.size = nL) (hsk : st0 = As.reverse ++ .ref b0 :: rest) (hlen : As.length = n) (hw8 : (rest.map fun v => v.category).sum ≤ 8) (hdg : decode cc pc = .ok (.invokevirtual index, 3)) (hst : ov.toList ++ rest = st1)
    (kk : ∀ (H1 : Heap) (locs1 : List Loc), Wr G A s.heap (wa' ++ wm) H1 locs1 → W p l e R s m args below meth c H1 locs1 cells slots Q (F0 m (pc + 3) ls st1)) : W p l e R s m args below meth c H locs cells slots Q (F0 m pc ls st0) := by
  have hlv : wa'.length = wa.length := by have := congrArg List.length hv; simpa using this
  have e1 := pk_l wa wm
  have e2 := pt_l wa wm wa' hlv
  rw [hL] at e1 e2
  refine R_callVX hM X hE hW hc hin hse (va_recv X.2.1 hW.1 (q0 := 0) hcl (by rw [List.getElem?_append_left (by omega)]; exact he)) ⟨rfl, rfl⟩ hR hcs (List.replicate 28 true) (by decide) (by rw [List.length_append, List.length_replicate]; omega) e1 hv hl hsk hlen hw8 hdg hst (fun H1 locs1 h1 => kk H1 locs1 ?_)
  rw [e2] at h1
  exact h1
theorem R_callB {C : String} {T : u_T} {N ci b0 index maxL n d : Nat} {y : MethodName} {bytes : ByteArray} {ret : Option FieldType} {As fs : List Value} (hM : Ct l G tys y bytes maxL ret (rmL d) (.ref b0 :: As) wm ov wm') (X : Fx p m c cc nL s args own G tys A) (hW : Wr G A s.heap (wa ++ wm) H locs) (hc : Cw own index y bytes maxL ret n) (hin : Cond.instanceMethod y ∈ TBL) (hse : Cond.selects C y y ∈ TBL) (hcl : vwCl[ci]? = some (C, T, N)) (he : wm[0]? = some (b0, .inr (ci, fs))) (hR : d + 1 ≤ R.frames ∧ 8 + (maxL + 11) + 44 * d ≤ R.locals) (hcs : cells ≤ R.cells ∧ slots ≤ R.slots) (hL : wa.length = 28) (hL2 : wm.length = 17) (hv : wm'.map Prod.fst = wm.map Prod.fst) (hl : ls.size = nL) (hsk : st0 = As.reverse ++ .ref b0 :: rest) (hlen : As.length = n) (hw8 : (rest.map fun v => v.category).sum ≤ 8) (hdg : decode cc pc = .ok (.invokevirtual index, 3)) (hst : ov.toList ++ rest = st1)
    (kk : ∀ (H1 : Heap) (locs1 : List Loc), Wr G A s.heap (wa ++ wm') H1 locs1 → W p l e R s m args below meth c H1 locs1 cells slots Q (F0 m (pc + 3) ls st1)) : W p l e R s m args below meth c H locs cells slots Q (F0 m pc ls st0) := by
  have hlv : wm'.length = wm.length := by have := congrArg List.length hv; simpa using this
  have e1 := pk_r wa wm (List.replicate 17 true)
  have e2 := pt_r wa wm wm' (List.replicate 17 true)
  have e3 := pk_l wm []
  have e4 := pt_l wm [] wm' hlv
  rw [List.append_nil] at e3 e4
  rw [List.append_nil] at e4
  rw [hL2] at e3 e4
  rw [hL] at e1 e2
  rw [e3] at e1
  rw [e4] at e2
  refine R_callV (q0 := 28) hM X rfl hW hc hin hse hcl (by rw [List.getElem?_append_right (by omega), hL]; exact he) ⟨rfl, rfl⟩ hR hcs (List.replicate 28 false ++ List.replicate 17 true) (by decide) (by rw [List.length_append, List.length_append, List.length_replicate, List.length_replicate]; omega) e1 hv hl hsk hlen hw8 hdg hst (fun H1 locs1 h1 => kk H1 locs1 ?_)
  rw [e2] at h1
  exact h1
theorem R_sld {b L k : Nat} {xs : Nat → Int32} (hx : p.tables.exec = Jvm.exec) (hb : c.code = cc) (hX : va_X b L xs s s.heap) (hbl : b < s.heap.size) (hbA : ¬ A b) (hS : va_S A s.heap H locs) (hk : k < L) (hL : L < 2 ^ 31) (hdg : decode cc pc = .ok (.iaload, 1))
    (kk : W p l e R s m args below meth c H locs cells slots Q (F0 m (pc + 1) ls (.int (xs k) :: rest))) : W p l e R s m args below meth c H locs cells slots Q (F0 m pc ls (.int (nI k) :: .ref b :: rest)) := by
  refine va_sld hx hb hX hbl hbA hS (vp_in_nI hk hL) hdg ?_
  rw [nI_clamp (by omega)]
  exact kk
theorem lg_self (r : Int64) : lg_cmp r r = 0 := by
  unfold lg_cmp
  rw [if_neg (fun q => lg_lt_not q q), if_pos rfl]
theorem nI_6 (i : Nat) : nI i + Int32.ofInt 6 = nI (i + 6) := by rw [show Int32.ofInt 6 = nI 6 by decide +kernel, nI_add]
end LAWB
