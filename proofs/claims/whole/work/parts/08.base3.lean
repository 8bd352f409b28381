/-! BASE3: System.arraycopy of a whole row of numbers; some numbers -/
section BASE3
theorem inB_nI {i n : Nat} (h : i < n) (hn : n ≤ 300) : inB (nI i) n = true := inB_t (by rw [i_T (by omega)]; omega)
theorem cpy_aE (n : Nat) (f g : Nat → Nat) : va_cpy (aE nI f) (aE nI g) 0 0 n = aE nI (cpyN n f g) := by
  funext k
  simp only [va_cpy, aE, cpyN]
  by_cases h : k < n
  · rw [if_pos (by omega), if_pos h]; simp
  · rw [if_neg (by omega), if_neg h]
variable {p : Program} {l : Launch} {e : Env} {R : Room} {s : State} {m : MethodId} {args : Array Value} {below : List Frame} {meth : Method} {c : Code} {H : Heap} {locs : List Loc} {cells slots : Nat} {Q : State → Prop}
variable {cc : ByteArray} {nL pc : Nat} {ls : Array Slot} {rest : List Value} {own : String} {G : va_G} {A : Nat → Prop} {a a0 : Nat} {ws : va_W} {H0 : Heap}
theorem R_copy {index n : Nat} {f g : Nat → Nat} {cI cZ cJ : ClassId} (X : Fx p m c cc nL s args own G (tyL cI cZ cJ) A) (hW : Wr G A H0 ws H locs) (h1 : Cond.methodLink own index arraycopyName ∈ TBL) (h2 : Cond.native arraycopyName ∈ TBL) (h3 : Cond.static arraycopyName ∈ TBL) (h4 : Cond.initialized "java/lang/System" ∈ TBL) (hml : c.maxLocals = ls.size) (q0 q1 : Nat) (ha0 : ws[q0]? = some (a0, .inl (cI, n, .inl (aE nI f)))) (ha1 : ws[q1]? = some (a, .inl (cI, n, .inl (aE nI g)))) (hn : n < 2 ^ 31) (hf : 1 ≤ R.frames) (hlo : (rest.map fun v => v.category).sum + (nativeFrameWords "java/lang/System" "arraycopy" 5 + 11) ≤ R.locals) (hdg : decode cc pc = .ok (.invokestatic index, 3))
    (kk : ∀ (H1 : Heap) (locs1 : List Loc), Wr G A H0 (ws.set q1 (a, .inl (cI, n, .inl (aE nI (cpyN n f g))))) H1 locs1 → W p l e R s m args below meth c H1 locs1 cells slots Q (F0 m (pc + 3) ls rest)) : W p l e R s m args below meth c H locs cells slots Q (F0 m pc ls (.int (nI n) :: .int (nI 0) :: .ref a :: .int (nI 0) :: .ref a0 :: rest)) := by
  have ht := X.1.2.2.2.2
  have z0 : (nI 0).toNatClampNeg = 0 := nI_clamp (by decide)
  have zn : (nI n).toNatClampNeg = n := nI_clamp hn
  refine va_copyi X.1.1 X.1.2.1 hml X.1.2.2.2.1 (ht _ h1) (ht _ h2) (ht _ h3) (ht _ h4) X.2.1 hW.1 hW.2.1 hW.2.2 q0 q1 0 0 ha0 ha1 rfl rfl rfl (nI_pos (by decide)) (nI_pos (by decide)) (nI_pos hn) (by rw [z0, zn]; omega) (by rw [z0, zn]; omega) (fun i _ => rfl) hf hlo hdg (fun H1 locs1 p1 p2 p3 => kk H1 locs1 ?_)
  rw [z0, zn, cpy_aE] at p1 p2
  exact ⟨p1, p2, p3⟩
end BASE3
