section NROWS
variable {p : Program} {l : Launch} {e : Env} {R : Room} {s : State} {m : MethodId} {args : Array Value} {below : List Frame} {meth : Method} {c : Code} {H : Heap} {locs : List Loc} {cells slots : Nat} {Q : State → Prop}
variable {cc : ByteArray} {pc : Nat} {ls : Array Slot} {rest : List Value}
theorem i_le {x y : Int32} : x ≤ y ↔ x.toInt ≤ y.toInt := Int32.le_iff_toInt_le
theorem i_lt {x y : Int32} : x < y ↔ x.toInt < y.toInt := Int32.lt_iff_toInt_lt
theorem i_eq {x y : Int32} : x = y ↔ x.toInt = y.toInt := Int32.toInt_inj.symm
theorem i_T {n : Nat} (h : n < 2 ^ 31) : (nI n).toInt = (n : Int) := nI_toInt h
theorem i_T0 : (0 : Int32).toInt = 0 := by decide +kernel
theorem i_Tm1 : (-1 : Int32).toInt = -1 := by decide +kernel

theorem N_icmp_lt_NN (hx : p.tables.exec = Jvm.exec) (hb : c.code = cc) {a : Nat} (qa : a < 2 ^ 31) {b : Nat} (qb : b < 2 ^ 31) {off : Int} {tgt : Nat} (hdg : decode cc pc = .ok (.if_icmp .lt off, 3)) (ht : (pc : Int) + off = (tgt : Int)) (kt : a < b → W p l e R s m args below meth c H locs cells slots Q (F0 m tgt ls rest)) (kf : b ≤ a → W p l e R s m args below meth c H locs cells slots Q (F0 m (pc + 3) ls rest)) : W p l e R s m args below meth c H locs cells slots Q (F0 m pc ls (.int (nI b) :: .int (nI a) :: rest)) :=
  lv_icmp_lt hx hb hdg ht (fun q0 => kt (by have q := i_lt.mp q0; rw [i_T qa, i_T qb] at q; omega)) (fun q0 => kf (by have q := mt i_lt.mpr q0; rw [i_T qa, i_T qb] at q; omega))
theorem N_icmp_lt_RN (hx : p.tables.exec = Jvm.exec) (hb : c.code = cc) {x : Int32} {b : Nat} (qb : b < 2 ^ 31) {off : Int} {tgt : Nat} (hdg : decode cc pc = .ok (.if_icmp .lt off, 3)) (ht : (pc : Int) + off = (tgt : Int)) (kt : x.toInt < (b : Int) → W p l e R s m args below meth c H locs cells slots Q (F0 m tgt ls rest)) (kf : (b : Int) ≤ x.toInt → W p l e R s m args below meth c H locs cells slots Q (F0 m (pc + 3) ls rest)) : W p l e R s m args below meth c H locs cells slots Q (F0 m pc ls (.int (nI b) :: .int x :: rest)) :=
  lv_icmp_lt hx hb hdg ht (fun q0 => kt (by have q := i_lt.mp q0; rw [i_T qb] at q; omega)) (fun q0 => kf (by have q := mt i_lt.mpr q0; rw [i_T qb] at q; omega))
theorem N_icmp_lt_NR (hx : p.tables.exec = Jvm.exec) (hb : c.code = cc) {a : Nat} (qa : a < 2 ^ 31) {y : Int32} {off : Int} {tgt : Nat} (hdg : decode cc pc = .ok (.if_icmp .lt off, 3)) (ht : (pc : Int) + off = (tgt : Int)) (kt : (a : Int) < y.toInt → W p l e R s m args below meth c H locs cells slots Q (F0 m tgt ls rest)) (kf : y.toInt ≤ (a : Int) → W p l e R s m args below meth c H locs cells slots Q (F0 m (pc + 3) ls rest)) : W p l e R s m args below meth c H locs cells slots Q (F0 m pc ls (.int y :: .int (nI a) :: rest)) :=
  lv_icmp_lt hx hb hdg ht (fun q0 => kt (by have q := i_lt.mp q0; rw [i_T qa] at q; omega)) (fun q0 => kf (by have q := mt i_lt.mpr q0; rw [i_T qa] at q; omega))
theorem N_icmp_lt_RR (hx : p.tables.exec = Jvm.exec) (hb : c.code = cc) {x : Int32} {y : Int32} {off : Int} {tgt : Nat} (hdg : decode cc pc = .ok (.if_icmp .lt off, 3)) (ht : (pc : Int) + off = (tgt : Int)) (kt : x.toInt < y.toInt → W p l e R s m args below meth c H locs cells slots Q (F0 m tgt ls rest)) (kf : y.toInt ≤ x.toInt → W p l e R s m args below meth c H locs cells slots Q (F0 m (pc + 3) ls rest)) : W p l e R s m args below meth c H locs cells slots Q (F0 m pc ls (.int y :: .int x :: rest)) :=
  lv_icmp_lt hx hb hdg ht (fun q0 => kt (by have q := i_lt.mp q0; skip; omega)) (fun q0 => kf (by have q := mt i_lt.mpr q0; skip; omega))
theorem N_if_lt_N (hx : p.tables.exec = Jvm.exec) (hb : c.code = cc) {a : Nat} (qa : a < 2 ^ 31) {off : Int} {tgt : Nat} (hdg : decode cc pc = .ok (.ifCond .lt off, 3)) (ht : (pc : Int) + off = (tgt : Int)) (kt : a < 0 → W p l e R s m args below meth c H locs cells slots Q (F0 m tgt ls rest)) (kf : 0 ≤ a → W p l e R s m args below meth c H locs cells slots Q (F0 m (pc + 3) ls rest)) : W p l e R s m args below meth c H locs cells slots Q (F0 m pc ls (.int (nI a) :: rest)) :=
  lv_if_lt hx hb hdg ht (fun q0 => kt (by have q := i_lt.mp q0; rw [i_T qa, i_T0] at q; omega)) (fun q0 => kf (by have q := mt i_lt.mpr q0; rw [i_T qa, i_T0] at q; omega))
theorem N_if_lt_R (hx : p.tables.exec = Jvm.exec) (hb : c.code = cc) {x : Int32} {off : Int} {tgt : Nat} (hdg : decode cc pc = .ok (.ifCond .lt off, 3)) (ht : (pc : Int) + off = (tgt : Int)) (kt : x.toInt < 0 → W p l e R s m args below meth c H locs cells slots Q (F0 m tgt ls rest)) (kf : 0 ≤ x.toInt → W p l e R s m args below meth c H locs cells slots Q (F0 m (pc + 3) ls rest)) : W p l e R s m args below meth c H locs cells slots Q (F0 m pc ls (.int x :: rest)) :=
  lv_if_lt hx hb hdg ht (fun q0 => kt (by have q := i_lt.mp q0; rw [i_T0] at q; omega)) (fun q0 => kf (by have q := mt i_lt.mpr q0; rw [i_T0] at q; omega))
theorem N_icmp_ge_NN (hx : p.tables.exec = Jvm.exec) (hb : c.code = cc) {a : Nat} (qa : a < 2 ^ 31) {b : Nat} (qb : b < 2 ^ 31) {off : Int} {tgt : Nat} (hdg : decode cc pc = .ok (.if_icmp .ge off, 3)) (ht : (pc : Int) + off = (tgt : Int)) (kt : b ≤ a → W p l e R s m args below meth c H locs cells slots Q (F0 m tgt ls rest)) (kf : a < b → W p l e R s m args below meth c H locs cells slots Q (F0 m (pc + 3) ls rest)) : W p l e R s m args below meth c H locs cells slots Q (F0 m pc ls (.int (nI b) :: .int (nI a) :: rest)) :=
  lv_icmp_ge hx hb hdg ht (fun q0 => kt (by have q := i_le.mp q0; rw [i_T qa, i_T qb] at q; omega)) (fun q0 => kf (by have q := mt i_le.mpr q0; rw [i_T qa, i_T qb] at q; omega))
theorem N_icmp_ge_RN (hx : p.tables.exec = Jvm.exec) (hb : c.code = cc) {x : Int32} {b : Nat} (qb : b < 2 ^ 31) {off : Int} {tgt : Nat} (hdg : decode cc pc = .ok (.if_icmp .ge off, 3)) (ht : (pc : Int) + off = (tgt : Int)) (kt : (b : Int) ≤ x.toInt → W p l e R s m args below meth c H locs cells slots Q (F0 m tgt ls rest)) (kf : x.toInt < (b : Int) → W p l e R s m args below meth c H locs cells slots Q (F0 m (pc + 3) ls rest)) : W p l e R s m args below meth c H locs cells slots Q (F0 m pc ls (.int (nI b) :: .int x :: rest)) :=
  lv_icmp_ge hx hb hdg ht (fun q0 => kt (by have q := i_le.mp q0; rw [i_T qb] at q; omega)) (fun q0 => kf (by have q := mt i_le.mpr q0; rw [i_T qb] at q; omega))
theorem N_icmp_ge_NR (hx : p.tables.exec = Jvm.exec) (hb : c.code = cc) {a : Nat} (qa : a < 2 ^ 31) {y : Int32} {off : Int} {tgt : Nat} (hdg : decode cc pc = .ok (.if_icmp .ge off, 3)) (ht : (pc : Int) + off = (tgt : Int)) (kt : y.toInt ≤ (a : Int) → W p l e R s m args below meth c H locs cells slots Q (F0 m tgt ls rest)) (kf : (a : Int) < y.toInt → W p l e R s m args below meth c H locs cells slots Q (F0 m (pc + 3) ls rest)) : W p l e R s m args below meth c H locs cells slots Q (F0 m pc ls (.int y :: .int (nI a) :: rest)) :=
  lv_icmp_ge hx hb hdg ht (fun q0 => kt (by have q := i_le.mp q0; rw [i_T qa] at q; omega)) (fun q0 => kf (by have q := mt i_le.mpr q0; rw [i_T qa] at q; omega))
theorem N_icmp_ge_RR (hx : p.tables.exec = Jvm.exec) (hb : c.code = cc) {x : Int32} {y : Int32} {off : Int} {tgt : Nat} (hdg : decode cc pc = .ok (.if_icmp .ge off, 3)) (ht : (pc : Int) + off = (tgt : Int)) (kt : y.toInt ≤ x.toInt → W p l e R s m args below meth c H locs cells slots Q (F0 m tgt ls rest)) (kf : x.toInt < y.toInt → W p l e R s m args below meth c H locs cells slots Q (F0 m (pc + 3) ls rest)) : W p l e R s m args below meth c H locs cells slots Q (F0 m pc ls (.int y :: .int x :: rest)) :=
  lv_icmp_ge hx hb hdg ht (fun q0 => kt (by have q := i_le.mp q0; skip; omega)) (fun q0 => kf (by have q := mt i_le.mpr q0; skip; omega))
theorem N_if_ge_N (hx : p.tables.exec = Jvm.exec) (hb : c.code = cc) {a : Nat} (qa : a < 2 ^ 31) {off : Int} {tgt : Nat} (hdg : decode cc pc = .ok (.ifCond .ge off, 3)) (ht : (pc : Int) + off = (tgt : Int)) (kt : 0 ≤ a → W p l e R s m args below meth c H locs cells slots Q (F0 m tgt ls rest)) (kf : a < 0 → W p l e R s m args below meth c H locs cells slots Q (F0 m (pc + 3) ls rest)) : W p l e R s m args below meth c H locs cells slots Q (F0 m pc ls (.int (nI a) :: rest)) :=
  lv_if_ge hx hb hdg ht (fun q0 => kt (by have q := i_le.mp q0; rw [i_T qa, i_T0] at q; omega)) (fun q0 => kf (by have q := mt i_le.mpr q0; rw [i_T qa, i_T0] at q; omega))
theorem N_if_ge_R (hx : p.tables.exec = Jvm.exec) (hb : c.code = cc) {x : Int32} {off : Int} {tgt : Nat} (hdg : decode cc pc = .ok (.ifCond .ge off, 3)) (ht : (pc : Int) + off = (tgt : Int)) (kt : 0 ≤ x.toInt → W p l e R s m args below meth c H locs cells slots Q (F0 m tgt ls rest)) (kf : x.toInt < 0 → W p l e R s m args below meth c H locs cells slots Q (F0 m (pc + 3) ls rest)) : W p l e R s m args below meth c H locs cells slots Q (F0 m pc ls (.int x :: rest)) :=
  lv_if_ge hx hb hdg ht (fun q0 => kt (by have q := i_le.mp q0; rw [i_T0] at q; omega)) (fun q0 => kf (by have q := mt i_le.mpr q0; rw [i_T0] at q; omega))
theorem N_icmp_gt_NN (hx : p.tables.exec = Jvm.exec) (hb : c.code = cc) {a : Nat} (qa : a < 2 ^ 31) {b : Nat} (qb : b < 2 ^ 31) {off : Int} {tgt : Nat} (hdg : decode cc pc = .ok (.if_icmp .gt off, 3)) (ht : (pc : Int) + off = (tgt : Int)) (kt : b < a → W p l e R s m args below meth c H locs cells slots Q (F0 m tgt ls rest)) (kf : a ≤ b → W p l e R s m args below meth c H locs cells slots Q (F0 m (pc + 3) ls rest)) : W p l e R s m args below meth c H locs cells slots Q (F0 m pc ls (.int (nI b) :: .int (nI a) :: rest)) :=
  lv_icmp_gt hx hb hdg ht (fun q0 => kt (by have q := i_lt.mp q0; rw [i_T qa, i_T qb] at q; omega)) (fun q0 => kf (by have q := mt i_lt.mpr q0; rw [i_T qa, i_T qb] at q; omega))
theorem N_icmp_gt_RN (hx : p.tables.exec = Jvm.exec) (hb : c.code = cc) {x : Int32} {b : Nat} (qb : b < 2 ^ 31) {off : Int} {tgt : Nat} (hdg : decode cc pc = .ok (.if_icmp .gt off, 3)) (ht : (pc : Int) + off = (tgt : Int)) (kt : (b : Int) < x.toInt → W p l e R s m args below meth c H locs cells slots Q (F0 m tgt ls rest)) (kf : x.toInt ≤ (b : Int) → W p l e R s m args below meth c H locs cells slots Q (F0 m (pc + 3) ls rest)) : W p l e R s m args below meth c H locs cells slots Q (F0 m pc ls (.int (nI b) :: .int x :: rest)) :=
  lv_icmp_gt hx hb hdg ht (fun q0 => kt (by have q := i_lt.mp q0; rw [i_T qb] at q; omega)) (fun q0 => kf (by have q := mt i_lt.mpr q0; rw [i_T qb] at q; omega))
theorem N_icmp_gt_NR (hx : p.tables.exec = Jvm.exec) (hb : c.code = cc) {a : Nat} (qa : a < 2 ^ 31) {y : Int32} {off : Int} {tgt : Nat} (hdg : decode cc pc = .ok (.if_icmp .gt off, 3)) (ht : (pc : Int) + off = (tgt : Int)) (kt : y.toInt < (a : Int) → W p l e R s m args below meth c H locs cells slots Q (F0 m tgt ls rest)) (kf : (a : Int) ≤ y.toInt → W p l e R s m args below meth c H locs cells slots Q (F0 m (pc + 3) ls rest)) : W p l e R s m args below meth c H locs cells slots Q (F0 m pc ls (.int y :: .int (nI a) :: rest)) :=
  lv_icmp_gt hx hb hdg ht (fun q0 => kt (by have q := i_lt.mp q0; rw [i_T qa] at q; omega)) (fun q0 => kf (by have q := mt i_lt.mpr q0; rw [i_T qa] at q; omega))
theorem N_icmp_gt_RR (hx : p.tables.exec = Jvm.exec) (hb : c.code = cc) {x : Int32} {y : Int32} {off : Int} {tgt : Nat} (hdg : decode cc pc = .ok (.if_icmp .gt off, 3)) (ht : (pc : Int) + off = (tgt : Int)) (kt : y.toInt < x.toInt → W p l e R s m args below meth c H locs cells slots Q (F0 m tgt ls rest)) (kf : x.toInt ≤ y.toInt → W p l e R s m args below meth c H locs cells slots Q (F0 m (pc + 3) ls rest)) : W p l e R s m args below meth c H locs cells slots Q (F0 m pc ls (.int y :: .int x :: rest)) :=
  lv_icmp_gt hx hb hdg ht (fun q0 => kt (by have q := i_lt.mp q0; skip; omega)) (fun q0 => kf (by have q := mt i_lt.mpr q0; skip; omega))
theorem N_if_gt_N (hx : p.tables.exec = Jvm.exec) (hb : c.code = cc) {a : Nat} (qa : a < 2 ^ 31) {off : Int} {tgt : Nat} (hdg : decode cc pc = .ok (.ifCond .gt off, 3)) (ht : (pc : Int) + off = (tgt : Int)) (kt : 0 < a → W p l e R s m args below meth c H locs cells slots Q (F0 m tgt ls rest)) (kf : a ≤ 0 → W p l e R s m args below meth c H locs cells slots Q (F0 m (pc + 3) ls rest)) : W p l e R s m args below meth c H locs cells slots Q (F0 m pc ls (.int (nI a) :: rest)) :=
  lv_if_gt hx hb hdg ht (fun q0 => kt (by have q := i_lt.mp q0; rw [i_T qa, i_T0] at q; omega)) (fun q0 => kf (by have q := mt i_lt.mpr q0; rw [i_T qa, i_T0] at q; omega))
theorem N_if_gt_R (hx : p.tables.exec = Jvm.exec) (hb : c.code = cc) {x : Int32} {off : Int} {tgt : Nat} (hdg : decode cc pc = .ok (.ifCond .gt off, 3)) (ht : (pc : Int) + off = (tgt : Int)) (kt : 0 < x.toInt → W p l e R s m args below meth c H locs cells slots Q (F0 m tgt ls rest)) (kf : x.toInt ≤ 0 → W p l e R s m args below meth c H locs cells slots Q (F0 m (pc + 3) ls rest)) : W p l e R s m args below meth c H locs cells slots Q (F0 m pc ls (.int x :: rest)) :=
  lv_if_gt hx hb hdg ht (fun q0 => kt (by have q := i_lt.mp q0; rw [i_T0] at q; omega)) (fun q0 => kf (by have q := mt i_lt.mpr q0; rw [i_T0] at q; omega))
theorem N_icmp_le_NN (hx : p.tables.exec = Jvm.exec) (hb : c.code = cc) {a : Nat} (qa : a < 2 ^ 31) {b : Nat} (qb : b < 2 ^ 31) {off : Int} {tgt : Nat} (hdg : decode cc pc = .ok (.if_icmp .le off, 3)) (ht : (pc : Int) + off = (tgt : Int)) (kt : a ≤ b → W p l e R s m args below meth c H locs cells slots Q (F0 m tgt ls rest)) (kf : b < a → W p l e R s m args below meth c H locs cells slots Q (F0 m (pc + 3) ls rest)) : W p l e R s m args below meth c H locs cells slots Q (F0 m pc ls (.int (nI b) :: .int (nI a) :: rest)) :=
  lv_icmp_le hx hb hdg ht (fun q0 => kt (by have q := i_le.mp q0; rw [i_T qa, i_T qb] at q; omega)) (fun q0 => kf (by have q := mt i_le.mpr q0; rw [i_T qa, i_T qb] at q; omega))
theorem N_icmp_le_RN (hx : p.tables.exec = Jvm.exec) (hb : c.code = cc) {x : Int32} {b : Nat} (qb : b < 2 ^ 31) {off : Int} {tgt : Nat} (hdg : decode cc pc = .ok (.if_icmp .le off, 3)) (ht : (pc : Int) + off = (tgt : Int)) (kt : x.toInt ≤ (b : Int) → W p l e R s m args below meth c H locs cells slots Q (F0 m tgt ls rest)) (kf : (b : Int) < x.toInt → W p l e R s m args below meth c H locs cells slots Q (F0 m (pc + 3) ls rest)) : W p l e R s m args below meth c H locs cells slots Q (F0 m pc ls (.int (nI b) :: .int x :: rest)) :=
  lv_icmp_le hx hb hdg ht (fun q0 => kt (by have q := i_le.mp q0; rw [i_T qb] at q; omega)) (fun q0 => kf (by have q := mt i_le.mpr q0; rw [i_T qb] at q; omega))
theorem N_icmp_le_NR (hx : p.tables.exec = Jvm.exec) (hb : c.code = cc) {a : Nat} (qa : a < 2 ^ 31) {y : Int32} {off : Int} {tgt : Nat} (hdg : decode cc pc = .ok (.if_icmp .le off, 3)) (ht : (pc : Int) + off = (tgt : Int)) (kt : (a : Int) ≤ y.toInt → W p l e R s m args below meth c H locs cells slots Q (F0 m tgt ls rest)) (kf : y.toInt < (a : Int) → W p l e R s m args below meth c H locs cells slots Q (F0 m (pc + 3) ls rest)) : W p l e R s m args below meth c H locs cells slots Q (F0 m pc ls (.int y :: .int (nI a) :: rest)) :=
  lv_icmp_le hx hb hdg ht (fun q0 => kt (by have q := i_le.mp q0; rw [i_T qa] at q; omega)) (fun q0 => kf (by have q := mt i_le.mpr q0; rw [i_T qa] at q; omega))
theorem N_icmp_le_RR (hx : p.tables.exec = Jvm.exec) (hb : c.code = cc) {x : Int32} {y : Int32} {off : Int} {tgt : Nat} (hdg : decode cc pc = .ok (.if_icmp .le off, 3)) (ht : (pc : Int) + off = (tgt : Int)) (kt : x.toInt ≤ y.toInt → W p l e R s m args below meth c H locs cells slots Q (F0 m tgt ls rest)) (kf : y.toInt < x.toInt → W p l e R s m args below meth c H locs cells slots Q (F0 m (pc + 3) ls rest)) : W p l e R s m args below meth c H locs cells slots Q (F0 m pc ls (.int y :: .int x :: rest)) :=
  lv_icmp_le hx hb hdg ht (fun q0 => kt (by have q := i_le.mp q0; skip; omega)) (fun q0 => kf (by have q := mt i_le.mpr q0; skip; omega))
theorem N_if_le_N (hx : p.tables.exec = Jvm.exec) (hb : c.code = cc) {a : Nat} (qa : a < 2 ^ 31) {off : Int} {tgt : Nat} (hdg : decode cc pc = .ok (.ifCond .le off, 3)) (ht : (pc : Int) + off = (tgt : Int)) (kt : a ≤ 0 → W p l e R s m args below meth c H locs cells slots Q (F0 m tgt ls rest)) (kf : 0 < a → W p l e R s m args below meth c H locs cells slots Q (F0 m (pc + 3) ls rest)) : W p l e R s m args below meth c H locs cells slots Q (F0 m pc ls (.int (nI a) :: rest)) :=
  lv_if_le hx hb hdg ht (fun q0 => kt (by have q := i_le.mp q0; rw [i_T qa, i_T0] at q; omega)) (fun q0 => kf (by have q := mt i_le.mpr q0; rw [i_T qa, i_T0] at q; omega))
theorem N_if_le_R (hx : p.tables.exec = Jvm.exec) (hb : c.code = cc) {x : Int32} {off : Int} {tgt : Nat} (hdg : decode cc pc = .ok (.ifCond .le off, 3)) (ht : (pc : Int) + off = (tgt : Int)) (kt : x.toInt ≤ 0 → W p l e R s m args below meth c H locs cells slots Q (F0 m tgt ls rest)) (kf : 0 < x.toInt → W p l e R s m args below meth c H locs cells slots Q (F0 m (pc + 3) ls rest)) : W p l e R s m args below meth c H locs cells slots Q (F0 m pc ls (.int x :: rest)) :=
  lv_if_le hx hb hdg ht (fun q0 => kt (by have q := i_le.mp q0; rw [i_T0] at q; omega)) (fun q0 => kf (by have q := mt i_le.mpr q0; rw [i_T0] at q; omega))
theorem N_icmp_eq_NN (hx : p.tables.exec = Jvm.exec) (hb : c.code = cc) {a : Nat} (qa : a < 2 ^ 31) {b : Nat} (qb : b < 2 ^ 31) {off : Int} {tgt : Nat} (hdg : decode cc pc = .ok (.if_icmp .eq off, 3)) (ht : (pc : Int) + off = (tgt : Int)) (kt : a = b → W p l e R s m args below meth c H locs cells slots Q (F0 m tgt ls rest)) (kf : a ≠ b → W p l e R s m args below meth c H locs cells slots Q (F0 m (pc + 3) ls rest)) : W p l e R s m args below meth c H locs cells slots Q (F0 m pc ls (.int (nI b) :: .int (nI a) :: rest)) :=
  lv_icmp_eq hx hb hdg ht (fun q0 => kt (by have q := i_eq.mp q0; rw [i_T qa, i_T qb] at q; omega)) (fun q0 => kf (by have q := mt i_eq.mpr q0; rw [i_T qa, i_T qb] at q; omega))
theorem N_icmp_eq_RN (hx : p.tables.exec = Jvm.exec) (hb : c.code = cc) {x : Int32} {b : Nat} (qb : b < 2 ^ 31) {off : Int} {tgt : Nat} (hdg : decode cc pc = .ok (.if_icmp .eq off, 3)) (ht : (pc : Int) + off = (tgt : Int)) (kt : x.toInt = (b : Int) → W p l e R s m args below meth c H locs cells slots Q (F0 m tgt ls rest)) (kf : x.toInt ≠ (b : Int) → W p l e R s m args below meth c H locs cells slots Q (F0 m (pc + 3) ls rest)) : W p l e R s m args below meth c H locs cells slots Q (F0 m pc ls (.int (nI b) :: .int x :: rest)) :=
  lv_icmp_eq hx hb hdg ht (fun q0 => kt (by have q := i_eq.mp q0; rw [i_T qb] at q; omega)) (fun q0 => kf (by have q := mt i_eq.mpr q0; rw [i_T qb] at q; omega))
theorem N_icmp_eq_NR (hx : p.tables.exec = Jvm.exec) (hb : c.code = cc) {a : Nat} (qa : a < 2 ^ 31) {y : Int32} {off : Int} {tgt : Nat} (hdg : decode cc pc = .ok (.if_icmp .eq off, 3)) (ht : (pc : Int) + off = (tgt : Int)) (kt : (a : Int) = y.toInt → W p l e R s m args below meth c H locs cells slots Q (F0 m tgt ls rest)) (kf : (a : Int) ≠ y.toInt → W p l e R s m args below meth c H locs cells slots Q (F0 m (pc + 3) ls rest)) : W p l e R s m args below meth c H locs cells slots Q (F0 m pc ls (.int y :: .int (nI a) :: rest)) :=
  lv_icmp_eq hx hb hdg ht (fun q0 => kt (by have q := i_eq.mp q0; rw [i_T qa] at q; omega)) (fun q0 => kf (by have q := mt i_eq.mpr q0; rw [i_T qa] at q; omega))
theorem N_icmp_eq_RR (hx : p.tables.exec = Jvm.exec) (hb : c.code = cc) {x : Int32} {y : Int32} {off : Int} {tgt : Nat} (hdg : decode cc pc = .ok (.if_icmp .eq off, 3)) (ht : (pc : Int) + off = (tgt : Int)) (kt : x.toInt = y.toInt → W p l e R s m args below meth c H locs cells slots Q (F0 m tgt ls rest)) (kf : x.toInt ≠ y.toInt → W p l e R s m args below meth c H locs cells slots Q (F0 m (pc + 3) ls rest)) : W p l e R s m args below meth c H locs cells slots Q (F0 m pc ls (.int y :: .int x :: rest)) :=
  lv_icmp_eq hx hb hdg ht (fun q0 => kt (by have q := i_eq.mp q0; skip; omega)) (fun q0 => kf (by have q := mt i_eq.mpr q0; skip; omega))
theorem N_if_eq_N (hx : p.tables.exec = Jvm.exec) (hb : c.code = cc) {a : Nat} (qa : a < 2 ^ 31) {off : Int} {tgt : Nat} (hdg : decode cc pc = .ok (.ifCond .eq off, 3)) (ht : (pc : Int) + off = (tgt : Int)) (kt : a = 0 → W p l e R s m args below meth c H locs cells slots Q (F0 m tgt ls rest)) (kf : a ≠ 0 → W p l e R s m args below meth c H locs cells slots Q (F0 m (pc + 3) ls rest)) : W p l e R s m args below meth c H locs cells slots Q (F0 m pc ls (.int (nI a) :: rest)) :=
  lv_if_eq hx hb hdg ht (fun q0 => kt (by have q := i_eq.mp q0; rw [i_T qa, i_T0] at q; omega)) (fun q0 => kf (by have q := mt i_eq.mpr q0; rw [i_T qa, i_T0] at q; omega))
theorem N_if_eq_R (hx : p.tables.exec = Jvm.exec) (hb : c.code = cc) {x : Int32} {off : Int} {tgt : Nat} (hdg : decode cc pc = .ok (.ifCond .eq off, 3)) (ht : (pc : Int) + off = (tgt : Int)) (kt : x.toInt = 0 → W p l e R s m args below meth c H locs cells slots Q (F0 m tgt ls rest)) (kf : x.toInt ≠ 0 → W p l e R s m args below meth c H locs cells slots Q (F0 m (pc + 3) ls rest)) : W p l e R s m args below meth c H locs cells slots Q (F0 m pc ls (.int x :: rest)) :=
  lv_if_eq hx hb hdg ht (fun q0 => kt (by have q := i_eq.mp q0; rw [i_T0] at q; omega)) (fun q0 => kf (by have q := mt i_eq.mpr q0; rw [i_T0] at q; omega))
theorem N_icmp_ne_NN (hx : p.tables.exec = Jvm.exec) (hb : c.code = cc) {a : Nat} (qa : a < 2 ^ 31) {b : Nat} (qb : b < 2 ^ 31) {off : Int} {tgt : Nat} (hdg : decode cc pc = .ok (.if_icmp .ne off, 3)) (ht : (pc : Int) + off = (tgt : Int)) (kt : a ≠ b → W p l e R s m args below meth c H locs cells slots Q (F0 m tgt ls rest)) (kf : a = b → W p l e R s m args below meth c H locs cells slots Q (F0 m (pc + 3) ls rest)) : W p l e R s m args below meth c H locs cells slots Q (F0 m pc ls (.int (nI b) :: .int (nI a) :: rest)) :=
  lv_icmp_ne hx hb hdg ht (fun q0 => kt (fun q1 => q0 (i_eq.mpr (by rw [i_T qa, i_T qb]; omega)))) (fun q0 => kf (by have q := i_eq.mp q0; rw [i_T qa, i_T qb] at q; omega))
theorem N_icmp_ne_RN (hx : p.tables.exec = Jvm.exec) (hb : c.code = cc) {x : Int32} {b : Nat} (qb : b < 2 ^ 31) {off : Int} {tgt : Nat} (hdg : decode cc pc = .ok (.if_icmp .ne off, 3)) (ht : (pc : Int) + off = (tgt : Int)) (kt : x.toInt ≠ (b : Int) → W p l e R s m args below meth c H locs cells slots Q (F0 m tgt ls rest)) (kf : x.toInt = (b : Int) → W p l e R s m args below meth c H locs cells slots Q (F0 m (pc + 3) ls rest)) : W p l e R s m args below meth c H locs cells slots Q (F0 m pc ls (.int (nI b) :: .int x :: rest)) :=
  lv_icmp_ne hx hb hdg ht (fun q0 => kt (fun q1 => q0 (i_eq.mpr (by rw [i_T qb]; omega)))) (fun q0 => kf (by have q := i_eq.mp q0; rw [i_T qb] at q; omega))
theorem N_icmp_ne_NR (hx : p.tables.exec = Jvm.exec) (hb : c.code = cc) {a : Nat} (qa : a < 2 ^ 31) {y : Int32} {off : Int} {tgt : Nat} (hdg : decode cc pc = .ok (.if_icmp .ne off, 3)) (ht : (pc : Int) + off = (tgt : Int)) (kt : (a : Int) ≠ y.toInt → W p l e R s m args below meth c H locs cells slots Q (F0 m tgt ls rest)) (kf : (a : Int) = y.toInt → W p l e R s m args below meth c H locs cells slots Q (F0 m (pc + 3) ls rest)) : W p l e R s m args below meth c H locs cells slots Q (F0 m pc ls (.int y :: .int (nI a) :: rest)) :=
  lv_icmp_ne hx hb hdg ht (fun q0 => kt (fun q1 => q0 (i_eq.mpr (by rw [i_T qa]; omega)))) (fun q0 => kf (by have q := i_eq.mp q0; rw [i_T qa] at q; omega))
theorem N_icmp_ne_RR (hx : p.tables.exec = Jvm.exec) (hb : c.code = cc) {x : Int32} {y : Int32} {off : Int} {tgt : Nat} (hdg : decode cc pc = .ok (.if_icmp .ne off, 3)) (ht : (pc : Int) + off = (tgt : Int)) (kt : x.toInt ≠ y.toInt → W p l e R s m args below meth c H locs cells slots Q (F0 m tgt ls rest)) (kf : x.toInt = y.toInt → W p l e R s m args below meth c H locs cells slots Q (F0 m (pc + 3) ls rest)) : W p l e R s m args below meth c H locs cells slots Q (F0 m pc ls (.int y :: .int x :: rest)) :=
  lv_icmp_ne hx hb hdg ht (fun q0 => kt (fun q1 => q0 (i_eq.mpr (by omega)))) (fun q0 => kf (by have q := i_eq.mp q0; skip; omega))
theorem N_if_ne_N (hx : p.tables.exec = Jvm.exec) (hb : c.code = cc) {a : Nat} (qa : a < 2 ^ 31) {off : Int} {tgt : Nat} (hdg : decode cc pc = .ok (.ifCond .ne off, 3)) (ht : (pc : Int) + off = (tgt : Int)) (kt : a ≠ 0 → W p l e R s m args below meth c H locs cells slots Q (F0 m tgt ls rest)) (kf : a = 0 → W p l e R s m args below meth c H locs cells slots Q (F0 m (pc + 3) ls rest)) : W p l e R s m args below meth c H locs cells slots Q (F0 m pc ls (.int (nI a) :: rest)) :=
  lv_if_ne hx hb hdg ht (fun q0 => kt (fun q1 => q0 (i_eq.mpr (by rw [i_T qa, i_T0]; omega)))) (fun q0 => kf (by have q := i_eq.mp q0; rw [i_T qa, i_T0] at q; omega))
theorem N_if_ne_R (hx : p.tables.exec = Jvm.exec) (hb : c.code = cc) {x : Int32} {off : Int} {tgt : Nat} (hdg : decode cc pc = .ok (.ifCond .ne off, 3)) (ht : (pc : Int) + off = (tgt : Int)) (kt : x.toInt ≠ 0 → W p l e R s m args below meth c H locs cells slots Q (F0 m tgt ls rest)) (kf : x.toInt = 0 → W p l e R s m args below meth c H locs cells slots Q (F0 m (pc + 3) ls rest)) : W p l e R s m args below meth c H locs cells slots Q (F0 m pc ls (.int x :: rest)) :=
  lv_if_ne hx hb hdg ht (fun q0 => kt (fun q1 => q0 (i_eq.mpr (by rw [i_T0]; omega)))) (fun q0 => kf (by have q := i_eq.mp q0; rw [i_T0] at q; omega))
theorem N_if_eq_B (hx : p.tables.exec = Jvm.exec) (hb : c.code = cc) {b : Bool} {off : Int} {tgt : Nat} (hdg : decode cc pc = .ok (.ifCond .eq off, 3)) (ht : (pc : Int) + off = (tgt : Int)) (kt : b = false → W p l e R s m args below meth c H locs cells slots Q (F0 m tgt ls rest)) (kf : b = true → W p l e R s m args below meth c H locs cells slots Q (F0 m (pc + 3) ls rest)) : W p l e R s m args below meth c H locs cells slots Q (F0 m pc ls (.int (bI b) :: rest)) :=
  lv_if_eq hx hb hdg ht (fun q => kt (bI_0.mp q)) (fun q => kf (by cases b with | true => rfl | false => exact absurd rfl q))
theorem N_if_ne_B (hx : p.tables.exec = Jvm.exec) (hb : c.code = cc) {b : Bool} {off : Int} {tgt : Nat} (hdg : decode cc pc = .ok (.ifCond .ne off, 3)) (ht : (pc : Int) + off = (tgt : Int)) (kt : b = true → W p l e R s m args below meth c H locs cells slots Q (F0 m tgt ls rest)) (kf : b = false → W p l e R s m args below meth c H locs cells slots Q (F0 m (pc + 3) ls rest)) : W p l e R s m args below meth c H locs cells slots Q (F0 m pc ls (.int (bI b) :: rest)) :=
  lv_if_ne hx hb hdg ht (fun q => kt (by cases b with | true => rfl | false => exact absurd rfl q)) (fun q => kf (bI_0.mp q))
theorem oI_m1 {o : Option Nat} (ho : ∀ n, o = some n → n < 2 ^ 31) : oI o = -1 ↔ o = none := by
  cases o with
  | none => exact ⟨fun _ => rfl, fun _ => rfl⟩
  | some n =>
    refine ⟨fun h => ?_, fun h => by cases h⟩
    have h1 : nI n = -1 := h
    have h2 := i_eq.mp h1
    rw [i_T (ho n rfl), i_Tm1] at h2
    omega
theorem N_icmp_eq_Om (hx : p.tables.exec = Jvm.exec) (hb : c.code = cc) {o : Option Nat} (ho : ∀ n, o = some n → n < 2 ^ 31) {off : Int} {tgt : Nat} (hdg : decode cc pc = .ok (.if_icmp .eq off, 3)) (ht : (pc : Int) + off = (tgt : Int)) (kt : o = none → W p l e R s m args below meth c H locs cells slots Q (F0 m tgt ls rest)) (kf : o ≠ none → W p l e R s m args below meth c H locs cells slots Q (F0 m (pc + 3) ls rest)) : W p l e R s m args below meth c H locs cells slots Q (F0 m pc ls (.int (-1) :: .int (oI o) :: rest)) :=
  lv_icmp_eq hx hb hdg ht (fun q => kt ((oI_m1 ho).mp q)) (fun q => kf (fun z => q ((oI_m1 ho).mpr z)))
theorem N_icmp_ne_Om (hx : p.tables.exec = Jvm.exec) (hb : c.code = cc) {o : Option Nat} (ho : ∀ n, o = some n → n < 2 ^ 31) {off : Int} {tgt : Nat} (hdg : decode cc pc = .ok (.if_icmp .ne off, 3)) (ht : (pc : Int) + off = (tgt : Int)) (kt : o ≠ none → W p l e R s m args below meth c H locs cells slots Q (F0 m tgt ls rest)) (kf : o = none → W p l e R s m args below meth c H locs cells slots Q (F0 m (pc + 3) ls rest)) : W p l e R s m args below meth c H locs cells slots Q (F0 m pc ls (.int (-1) :: .int (oI o) :: rest)) :=
  lv_icmp_ne hx hb hdg ht (fun q => kt (fun z => q ((oI_m1 ho).mpr z))) (fun q => kf ((oI_m1 ho).mp q))
theorem N_icmp_eq_BB (hx : p.tables.exec = Jvm.exec) (hb : c.code = cc) {a b : Bool} {off : Int} {tgt : Nat} (hdg : decode cc pc = .ok (.if_icmp .eq off, 3)) (ht : (pc : Int) + off = (tgt : Int)) (kt : a = b → W p l e R s m args below meth c H locs cells slots Q (F0 m tgt ls rest)) (kf : a ≠ b → W p l e R s m args below meth c H locs cells slots Q (F0 m (pc + 3) ls rest)) : W p l e R s m args below meth c H locs cells slots Q (F0 m pc ls (.int (bI b) :: .int (bI a) :: rest)) :=
  lv_icmp_eq hx hb hdg ht (fun q => kt (bI_inj.mp q)) (fun q => kf (fun z => q (bI_inj.mpr z)))
theorem N_icmp_ne_BB (hx : p.tables.exec = Jvm.exec) (hb : c.code = cc) {a b : Bool} {off : Int} {tgt : Nat} (hdg : decode cc pc = .ok (.if_icmp .ne off, 3)) (ht : (pc : Int) + off = (tgt : Int)) (kt : a ≠ b → W p l e R s m args below meth c H locs cells slots Q (F0 m tgt ls rest)) (kf : a = b → W p l e R s m args below meth c H locs cells slots Q (F0 m (pc + 3) ls rest)) : W p l e R s m args below meth c H locs cells slots Q (F0 m pc ls (.int (bI b) :: .int (bI a) :: rest)) :=
  lv_icmp_ne hx hb hdg ht (fun q => kt (fun z => q (bI_inj.mpr z))) (fun q => kf (bI_inj.mp q))
theorem N_if_lt_O (hx : p.tables.exec = Jvm.exec) (hb : c.code = cc) {o : Option Nat} (ho : ∀ n, o = some n → n < 2 ^ 31) {off : Int} {tgt : Nat} (hdg : decode cc pc = .ok (.ifCond .lt off, 3)) (ht : (pc : Int) + off = (tgt : Int)) (kt : o = none → W p l e R s m args below meth c H locs cells slots Q (F0 m tgt ls rest)) (kf : o ≠ none → W p l e R s m args below meth c H locs cells slots Q (F0 m (pc + 3) ls rest)) : W p l e R s m args below meth c H locs cells slots Q (F0 m pc ls (.int (oI o) :: rest)) := by
  cases o with
  | none =>
    have e1 : oI none = -1 := rfl
    refine lv_if_lt hx hb hdg ht (fun q => kt rfl) (fun q => absurd (by rw [e1]; decide) q)
  | some n =>
    have h1 := ho n rfl
    refine lv_if_lt hx hb hdg ht (fun q => ?_) (fun q => ?_)
    · exfalso; have z := i_lt.mp q; rw [show oI (some n) = nI n from rfl, i_T h1, i_T0] at z; omega
    · exact kf (fun z => by cases z)
theorem N_if_ge_O (hx : p.tables.exec = Jvm.exec) (hb : c.code = cc) {o : Option Nat} (ho : ∀ n, o = some n → n < 2 ^ 31) {off : Int} {tgt : Nat} (hdg : decode cc pc = .ok (.ifCond .ge off, 3)) (ht : (pc : Int) + off = (tgt : Int)) (kt : o ≠ none → W p l e R s m args below meth c H locs cells slots Q (F0 m tgt ls rest)) (kf : o = none → W p l e R s m args below meth c H locs cells slots Q (F0 m (pc + 3) ls rest)) : W p l e R s m args below meth c H locs cells slots Q (F0 m pc ls (.int (oI o) :: rest)) := by
  cases o with
  | none =>
    have e1 : oI none = -1 := rfl
    refine lv_if_ge hx hb hdg ht (fun q => absurd q (by rw [e1]; decide)) (fun q => kf rfl)
  | some n =>
    have h1 := ho n rfl
    refine lv_if_ge hx hb hdg ht (fun q => ?_) (fun q => ?_)
    · exact kt (fun z => by cases z)
    · exfalso; exact q (i_le.mpr (by rw [show oI (some n) = nI n from rfl, i_T h1, i_T0]; omega))
theorem N_iadd (hx : p.tables.exec = Jvm.exec) (hb : c.code = cc) {a b : Nat}  (hdg : decode cc pc = .ok (.iadd, 1)) (kk : W p l e R s m args below meth c H locs cells slots Q (F0 m (pc + 1) ls (.int (nI (a + b)) :: rest))) : W p l e R s m args below meth c H locs cells slots Q (F0 m pc ls (.int (nI b) :: .int (nI a) :: rest)) := by
  refine lv_iadd hx hb hdg ?_
  rw [nI_add]
  exact kk
theorem N_isub (hx : p.tables.exec = Jvm.exec) (hb : c.code = cc) {a b : Nat} {r : Nat} (h : b ≤ a) (hr : a - b = r) (hdg : decode cc pc = .ok (.isub, 1)) (kk : W p l e R s m args below meth c H locs cells slots Q (F0 m (pc + 1) ls (.int (nI r) :: rest))) : W p l e R s m args below meth c H locs cells slots Q (F0 m pc ls (.int (nI b) :: .int (nI a) :: rest)) := by
  refine lv_isub hx hb hdg ?_
  rw [pk_sub h, hr]
  exact kk
theorem N_imul (hx : p.tables.exec = Jvm.exec) (hb : c.code = cc) {a b : Nat}  (hdg : decode cc pc = .ok (.imul, 1)) (kk : W p l e R s m args below meth c H locs cells slots Q (F0 m (pc + 1) ls (.int (nI (a * b)) :: rest))) : W p l e R s m args below meth c H locs cells slots Q (F0 m pc ls (.int (nI b) :: .int (nI a) :: rest)) := by
  refine lv_imul hx hb hdg ?_
  rw [pk_mul]
  exact kk
theorem N_idiv (hx : p.tables.exec = Jvm.exec) (hb : c.code = cc) {a b : Nat} (ha : a < 2 ^ 31) (h0 : 0 < b) (hb2 : b < 2 ^ 31) (hdg : decode cc pc = .ok (.idiv, 1)) (kk : W p l e R s m args below meth c H locs cells slots Q (F0 m (pc + 1) ls (.int (nI (a / b)) :: rest))) : W p l e R s m args below meth c H locs cells slots Q (F0 m pc ls (.int (nI b) :: .int (nI a) :: rest)) := by
  refine lv_idiv hx hb hdg (by exact nI_ne0 h0 hb2) ?_
  rw [pk_div ha h0 hb2]
  exact kk
theorem N_ladd (hx : p.tables.exec = Jvm.exec) (hb : c.code = cc) {a b : Nat}  (hdg : decode cc pc = .ok (.ladd, 1)) (kk : W p l e R s m args below meth c H locs cells slots Q (F0 m (pc + 1) ls (.long (lN (a + b)) :: rest))) : W p l e R s m args below meth c H locs cells slots Q (F0 m pc ls (.long (lN b) :: .long (lN a) :: rest)) := by
  refine lv_ladd hx hb hdg ?_
  rw [lN_add]
  exact kk
theorem N_lmul (hx : p.tables.exec = Jvm.exec) (hb : c.code = cc) {a b : Nat}  (hdg : decode cc pc = .ok (.lmul, 1)) (kk : W p l e R s m args below meth c H locs cells slots Q (F0 m (pc + 1) ls (.long (lN (a * b)) :: rest))) : W p l e R s m args below meth c H locs cells slots Q (F0 m pc ls (.long (lN b) :: .long (lN a) :: rest)) := by
  refine lv_lmul hx hb hdg ?_
  rw [lN_mul]
  exact kk
theorem N_i2l (hx : p.tables.exec = Jvm.exec) (hb : c.code = cc) {a : Nat} (h : a < 2 ^ 31) (hdg : decode cc pc = .ok (.i2l, 1)) (kk : W p l e R s m args below meth c H locs cells slots Q (F0 m (pc + 1) ls (.long (lN a) :: rest))) : W p l e R s m args below meth c H locs cells slots Q (F0 m pc ls (.int (nI a) :: rest)) := lv_i2l hx hb hdg (nI_l h) kk
theorem N_inc (a : Nat) : nI a + Int32.ofInt 1 = nI (a + 1) := (nI_succ a).symm
theorem N_dec {a r : Nat} (h : 0 < a) (hr : a - 1 = r) : nI a + Int32.ofInt (-1) = nI r := by subst hr; exact sb_m1 h
theorem lc_of {a b : Nat} (ha : a < 2 ^ 63) (hb : b < 2 ^ 63) : lg_cmp (lN a) (lN b) = if b < a then 1 else if a = b then 0 else -1 := by
  unfold lg_cmp
  simp only [pk_lLT hb ha, pk_lEQ ha hb]
  try (by_cases h1 : b < a <;> by_cases h2 : a = b <;> simp [h1, h2] <;> omega)
theorem N_lcmp_lt (hx : p.tables.exec = Jvm.exec) (hb : c.code = cc) {a b : Nat} (ha : a < 2 ^ 63) (hb2 : b < 2 ^ 63) {off : Int} {tgt : Nat} (hd1 : decode cc pc = .ok (.lcmp, 1)) (hd2 : decode cc (pc + 1) = .ok (.ifCond .lt off, 3)) (ht : ((pc + 1 : Nat) : Int) + off = (tgt : Int)) (kt : a < b → W p l e R s m args below meth c H locs cells slots Q (F0 m tgt ls rest)) (kf : b ≤ a → W p l e R s m args below meth c H locs cells slots Q (F0 m (pc + 1 + 3) ls rest)) : W p l e R s m args below meth c H locs cells slots Q (F0 m pc ls (.long (lN b) :: .long (lN a) :: rest)) := by
  refine W.lcmp hx hb hd1 ?_
  rw [lc_of ha hb2]
  have e1 : (1 : Int32).toInt = 1 := by decide +kernel
  refine lv_if_lt hx hb hd2 ht (fun q => kt ?_) (fun q => kf ?_)
  all_goals
    by_cases h1 : b < a
    · simp only [h1, if_true, i_le, i_lt, i_eq, i_T0, e1] at q
      first | omega | (exfalso; exact absurd q (by decide)) | (intro; omega)
    · by_cases h2 : a = b
      · simp only [h1, h2, if_true, if_false, Nat.lt_irrefl, i_le, i_lt, i_eq, i_T0] at q
        first | omega | (exfalso; exact absurd q (by decide)) | (intro; omega)
      · simp only [h1, h2, if_true, if_false, i_le, i_lt, i_eq, i_T0, i_Tm1] at q
        first | omega | (exfalso; exact absurd q (by decide)) | (intro; omega)
theorem N_lcmp_ge (hx : p.tables.exec = Jvm.exec) (hb : c.code = cc) {a b : Nat} (ha : a < 2 ^ 63) (hb2 : b < 2 ^ 63) {off : Int} {tgt : Nat} (hd1 : decode cc pc = .ok (.lcmp, 1)) (hd2 : decode cc (pc + 1) = .ok (.ifCond .ge off, 3)) (ht : ((pc + 1 : Nat) : Int) + off = (tgt : Int)) (kt : b ≤ a → W p l e R s m args below meth c H locs cells slots Q (F0 m tgt ls rest)) (kf : a < b → W p l e R s m args below meth c H locs cells slots Q (F0 m (pc + 1 + 3) ls rest)) : W p l e R s m args below meth c H locs cells slots Q (F0 m pc ls (.long (lN b) :: .long (lN a) :: rest)) := by
  refine W.lcmp hx hb hd1 ?_
  rw [lc_of ha hb2]
  have e1 : (1 : Int32).toInt = 1 := by decide +kernel
  refine lv_if_ge hx hb hd2 ht (fun q => kt ?_) (fun q => kf ?_)
  all_goals
    by_cases h1 : b < a
    · simp only [h1, if_true, i_le, i_lt, i_eq, i_T0, e1] at q
      first | omega | (exfalso; exact absurd q (by decide)) | (intro; omega)
    · by_cases h2 : a = b
      · simp only [h1, h2, if_true, if_false, Nat.lt_irrefl, i_le, i_lt, i_eq, i_T0] at q
        first | omega | (exfalso; exact absurd q (by decide)) | (intro; omega)
      · simp only [h1, h2, if_true, if_false, i_le, i_lt, i_eq, i_T0, i_Tm1] at q
        first | omega | (exfalso; exact absurd q (by decide)) | (intro; omega)
theorem N_lcmp_gt (hx : p.tables.exec = Jvm.exec) (hb : c.code = cc) {a b : Nat} (ha : a < 2 ^ 63) (hb2 : b < 2 ^ 63) {off : Int} {tgt : Nat} (hd1 : decode cc pc = .ok (.lcmp, 1)) (hd2 : decode cc (pc + 1) = .ok (.ifCond .gt off, 3)) (ht : ((pc + 1 : Nat) : Int) + off = (tgt : Int)) (kt : b < a → W p l e R s m args below meth c H locs cells slots Q (F0 m tgt ls rest)) (kf : a ≤ b → W p l e R s m args below meth c H locs cells slots Q (F0 m (pc + 1 + 3) ls rest)) : W p l e R s m args below meth c H locs cells slots Q (F0 m pc ls (.long (lN b) :: .long (lN a) :: rest)) := by
  refine W.lcmp hx hb hd1 ?_
  rw [lc_of ha hb2]
  have e1 : (1 : Int32).toInt = 1 := by decide +kernel
  refine lv_if_gt hx hb hd2 ht (fun q => kt ?_) (fun q => kf ?_)
  all_goals
    by_cases h1 : b < a
    · simp only [h1, if_true, i_le, i_lt, i_eq, i_T0, e1] at q
      first | omega | (exfalso; exact absurd q (by decide)) | (intro; omega)
    · by_cases h2 : a = b
      · simp only [h1, h2, if_true, if_false, Nat.lt_irrefl, i_le, i_lt, i_eq, i_T0] at q
        first | omega | (exfalso; exact absurd q (by decide)) | (intro; omega)
      · simp only [h1, h2, if_true, if_false, i_le, i_lt, i_eq, i_T0, i_Tm1] at q
        first | omega | (exfalso; exact absurd q (by decide)) | (intro; omega)
theorem N_lcmp_le (hx : p.tables.exec = Jvm.exec) (hb : c.code = cc) {a b : Nat} (ha : a < 2 ^ 63) (hb2 : b < 2 ^ 63) {off : Int} {tgt : Nat} (hd1 : decode cc pc = .ok (.lcmp, 1)) (hd2 : decode cc (pc + 1) = .ok (.ifCond .le off, 3)) (ht : ((pc + 1 : Nat) : Int) + off = (tgt : Int)) (kt : a ≤ b → W p l e R s m args below meth c H locs cells slots Q (F0 m tgt ls rest)) (kf : b < a → W p l e R s m args below meth c H locs cells slots Q (F0 m (pc + 1 + 3) ls rest)) : W p l e R s m args below meth c H locs cells slots Q (F0 m pc ls (.long (lN b) :: .long (lN a) :: rest)) := by
  refine W.lcmp hx hb hd1 ?_
  rw [lc_of ha hb2]
  have e1 : (1 : Int32).toInt = 1 := by decide +kernel
  refine lv_if_le hx hb hd2 ht (fun q => kt ?_) (fun q => kf ?_)
  all_goals
    by_cases h1 : b < a
    · simp only [h1, if_true, i_le, i_lt, i_eq, i_T0, e1] at q
      first | omega | (exfalso; exact absurd q (by decide)) | (intro; omega)
    · by_cases h2 : a = b
      · simp only [h1, h2, if_true, if_false, Nat.lt_irrefl, i_le, i_lt, i_eq, i_T0] at q
        first | omega | (exfalso; exact absurd q (by decide)) | (intro; omega)
      · simp only [h1, h2, if_true, if_false, i_le, i_lt, i_eq, i_T0, i_Tm1] at q
        first | omega | (exfalso; exact absurd q (by decide)) | (intro; omega)
theorem N_lcmp_eq (hx : p.tables.exec = Jvm.exec) (hb : c.code = cc) {a b : Nat} (ha : a < 2 ^ 63) (hb2 : b < 2 ^ 63) {off : Int} {tgt : Nat} (hd1 : decode cc pc = .ok (.lcmp, 1)) (hd2 : decode cc (pc + 1) = .ok (.ifCond .eq off, 3)) (ht : ((pc + 1 : Nat) : Int) + off = (tgt : Int)) (kt : a = b → W p l e R s m args below meth c H locs cells slots Q (F0 m tgt ls rest)) (kf : a ≠ b → W p l e R s m args below meth c H locs cells slots Q (F0 m (pc + 1 + 3) ls rest)) : W p l e R s m args below meth c H locs cells slots Q (F0 m pc ls (.long (lN b) :: .long (lN a) :: rest)) := by
  refine W.lcmp hx hb hd1 ?_
  rw [lc_of ha hb2]
  have e1 : (1 : Int32).toInt = 1 := by decide +kernel
  refine lv_if_eq hx hb hd2 ht (fun q => kt ?_) (fun q => kf ?_)
  all_goals
    by_cases h1 : b < a
    · simp only [h1, if_true, i_le, i_lt, i_eq, i_T0, e1] at q
      first | omega | (exfalso; exact absurd q (by decide)) | (intro; omega)
    · by_cases h2 : a = b
      · simp only [h1, h2, if_true, if_false, Nat.lt_irrefl, i_le, i_lt, i_eq, i_T0] at q
        first | omega | (exfalso; exact absurd q (by decide)) | (intro; omega)
      · simp only [h1, h2, if_true, if_false, i_le, i_lt, i_eq, i_T0, i_Tm1] at q
        first | omega | (exfalso; exact absurd q (by decide)) | (intro; omega)
theorem N_lcmp_ne (hx : p.tables.exec = Jvm.exec) (hb : c.code = cc) {a b : Nat} (ha : a < 2 ^ 63) (hb2 : b < 2 ^ 63) {off : Int} {tgt : Nat} (hd1 : decode cc pc = .ok (.lcmp, 1)) (hd2 : decode cc (pc + 1) = .ok (.ifCond .ne off, 3)) (ht : ((pc + 1 : Nat) : Int) + off = (tgt : Int)) (kt : a ≠ b → W p l e R s m args below meth c H locs cells slots Q (F0 m tgt ls rest)) (kf : a = b → W p l e R s m args below meth c H locs cells slots Q (F0 m (pc + 1 + 3) ls rest)) : W p l e R s m args below meth c H locs cells slots Q (F0 m pc ls (.long (lN b) :: .long (lN a) :: rest)) := by
  refine W.lcmp hx hb hd1 ?_
  rw [lc_of ha hb2]
  have e1 : (1 : Int32).toInt = 1 := by decide +kernel
  refine lv_if_ne hx hb hd2 ht (fun q => kt ?_) (fun q => kf ?_)
  all_goals
    by_cases h1 : b < a
    · simp only [h1, if_true, i_le, i_lt, i_eq, i_T0, e1] at q
      first | omega | (exfalso; exact absurd q (by decide)) | (intro; omega)
    · by_cases h2 : a = b
      · simp only [h1, h2, if_true, if_false, Nat.lt_irrefl, i_le, i_lt, i_eq, i_T0] at q
        first | omega | (exfalso; exact absurd q (by decide)) | (intro; omega)
      · simp only [h1, h2, if_true, if_false, i_le, i_lt, i_eq, i_T0, i_Tm1] at q
        first | omega | (exfalso; exact absurd q (by decide)) | (intro; omega)
theorem N_lcmp_ge_R0 (hx : p.tables.exec = Jvm.exec) (hb : c.code = cc) {x : Int64} {off : Int} {tgt : Nat} (hd1 : decode cc pc = .ok (.lcmp, 1)) (hd2 : decode cc (pc + 1) = .ok (.ifCond .ge off, 3)) (ht : ((pc + 1 : Nat) : Int) + off = (tgt : Int)) (kt : 0 ≤ x.toInt → W p l e R s m args below meth c H locs cells slots Q (F0 m tgt ls rest)) (kf : x.toInt < 0 → W p l e R s m args below meth c H locs cells slots Q (F0 m (pc + 1 + 3) ls rest)) : W p l e R s m args below meth c H locs cells slots Q (F0 m pc ls (.long (lN 0) :: .long x :: rest)) := by
  refine W.lcmp hx hb hd1 ?_
  have e0 : (lN 0).toInt = 0 := by decide +kernel
  refine lv_if_ge hx hb hd2 ht (fun q => kt ?_) (fun q => kf ?_)
  · have z := Int64.le_iff_toInt_le.mp ((lg_cmp_ge _ _).mp q)
    rw [e0] at z; exact z
  · have z := mt Int64.le_iff_toInt_le.mpr (mt (lg_cmp_ge _ _).mpr q)
    rw [e0] at z; omega
end NROWS
