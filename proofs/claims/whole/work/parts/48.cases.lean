section CASES
def InvL (np ne ns tl tot : Nat) (gr nw sp sq sec it ans fa un sco tim msco mtim : Nat → Nat) (re : Nat → Bool) (stt : Nat → Option Nat) : Prop :=
  IS np ne ns gr nw sp sq sec it ans stt ∧ ordB (bfT sec) ns it ∧ ordB (bfD gr) np fa ∧ reOk gr np re ∧ tot = sumF gr np ∧ (∀ i, i < np → 1 ≤ gr i) ∧ tl ≤ 100 ∧ (∀ i, i < 100 → un i ≤ 255) ∧ (∀ i, i < 20 → sco i < 2 ^ 63) ∧ (∀ i, i < 20 → tim i < 2 ^ 63) ∧ (∀ i, i < 20 → msco i < 2 ^ 63) ∧ (∀ i, i < 20 → mtim i < 2 ^ 63)
def InvW (h hm : Nat → Nat) (cI cZ cJ : ClassId) (wa wm : va_W) : Prop := ∃ (wr : Nat → Nat) (se : Nat → Bool) (ga : Nat → Option Nat) (tw : Nat → Option Nat) (np : Nat) (tot : Nat) (gr : Nat → Nat) (fa : Nat → Nat) (re : Nat → Bool) (ss : Nat → Nat) (sc : Nat → Nat) (ne : Nat) (stt : Nat → Option Nat) (sco : Nat → Nat) (tim : Nat → Nat) (cnt : Nat → Nat) (ns : Nat) (sp : Nat → Nat) (sq : Nat → Nat) (sec : Nat → Nat) (rt : Nat → Bool) (it : Nat → Nat) (ans : Nat → Nat) (tl : Nat) (un : Nat → Nat) (nw : Nat → Nat) (td : Nat → Nat) (mth : Nat) (mbd : Option Nat) (mtd : Nat → Nat) (mss : Nat → Nat) (msc : Nat → Nat) (mip : Nat → Bool) (mcb : Nat → Bool) (msco : Nat → Nat) (mtim : Nat → Nat), wa = w_All h cI cZ cJ wr se ga tw np tot gr fa re ss sc ne stt sco tim cnt ns sp sq sec rt it ans tl un nw td ∧ wm = w_M hm cI cZ cJ mth np ne ns tl mbd gr stt sp sq sec ans rt nw mtd un mss msc mip mcb msco mtim ∧ InvL np ne ns tl tot gr nw sp sq sec it ans fa un sco tim msco mtim re stt
theorem of_rng {x : Int32} {n : Nat} (h : 0 ≤ x.toInt ∧ x.toInt < n) : ∃ k : Nat, k < n ∧ x = nI k := by
  obtain ⟨k, hk, e⟩ := nI_of (x := x) (fun q => by have := i_lt.mp q; rw [i_T0] at this; omega)
  refine ⟨k, ?_, e⟩
  have := h.2
  rw [e, i_T hk] at this
  omega
theorem inB_of {x : Int32} {n : Nat} (h : inB x n = true) : ∃ k : Nat, k < n ∧ x = nI k := of_rng (by unfold inB at h; simpa using h)
variable (l : Launch) (G : va_G) (cI cZ cJ : ClassId) (h hm : Nat → Nat) {wa wm : va_W}
set_option maxHeartbeats 4000000 in
set_option maxRecDepth 100000 in
theorem case_puzzle (hI : InvW h hm cI cZ cJ wa wm) (g : Int32) : ∃ (d1 d2 : Nat) (r : Int32) (wa' wm' : va_W), d1 ≤ 6 ∧ d2 ≤ 6 ∧ InvW h hm cI cZ cJ wa' wm' ∧ Ct l G (tyL cI cZ cJ) y_Top_puzzle b_Top_puzzle 2 (some .int) (rmL d1) [.ref (h 0), .int g] wa (some (.int r)) wa' ∧ Ct l G (tyL cI cZ cJ) y_Model_puzzle b_Model_puzzle 2 (some .int) (rmL d2) [.ref (hm 0), .int g] wm (some (.int r)) wm' := by
  obtain ⟨wr, se, ga, tw, np, tot, gr, fa, re, ss, sc, ne, stt, sco, tim, cnt, ns, sp, sq, sec, rt, it, ans, tl, un, nw, td, mth, mbd, mtd, mss, msc, mip, mcb, msco, mtim, rfl, rfl, i1, i2, i3, i4, i5, i6, i7, i8, i9, i10, i11, i12⟩ := hI
  obtain ⟨z1, z2, z3, z4, z5, z6, z7, z8, z9, z10, z11, z12, z13⟩ := id i1
  have hs9 := sumF_le gr 100 np (fun i hi => z4 i (by omega))
  by_cases hg : 1 ≤ g.toInt ∧ g.toInt ≤ 100 ∧ np < 20
  · obtain ⟨k, hk, rfl⟩ := of_rng (x := g) (n := 101) (by omega)
    rw [i_T (by omega)] at hg
    refine ⟨_, _, _, _, _, ?_, ?_, ?_, c_Top_puzzle_ok l G cI cZ cJ h _ _ _ _ _ _ _ _ _ _ _ _ _ _ _ _ _ _ _ _ _ _ _ _ _ _ _  k (by omega) hg.2.2 (by omega) (fun i hi => by have := i3.1 i hi; omega) z4, m_puzzle_ok l G cI cZ cJ hm _ _ _ _ _ _ _ _ _ _ _ _ _ _ _ _ _ _ _ _ _ _  k (by omega) hg.2.2⟩
    · decide
    · decide
    · exact ⟨_, _, _, _, _, _, _, _, _, _, _, _, _, _, _, _, _, _, _, _, _, _, _, _, _, _, _, _, _, _, _, _, _, _, _, _, rfl, rfl, ⟨is_puzzle i1 hg.2.2 (by omega), i2, ordD_ins i3, reOk_add i4 (by omega) i6, by rw [i5]; show _ = sumF _ np + _; rw [va_up_self, sumF_congr np (fun i hi => va_up_ne gr _ (show i ≠ np by omega))], fun i hi => by unfold va_up; split; (omega); (exact i6 i (by omega)), i7, i8, i9, i10, i11, i12⟩⟩
  · refine ⟨_, _, _, _, _, ?_, ?_, ?_, c_Top_puzzle_bad l G cI cZ cJ h _ _ _ _ _ _ _ _ _ _ _ _ _ _ _ _ _ _ _ _ _ _ _ _ _ _ _  g hg z1, m_puzzle_bad l G cI cZ cJ hm _ _ _ _ _ _ _ _ _ _ _ _ _ _ _ _ _ _ _ _ _ _  g hg z1⟩
    · decide
    · decide
    · exact ⟨_, _, _, _, _, _, _, _, _, _, _, _, _, _, _, _, _, _, _, _, _, _, _, _, _, _, _, _, _, _, _, _, _, _, _, _, rfl, rfl, ⟨i1, i2, i3, i4, i5, i6, i7, i8, i9, i10, i11, i12⟩⟩

set_option maxHeartbeats 4000000 in
set_option maxRecDepth 100000 in
theorem case_person (hI : InvW h hm cI cZ cJ wa wm)  : ∃ (d1 d2 : Nat) (r : Int32) (wa' wm' : va_W), d1 ≤ 6 ∧ d2 ≤ 6 ∧ InvW h hm cI cZ cJ wa' wm' ∧ Ct l G (tyL cI cZ cJ) y_Top_person b_Top_person 1 (some .int) (rmL d1) [.ref (h 0)] wa (some (.int r)) wa' ∧ Ct l G (tyL cI cZ cJ) y_Model_person b_Model_person 1 (some .int) (rmL d2) [.ref (hm 0)] wm (some (.int r)) wm' := by
  obtain ⟨wr, se, ga, tw, np, tot, gr, fa, re, ss, sc, ne, stt, sco, tim, cnt, ns, sp, sq, sec, rt, it, ans, tl, un, nw, td, mth, mbd, mtd, mss, msc, mip, mcb, msco, mtim, rfl, rfl, i1, i2, i3, i4, i5, i6, i7, i8, i9, i10, i11, i12⟩ := hI
  obtain ⟨z1, z2, z3, z4, z5, z6, z7, z8, z9, z10, z11, z12, z13⟩ := id i1
  by_cases hn : ne < 20
  · refine ⟨_, _, _, _, _, ?_, ?_, ?_, c_Top_person_ok l G cI cZ cJ h _ _ _ _ _ _ _ _ _ _ _ _ _ _ _ _ _ _ _ _ _ _ _ _ _ _ _  hn, m_person_ok l G cI cZ cJ hm _ _ _ _ _ _ _ _ _ _ _ _ _ _ _ _ _ _ _ _ _ _  hn⟩
    · decide
    · decide
    · exact ⟨_, _, _, _, _, _, _, _, _, _, _, _, _, _, _, _, _, _, _, _, _, _, _, _, _, _, _, _, _, _, _, _, _, _, _, _, rfl, rfl, ⟨is_person i1 hn, i2, i3, i4, i5, i6, i7, i8, i9, i10, i11, i12⟩⟩
  · refine ⟨_, _, _, _, _, ?_, ?_, ?_, c_Top_person_full l G cI cZ cJ h _ _ _ _ _ _ _ _ _ _ _ _ _ _ _ _ _ _ _ _ _ _ _ _ _ _ _  (by omega), m_person_full l G cI cZ cJ hm _ _ _ _ _ _ _ _ _ _ _ _ _ _ _ _ _ _ _ _ _ _  (by omega)⟩
    · decide
    · decide
    · exact ⟨_, _, _, _, _, _, _, _, _, _, _, _, _, _, _, _, _, _, _, _, _, _, _, _, _, _, _, _, _, _, _, _, _, _, _, _, rfl, rfl, ⟨i1, i2, i3, i4, i5, i6, i7, i8, i9, i10, i11, i12⟩⟩

set_option maxHeartbeats 4000000 in
set_option maxRecDepth 100000 in
theorem case_unit (hI : InvW h hm cI cZ cJ wa wm) (u : Int32) : ∃ (d1 d2 : Nat) (r : Bool) (wa' wm' : va_W), d1 ≤ 6 ∧ d2 ≤ 6 ∧ InvW h hm cI cZ cJ wa' wm' ∧ Ct l G (tyL cI cZ cJ) y_Top_unit b_Top_unit 2 (some .boolean) (rmL d1) [.ref (h 0), .int u] wa (some (.int (bI r))) wa' ∧ Ct l G (tyL cI cZ cJ) y_Model_unit b_Model_unit 2 (some .boolean) (rmL d2) [.ref (hm 0), .int u] wm (some (.int (bI r))) wm' := by
  obtain ⟨wr, se, ga, tw, np, tot, gr, fa, re, ss, sc, ne, stt, sco, tim, cnt, ns, sp, sq, sec, rt, it, ans, tl, un, nw, td, mth, mbd, mtd, mss, msc, mip, mcb, msco, mtim, rfl, rfl, i1, i2, i3, i4, i5, i6, i7, i8, i9, i10, i11, i12⟩ := hI
  by_cases hu : 0 ≤ u.toInt ∧ u.toInt ≤ 255 ∧ tl < 100
  · obtain ⟨k, hk, rfl⟩ := of_rng (x := u) (n := 256) (by omega)
    refine ⟨_, _, _, _, _, ?_, ?_, ?_, c_Top_unit_ok l G cI cZ cJ h _ _ _ _ _ _ _ _ _ _ _ _ _ _ _ _ _ _ _ _ _ _ _ _ _ _ _  k (by omega) hu.2.2, m_unit_ok l G cI cZ cJ hm _ _ _ _ _ _ _ _ _ _ _ _ _ _ _ _ _ _ _ _ _ _  k (by omega) hu.2.2⟩
    · decide
    · decide
    · exact ⟨_, _, _, _, _, _, _, _, _, _, _, _, _, _, _, _, _, _, _, _, _, _, _, _, _, _, _, _, _, _, _, _, _, _, _, _, rfl, rfl, ⟨i1, i2, i3, i4, i5, i6, by omega, fun i hi => by unfold va_up; split; (omega); (exact i8 i hi), i9, i10, i11, i12⟩⟩
  · refine ⟨_, _, _, _, _, ?_, ?_, ?_, c_Top_unit_bad l G cI cZ cJ h _ _ _ _ _ _ _ _ _ _ _ _ _ _ _ _ _ _ _ _ _ _ _ _ _ _ _  u hu i7, m_unit_bad l G cI cZ cJ hm _ _ _ _ _ _ _ _ _ _ _ _ _ _ _ _ _ _ _ _ _ _  u hu i7⟩
    · decide
    · decide
    · exact ⟨_, _, _, _, _, _, _, _, _, _, _, _, _, _, _, _, _, _, _, _, _, _, _, _, _, _, _, _, _, _, _, _, _, _, _, _, rfl, rfl, ⟨i1, i2, i3, i4, i5, i6, i7, i8, i9, i10, i11, i12⟩⟩

set_option maxHeartbeats 4000000 in
set_option maxRecDepth 100000 in
theorem case_rules (aK aV : Nat) (hI : InvW h hm cI cZ cJ wa wm)  : ∃ (d1 d2 : Nat) (r : Int32) (wa' wm' : va_W), d1 ≤ 6 ∧ d2 ≤ 6 ∧ InvW h hm cI cZ cJ wa' wm' ∧ CtX l aK aV G (tyL cI cZ cJ) y_Top_rules b_Top_rules 2 (some .int) (rmL d1) [.ref (h 0)] wa (some (.int r)) wa' ∧ Ct l G (tyL cI cZ cJ) y_Model_rules b_Model_rules 3 (some .int) (rmL d2) [.ref (hm 0)] wm (some (.int r)) wm' := by
  obtain ⟨wr, se, ga, tw, np, tot, gr, fa, re, ss, sc, ne, stt, sco, tim, cnt, ns, sp, sq, sec, rt, it, ans, tl, un, nw, td, mth, mbd, mtd, mss, msc, mip, mcb, msco, mtim, rfl, rfl, i1, i2, i3, i4, i5, i6, i7, i8, i9, i10, i11, i12⟩ := hI
  obtain ⟨z1, z2, z3, z4, z5, z6, z7, z8, z9, z10, z11, z12, z13⟩ := id i1
  have hc := c_Top_rules l G cI cZ cJ h aK aV wr se ga tw np tot gr fa re ss sc ne stt sco tim cnt ns sp sq sec rt it ans tl un nw td i7 i8
  have hr := m_rules l G cI cZ cJ hm mth np ne ns tl mbd gr stt sp sq sec ans rt nw mtd un mss msc mip mcb msco mtim i7 i8
  have e := ru_eq (un := un) (nw := nw) (td := td) (mtd := mtd) (tl := tl)
  rw [← e.1, ← e.2] at hr
  refine ⟨_, _, _, _, _, ?_, ?_, ?_, hc, hr⟩
  · decide
  · decide
  · exact ⟨_, _, _, _, _, _, _, _, _, _, _, _, _, _, _, _, _, _, _, _, _, _, _, _, _, _, _, _, _, _, _, _, _, _, _, _, rfl, rfl, ⟨is_rules i1 (nwC_le z5), i2, i3, i4, i5, i6, by omega, i8, i9, i10, i11, i12⟩⟩

set_option maxHeartbeats 4000000 in
set_option maxRecDepth 100000 in
theorem case_start (hI : InvW h hm cI cZ cJ wa wm) (x : Int32) (y : Int32) : ∃ (d1 d2 : Nat) (r : Bool) (wa' wm' : va_W), d1 ≤ 6 ∧ d2 ≤ 6 ∧ InvW h hm cI cZ cJ wa' wm' ∧ Ct l G (tyL cI cZ cJ) y_Top_start b_Top_start 3 (some .boolean) (rmL d1) [.ref (h 0), .int x, .int y] wa (some (.int (bI r))) wa' ∧ Ct l G (tyL cI cZ cJ) y_Model_start b_Model_start 4 (some .boolean) (rmL d2) [.ref (hm 0), .int x, .int y] wm (some (.int (bI r))) wm' := by
  obtain ⟨wr, se, ga, tw, np, tot, gr, fa, re, ss, sc, ne, stt, sco, tim, cnt, ns, sp, sq, sec, rt, it, ans, tl, un, nw, td, mth, mbd, mtd, mss, msc, mip, mcb, msco, mtim, rfl, rfl, i1, i2, i3, i4, i5, i6, i7, i8, i9, i10, i11, i12⟩ := hI
  obtain ⟨z1, z2, z3, z4, z5, z6, z7, z8, z9, z10, z11, z12, z13⟩ := id i1
  by_cases hb : inB x ne = true ∧ 0 ≤ y.toInt ∧ y.toInt ≤ 1000000
  · obtain ⟨j, hj, rfl⟩ := inB_of hb.1
    obtain ⟨k, hk, rfl⟩ := of_rng (x := y) (n := 1000001) (by omega)
    cases ha : anyG (fun i => decide (sp i = j ∧ sec i < k)) ns 0 with
    | true =>
      refine ⟨_, _, _, _, _, ?_, ?_, ?_, c_Top_start_early l G cI cZ cJ h _ _ _ _ _ _ _ _ _ _ _ _ _ _ _ _ _ _ _ _ _ _ _ _ _ _ _  j k hj (by omega) ha i1, m_start_early l G cI cZ cJ hm _ _ _ _ _ _ _ _ _ _ _ _ _ _ _ _ _ _ _ _ _ _  j k hj (by omega) ha (is_id i1)⟩
      · decide
      · decide
      · exact ⟨_, _, _, _, _, _, _, _, _, _, _, _, _, _, _, _, _, _, _, _, _, _, _, _, _, _, _, _, _, _, _, _, _, _, _, _, rfl, rfl, ⟨i1, i2, i3, i4, i5, i6, i7, i8, i9, i10, i11, i12⟩⟩
    | false =>
      refine ⟨_, _, _, _, _, ?_, ?_, ?_, c_Top_start_ok l G cI cZ cJ h _ _ _ _ _ _ _ _ _ _ _ _ _ _ _ _ _ _ _ _ _ _ _ _ _ _ _  j k hj (by omega) ha i1, m_start_ok l G cI cZ cJ hm _ _ _ _ _ _ _ _ _ _ _ _ _ _ _ _ _ _ _ _ _ _  j k hj (by omega) ha (is_id i1)⟩
      · decide
      · decide
      · exact ⟨_, _, _, _, _, _, _, _, _, _, _, _, _, _, _, _, _, _, _, _, _, _, _, _, _, _, _, _, _, _, _, _, _, _, _, _, rfl, rfl, ⟨is_start i1 (by omega) ha, i2, i3, i4, i5, i6, i7, i8, i9, i10, i11, i12⟩⟩
  · refine ⟨_, _, _, _, _, ?_, ?_, ?_, c_Top_start_bad l G cI cZ cJ h _ _ _ _ _ _ _ _ _ _ _ _ _ _ _ _ _ _ _ _ _ _ _ _ _ _ _  x y hb i1, m_start_bad l G cI cZ cJ hm _ _ _ _ _ _ _ _ _ _ _ _ _ _ _ _ _ _ _ _ _ _  x y hb (is_id i1)⟩
    · decide
    · decide
    · exact ⟨_, _, _, _, _, _, _, _, _, _, _, _, _, _, _, _, _, _, _, _, _, _, _, _, _, _, _, _, _, _, _, _, _, _, _, _, rfl, rfl, ⟨i1, i2, i3, i4, i5, i6, i7, i8, i9, i10, i11, i12⟩⟩

set_option maxHeartbeats 4000000 in
set_option maxRecDepth 100000 in
theorem case_submit (hI : InvW h hm cI cZ cJ wa wm) (x : Int32) (y : Int32) (t : Int32) (w : Int32) (b : Bool) : ∃ (d1 d2 : Nat) (r : Int32) (wa' wm' : va_W), d1 ≤ 6 ∧ d2 ≤ 6 ∧ InvW h hm cI cZ cJ wa' wm' ∧ Ct l G (tyL cI cZ cJ) y_Top_submit b_Top_submit 7 (some .int) (rmL d1) [.ref (h 0), .int x, .int y, .int t, .int w, .int (bI b)] wa (some (.int r)) wa' ∧ Ct l G (tyL cI cZ cJ) y_Model_submit b_Model_submit 6 (some .int) (rmL d2) [.ref (hm 0), .int x, .int y, .int t, .int w, .int (bI b)] wm (some (.int r)) wm' := by
  obtain ⟨wr, se, ga, tw, np, tot, gr, fa, re, ss, sc, ne, stt, sco, tim, cnt, ns, sp, sq, sec, rt, it, ans, tl, un, nw, td, mth, mbd, mtd, mss, msc, mip, mcb, msco, mtim, rfl, rfl, i1, i2, i3, i4, i5, i6, i7, i8, i9, i10, i11, i12⟩ := hI
  obtain ⟨z1, z2, z3, z4, z5, z6, z7, z8, z9, z10, z11, z12, z13⟩ := id i1
  by_cases hxy : inB x ne = true ∧ inB y np = true
  · obtain ⟨j, hj, rfl⟩ := inB_of hxy.1
    obtain ⟨k, hk, rfl⟩ := inB_of hxy.2
    by_cases hw : 0 ≤ w.toInt
    · obtain ⟨v, hv, rfl⟩ : ∃ v : Nat, v < 2 ^ 31 ∧ w = nI v := nI_of (fun q => by have := i_lt.mp q; rw [i_T0] at this; omega)
      cases hs : stt j with
      | none =>
        refine ⟨_, _, _, _, _, ?_, ?_, ?_, c_Top_submit_none l G cI cZ cJ h _ _ _ _ _ _ _ _ _ _ _ _ _ _ _ _ _ _ _ _ _ _ _ _ _ _ _  j k t v b hj hk hv hs i1, m_submit_none l G cI cZ cJ hm _ _ _ _ _ _ _ _ _ _ _ _ _ _ _ _ _ _ _ _ _ _  j k t v b hj hk hv hs (is_id i1)⟩
        · decide
        · decide
        · exact ⟨_, _, _, _, _, _, _, _, _, _, _, _, _, _, _, _, _, _, _, _, _, _, _, _, _, _, _, _, _, _, _, _, _, _, _, _, rfl, rfl, ⟨i1, i2, i3, i4, i5, i6, i7, i8, i9, i10, i11, i12⟩⟩
      | some s0 =>
        have hz := z12 j s0 (by omega) hs
        by_cases ht : (s0 : Int) ≤ t.toInt ∧ t.toInt ≤ 1000000
        · obtain ⟨q, hq, rfl⟩ := of_rng (x := t) (n := 1000001) (by omega)
          rw [i_T (by omega)] at ht
          by_cases hn : ns < 300
          · refine ⟨_, _, _, _, _, ?_, ?_, ?_, c_Top_submit_ok l G cI cZ cJ h _ _ _ _ _ _ _ _ _ _ _ _ _ _ _ _ _ _ _ _ _ _ _ _ _ _ _  j k q v b s0 hj hk hv hs (by omega) hn i1, m_submit_ok l G cI cZ cJ hm _ _ _ _ _ _ _ _ _ _ _ _ _ _ _ _ _ _ _ _ _ _  j k q v b s0 hj hk hv hs hn (by omega) (is_id i1)⟩
            · decide
            · decide
            · exact ⟨_, _, _, _, _, _, _, _, _, _, _, _, _, _, _, _, _, _, _, _, _, _, _, _, _, _, _, _, _, _, _, _, _, _, _, _, rfl, rfl, ⟨is_submit i1 hn hj hk hv hs (by omega) (ordT_ins i2).1, ordT_ins i2, i3, i4, i5, i6, i7, i8, i9, i10, i11, i12⟩⟩
          · refine ⟨_, _, _, _, _, ?_, ?_, ?_, c_Top_submit_full l G cI cZ cJ h _ _ _ _ _ _ _ _ _ _ _ _ _ _ _ _ _ _ _ _ _ _ _ _ _ _ _  j k q v b s0 hj hk hv hs (by omega) (by omega) i1, m_submit_full l G cI cZ cJ hm _ _ _ _ _ _ _ _ _ _ _ _ _ _ _ _ _ _ _ _ _ _  j k _ v b s0 hj hk hv hs (by omega) (is_id i1)⟩
            · decide
            · decide
            · exact ⟨_, _, _, _, _, _, _, _, _, _, _, _, _, _, _, _, _, _, _, _, _, _, _, _, _, _, _, _, _, _, _, _, _, _, _, _, rfl, rfl, ⟨i1, i2, i3, i4, i5, i6, i7, i8, i9, i10, i11, i12⟩⟩
        · by_cases hn : ns < 300
          · refine ⟨_, _, _, _, _, ?_, ?_, ?_, c_Top_submit_off l G cI cZ cJ h _ _ _ _ _ _ _ _ _ _ _ _ _ _ _ _ _ _ _ _ _ _ _ _ _ _ _  j k t v b s0 hj hk hv hs ht i1, m_submit_off l G cI cZ cJ hm _ _ _ _ _ _ _ _ _ _ _ _ _ _ _ _ _ _ _ _ _ _  j k t v b s0 hj hk hv hs hn ht (is_id i1)⟩
            · decide
            · decide
            · exact ⟨_, _, _, _, _, _, _, _, _, _, _, _, _, _, _, _, _, _, _, _, _, _, _, _, _, _, _, _, _, _, _, _, _, _, _, _, rfl, rfl, ⟨i1, i2, i3, i4, i5, i6, i7, i8, i9, i10, i11, i12⟩⟩
          · refine ⟨_, _, _, _, _, ?_, ?_, ?_, c_Top_submit_off l G cI cZ cJ h _ _ _ _ _ _ _ _ _ _ _ _ _ _ _ _ _ _ _ _ _ _ _ _ _ _ _  j k t v b s0 hj hk hv hs ht i1, m_submit_full l G cI cZ cJ hm _ _ _ _ _ _ _ _ _ _ _ _ _ _ _ _ _ _ _ _ _ _  j k t v b s0 hj hk hv hs (by omega) (is_id i1)⟩
            · decide
            · decide
            · exact ⟨_, _, _, _, _, _, _, _, _, _, _, _, _, _, _, _, _, _, _, _, _, _, _, _, _, _, _, _, _, _, _, _, _, _, _, _, rfl, rfl, ⟨i1, i2, i3, i4, i5, i6, i7, i8, i9, i10, i11, i12⟩⟩
    · refine ⟨_, _, _, _, _, ?_, ?_, ?_, c_Top_submit_bad l G cI cZ cJ h _ _ _ _ _ _ _ _ _ _ _ _ _ _ _ _ _ _ _ _ _ _ _ _ _ _ _  (nI j) (nI k) t w b (fun q => hw q.2.2) i1, m_submit_neg l G cI cZ cJ hm _ _ _ _ _ _ _ _ _ _ _ _ _ _ _ _ _ _ _ _ _ _  j k t w b hj hk (by omega) (is_id i1)⟩
      · decide
      · decide
      · exact ⟨_, _, _, _, _, _, _, _, _, _, _, _, _, _, _, _, _, _, _, _, _, _, _, _, _, _, _, _, _, _, _, _, _, _, _, _, rfl, rfl, ⟨i1, i2, i3, i4, i5, i6, i7, i8, i9, i10, i11, i12⟩⟩
  · refine ⟨_, _, _, _, _, ?_, ?_, ?_, c_Top_submit_bad l G cI cZ cJ h _ _ _ _ _ _ _ _ _ _ _ _ _ _ _ _ _ _ _ _ _ _ _ _ _ _ _  x y t w b (fun q => hxy ⟨q.1, q.2.1⟩) i1, m_submit_bad l G cI cZ cJ hm _ _ _ _ _ _ _ _ _ _ _ _ _ _ _ _ _ _ _ _ _ _  x y t w b hxy (is_id i1)⟩
    · decide
    · decide
    · exact ⟨_, _, _, _, _, _, _, _, _, _, _, _, _, _, _, _, _, _, _, _, _, _, _, _, _, _, _, _, _, _, _, _, _, _, _, _, rfl, rfl, ⟨i1, i2, i3, i4, i5, i6, i7, i8, i9, i10, i11, i12⟩⟩

set_option maxHeartbeats 4000000 in
set_option maxRecDepth 100000 in
theorem case_correct (hI : InvW h hm cI cZ cJ wa wm) (x : Int32) (b : Bool) : ∃ (d1 d2 : Nat) (r : Bool) (wa' wm' : va_W), d1 ≤ 6 ∧ d2 ≤ 6 ∧ InvW h hm cI cZ cJ wa' wm' ∧ Ct l G (tyL cI cZ cJ) y_Top_correct b_Top_correct 3 (some .boolean) (rmL d1) [.ref (h 0), .int x, .int (bI b)] wa (some (.int (bI r))) wa' ∧ Ct l G (tyL cI cZ cJ) y_Model_correct b_Model_correct 3 (some .boolean) (rmL d2) [.ref (hm 0), .int x, .int (bI b)] wm (some (.int (bI r))) wm' := by
  obtain ⟨wr, se, ga, tw, np, tot, gr, fa, re, ss, sc, ne, stt, sco, tim, cnt, ns, sp, sq, sec, rt, it, ans, tl, un, nw, td, mth, mbd, mtd, mss, msc, mip, mcb, msco, mtim, rfl, rfl, i1, i2, i3, i4, i5, i6, i7, i8, i9, i10, i11, i12⟩ := hI
  obtain ⟨z1, z2, z3, z4, z5, z6, z7, z8, z9, z10, z11, z12, z13⟩ := id i1
  cases hx : inB x ns with
  | false =>
    refine ⟨_, _, _, _, _, ?_, ?_, ?_, c_Top_correct_none l G cI cZ cJ h _ _ _ _ _ _ _ _ _ _ _ _ _ _ _ _ _ _ _ _ _ _ _ _ _ _ _  x b hx z3, m_correct_none l G cI cZ cJ hm _ _ _ _ _ _ _ _ _ _ _ _ _ _ _ _ _ _ _ _ _ _  x b hx z3⟩
    · decide
    · decide
    · exact ⟨_, _, _, _, _, _, _, _, _, _, _, _, _, _, _, _, _, _, _, _, _, _, _, _, _, _, _, _, _, _, _, _, _, _, _, _, rfl, rfl, ⟨i1, i2, i3, i4, i5, i6, i7, i8, i9, i10, i11, i12⟩⟩
  | true =>
    obtain ⟨j, hj, rfl⟩ := inB_of hx
    by_cases hb : rt j = b
    · refine ⟨_, _, _, _, _, ?_, ?_, ?_, c_Top_correct_same l G cI cZ cJ h _ _ _ _ _ _ _ _ _ _ _ _ _ _ _ _ _ _ _ _ _ _ _ _ _ _ _  j b hj z3 hb, m_correct_same l G cI cZ cJ hm _ _ _ _ _ _ _ _ _ _ _ _ _ _ _ _ _ _ _ _ _ _  j b hj z3 hb⟩
      · decide
      · decide
      · exact ⟨_, _, _, _, _, _, _, _, _, _, _, _, _, _, _, _, _, _, _, _, _, _, _, _, _, _, _, _, _, _, _, _, _, _, _, _, rfl, rfl, ⟨i1, i2, i3, i4, i5, i6, i7, i8, i9, i10, i11, i12⟩⟩
    · refine ⟨_, _, _, _, _, ?_, ?_, ?_, c_Top_correct_ok l G cI cZ cJ h _ _ _ _ _ _ _ _ _ _ _ _ _ _ _ _ _ _ _ _ _ _ _ _ _ _ _  j b hj z3 hb, m_correct_ok l G cI cZ cJ hm _ _ _ _ _ _ _ _ _ _ _ _ _ _ _ _ _ _ _ _ _ _  j b hj z3 hb⟩
      · decide
      · decide
      · exact ⟨_, _, _, _, _, _, _, _, _, _, _, _, _, _, _, _, _, _, _, _, _, _, _, _, _, _, _, _, _, _, _, _, _, _, _, _, rfl, rfl, ⟨i1, i2, i3, i4, i5, i6, i7, i8, i9, i10, i11, i12⟩⟩

set_option maxHeartbeats 4000000 in
set_option maxRecDepth 100000 in
theorem case_late (hI : InvW h hm cI cZ cJ wa wm) (x : Int32) : ∃ (d1 d2 : Nat) (r : Bool) (wa' wm' : va_W), d1 ≤ 6 ∧ d2 ≤ 6 ∧ InvW h hm cI cZ cJ wa' wm' ∧ Ct l G (tyL cI cZ cJ) y_Top_late b_Top_late 2 (some .boolean) (rmL d1) [.ref (h 0), .int x] wa (some (.int (bI r))) wa' ∧ Ct l G (tyL cI cZ cJ) y_Model_late b_Model_late 2 (some .boolean) (rmL d2) [.ref (hm 0), .int x] wm (some (.int (bI r))) wm' := by
  obtain ⟨wr, se, ga, tw, np, tot, gr, fa, re, ss, sc, ne, stt, sco, tim, cnt, ns, sp, sq, sec, rt, it, ans, tl, un, nw, td, mth, mbd, mtd, mss, msc, mip, mcb, msco, mtim, rfl, rfl, i1, i2, i3, i4, i5, i6, i7, i8, i9, i10, i11, i12⟩ := hI
  obtain ⟨z1, z2, z3, z4, z5, z6, z7, z8, z9, z10, z11, z12, z13⟩ := id i1
  cases hx : inB x ns with
  | false =>
    refine ⟨_, _, _, _, _, ?_, ?_, ?_, c_Top_late_none l G cI cZ cJ h _ _ _ _ _ _ _ _ _ _ _ _ _ _ _ _ _ _ _ _ _ _ _ _ _ _ _  x hx z3, m_late_none l G cI cZ cJ hm _ _ _ _ _ _ _ _ _ _ _ _ _ _ _ _ _ _ _ _ _ _  x hx z3⟩
    · decide
    · decide
    · exact ⟨_, _, _, _, _, _, _, _, _, _, _, _, _, _, _, _, _, _, _, _, _, _, _, _, _, _, _, _, _, _, _, _, _, _, _, _, rfl, rfl, ⟨i1, i2, i3, i4, i5, i6, i7, i8, i9, i10, i11, i12⟩⟩
  | true =>
    obtain ⟨j, hj, rfl⟩ := inB_of hx
    obtain ⟨s0, hs, hle⟩ := z11 j hj
    refine ⟨_, _, _, _, _, ?_, ?_, ?_, c_Top_late_some l G cI cZ cJ h _ _ _ _ _ _ _ _ _ _ _ _ _ _ _ _ _ _ _ _ _ _ _ _ _ _ _  j s0 hj hs hle i1, m_late_some l G cI cZ cJ hm _ _ _ _ _ _ _ _ _ _ _ _ _ _ _ _ _ _ _ _ _ _  j s0 hj hs hle (is_id i1)⟩
    · decide
    · decide
    · exact ⟨_, _, _, _, _, _, _, _, _, _, _, _, _, _, _, _, _, _, _, _, _, _, _, _, _, _, _, _, _, _, _, _, _, _, _, _, rfl, rfl, ⟨i1, i2, i3, i4, i5, i6, i7, i8, i9, i10, i11, i12⟩⟩

theorem wo_bnd {np ne ns : Nat} {gr nw sp sq sec it ans sco tim cnt wr : Nat → Nat} {rt se : Nat → Bool} {stt ga : Nat → Option Nat} (i1 : IS np ne ns gr nw sp sq sec it ans stt) (i2 : ordB (bfT sec) ns it) (x : Nat) (u : TkS) (h1 : ∀ i, i < 20 → u.2.2.2.1 i < 2 ^ 63) (h2 : ∀ i, i < 20 → u.2.2.2.2.1 i < 2 ^ 63) : (∀ i, i < 20 → (woF gr nw sp sq sec it rt stt ns x u).2.2.2.1 i < 2 ^ 63) ∧ ∀ i, i < 20 → (woF gr nw sp sq sec it rt stt ns x u).2.2.2.2.1 i < 2 ^ 63 := by
  refine ⟨fun i hi => ?_, fun i hi => ?_⟩
  · by_cases q : i = x
    · subst q; rw [wo_sco i1 i2]; have := scA_le (rt := rt) i1 i; omega
    · rw [(wo_other q u).1]; exact h1 i hi
  · by_cases q : i = x
    · subst q; rw [wo_tim i1 i2]; have := tiA_le (rt := rt) i1 i; omega
    · rw [(wo_other q u).2]; exact h2 i hi
theorem wa_bnd {np ne ns : Nat} {gr nw sp sq sec it ans : Nat → Nat} {rt : Nat → Bool} {stt : Nat → Option Nat} (i1 : IS np ne ns gr nw sp sq sec it ans stt) (i2 : ordB (bfT sec) ns it) (k : Nat) (u : TkS) (h1 : ∀ i, i < 20 → u.2.2.2.1 i < 2 ^ 63) (h2 : ∀ i, i < 20 → u.2.2.2.2.1 i < 2 ^ 63) : (∀ i, i < 20 → (waF gr nw sp sq sec it rt stt ns k u).2.2.2.1 i < 2 ^ 63) ∧ ∀ i, i < 20 → (waF gr nw sp sq sec it rt stt ns k u).2.2.2.2.1 i < 2 ^ 63 := by
  refine ⟨fun i hi => ?_, fun i hi => ?_⟩
  · rw [(wa_all i1 i2 u k i).1]
    split
    · have := scA_le (rt := rt) i1 i; omega
    · exact h1 i hi
  · rw [(wa_all i1 i2 u k i).2]
    split
    · have := tiA_le (rt := rt) i1 i; omega
    · exact h2 i hi
theorem rk_bnd {f g : Nat → Nat} {n : Nat} (h1 : ∀ i, g i ≤ 20000000) (h2 : ∀ i, i < 20 → f i < 2 ^ 63) : ∀ i, i < 20 → upG g n f i < 2 ^ 63 := fun i hi => by
  rcases Nat.lt_or_ge i n with q | q
  · rw [upG_lt _ _ _ _ q]; have := h1 i; omega
  · rw [upG_ge _ _ _ _ q]; exact h2 i hi
set_option maxHeartbeats 4000000 in
set_option maxRecDepth 100000 in
theorem case_points (hI : InvW h hm cI cZ cJ wa wm) (x : Int32) (y : Int32) : ∃ (d1 d2 : Nat) (r : Int64) (wa' wm' : va_W), d1 ≤ 6 ∧ d2 ≤ 6 ∧ InvW h hm cI cZ cJ wa' wm' ∧ Ct l G (tyL cI cZ cJ) y_Top_points b_Top_points 3 (some .long) (rmL d1) [.ref (h 0), .int x, .int y] wa (some (.long r)) wa' ∧ Ct l G (tyL cI cZ cJ) y_Model_points b_Model_points 3 (some .long) (rmL d2) [.ref (hm 0), .int x, .int y] wm (some (.long r)) wm' := by
  obtain ⟨wr, se, ga, tw, np, tot, gr, fa, re, ss, sc, ne, stt, sco, tim, cnt, ns, sp, sq, sec, rt, it, ans, tl, un, nw, td, mth, mbd, mtd, mss, msc, mip, mcb, msco, mtim, rfl, rfl, i1, i2, i3, i4, i5, i6, i7, i8, i9, i10, i11, i12⟩ := hI
  obtain ⟨z1, z2, z3, z4, z5, z6, z7, z8, z9, z10, z11, z12, z13⟩ := id i1
  have wb := fun x => wo_bnd (rt := rt) (cnt := cnt) (wr := wr) (se := se) (ga := ga) (sco := sco) (tim := tim) i1 i2 x (wr, se, ga, sco, tim, cnt) i9 i10
  by_cases hb : inB x ne = true ∧ inB y np = true
  · obtain ⟨j, hj, rfl⟩ := inB_of hb.1
    obtain ⟨k, hk, rfl⟩ := inB_of hb.2
    have hc := c_Top_points_ok l G cI cZ cJ h wr se ga tw np tot gr fa re ss sc ne stt sco tim cnt ns sp sq sec rt it ans tl un nw td j k hj hk i1
    rw [wo_ga i1 i2 j (wr, se, ga, sco, tim, cnt) (show k < 20 by omega)] at hc
    cases hd : ctF nw sp sq sec rt stt ns j k with
    | none =>
      rw [hd] at hc
      refine ⟨_, _, _, _, _, ?_, ?_, ?_, hc, m_points_none l G cI cZ cJ hm _ _ _ _ _ _ _ _ _ _ _ _ _ _ _ _ _ _ _ _ _ _  j k hj hk hd (is_id i1)⟩
      · decide
      · decide
      · exact ⟨_, _, _, _, _, _, _, _, _, _, _, _, _, _, _, _, _, _, _, _, _, _, _, _, _, _, _, _, _, _, _, _, _, _, _, _, rfl, rfl, ⟨i1, i2, i3, i4, i5, i6, i7, i8, (wb j).1, (wb j).2, i11, i12⟩⟩
    | some d =>
      rw [hd] at hc
      refine ⟨_, _, _, _, _, ?_, ?_, ?_, hc, m_points_some l G cI cZ cJ hm _ _ _ _ _ _ _ _ _ _ _ _ _ _ _ _ _ _ _ _ _ _  j k d hj hk hd (is_id i1)⟩
      · decide
      · decide
      · exact ⟨_, _, _, _, _, _, _, _, _, _, _, _, _, _, _, _, _, _, _, _, _, _, _, _, _, _, _, _, _, _, _, _, _, _, _, _, rfl, rfl, ⟨i1, i2, i3, i4, i5, i6, i7, i8, (wb j).1, (wb j).2, i11, i12⟩⟩
  · refine ⟨_, _, _, _, _, ?_, ?_, ?_, c_Top_points_bad l G cI cZ cJ h _ _ _ _ _ _ _ _ _ _ _ _ _ _ _ _ _ _ _ _ _ _ _ _ _ _ _  x y hb ⟨z2, z1⟩, m_points_bad l G cI cZ cJ hm _ _ _ _ _ _ _ _ _ _ _ _ _ _ _ _ _ _ _ _ _ _  x y hb ⟨z2, z1⟩⟩
    · decide
    · decide
    · exact ⟨_, _, _, _, _, _, _, _, _, _, _, _, _, _, _, _, _, _, _, _, _, _, _, _, _, _, _, _, _, _, _, _, _, _, _, _, rfl, rfl, ⟨i1, i2, i3, i4, i5, i6, i7, i8, i9, i10, i11, i12⟩⟩

set_option maxHeartbeats 4000000 in
set_option maxRecDepth 100000 in
theorem case_score (hI : InvW h hm cI cZ cJ wa wm) (x : Int32) (w : Int32) : ∃ (d1 d2 : Nat) (r : Int64) (wa' wm' : va_W), d1 ≤ 6 ∧ d2 ≤ 6 ∧ InvW h hm cI cZ cJ wa' wm' ∧ Ct l G (tyL cI cZ cJ) y_Top_score b_Top_score 3 (some .long) (rmL d1) [.ref (h 0), .int x, .int w] wa (some (.long r)) wa' ∧ Ct l G (tyL cI cZ cJ) y_Model_score b_Model_score 5 (some .long) (rmL d2) [.ref (hm 0), .int x, .int w] wm (some (.long r)) wm' := by
  obtain ⟨wr, se, ga, tw, np, tot, gr, fa, re, ss, sc, ne, stt, sco, tim, cnt, ns, sp, sq, sec, rt, it, ans, tl, un, nw, td, mth, mbd, mtd, mss, msc, mip, mcb, msco, mtim, rfl, rfl, i1, i2, i3, i4, i5, i6, i7, i8, i9, i10, i11, i12⟩ := hI
  obtain ⟨z1, z2, z3, z4, z5, z6, z7, z8, z9, z10, z11, z12, z13⟩ := id i1
  have wb := fun x => wo_bnd (rt := rt) (cnt := cnt) (wr := wr) (se := se) (ga := ga) (sco := sco) (tim := tim) i1 i2 x (wr, se, ga, sco, tim, cnt) i9 i10
  have wbA := wa_bnd (rt := rt) i1 i2 ne (wr, se, ga, sco, tim, cnt) i9 i10
  have rb1 := rk_bnd (g := scA gr nw sp sq sec rt stt ns np) (n := ne) (scA_le (rt := rt) i1) i11
  have rb2 := rk_bnd (g := tiA nw sp sq sec rt stt ns np) (n := ne) (tiA_le (rt := rt) i1) i12
  have ag1 : ∀ i, i < ne → (waF gr nw sp sq sec it rt stt ns ne (wr, se, ga, sco, tim, cnt)).2.2.2.1 i = upG (scA gr nw sp sq sec rt stt ns np) ne msco i := fun i hi => by rw [(wa_all i1 i2 (wr, se, ga, sco, tim, cnt) ne i).1, if_pos hi, upG_lt _ _ _ _ hi]
  have ag2 : ∀ i, i < ne → (waF gr nw sp sq sec it rt stt ns ne (wr, se, ga, sco, tim, cnt)).2.2.2.2.1 i = upG (tiA nw sp sq sec rt stt ns np) ne mtim i := fun i hi => by rw [(wa_all i1 i2 (wr, se, ga, sco, tim, cnt) ne i).2, if_pos hi, upG_lt _ _ _ _ hi]
  by_cases hb : inB x ne = true ∧ 0 ≤ w.toInt ∧ w.toInt ≤ 3
  · obtain ⟨j, hj, rfl⟩ := inB_of hb.1
    obtain ⟨k, hk, rfl⟩ := of_rng (x := w) (n := 4) (by omega)
    rcases (show k = 0 ∨ k = 1 ∨ k = 2 ∨ k = 3 by omega) with rfl | rfl | rfl | rfl
    · have hc := c_Top_score_0 l G cI cZ cJ h wr se ga tw np tot gr fa re ss sc ne stt sco tim cnt ns sp sq sec rt it ans tl un nw td j 0 hj rfl i1
      rw [wo_sco i1 i2] at hc
      refine ⟨_, _, _, _, _, ?_, ?_, ?_, hc, m_score_0 l G cI cZ cJ hm _ _ _ _ _ _ _ _ _ _ _ _ _ _ _ _ _ _ _ _ _ _  j 0 hj rfl (is_id i1)⟩
      · decide
      · decide
      · exact ⟨_, _, _, _, _, _, _, _, _, _, _, _, _, _, _, _, _, _, _, _, _, _, _, _, _, _, _, _, _, _, _, _, _, _, _, _, rfl, rfl, ⟨i1, i2, i3, i4, i5, i6, i7, i8, (wb j).1, (wb j).2, i11, i12⟩⟩
    · have hc := c_Top_score_1 l G cI cZ cJ h wr se ga tw np tot gr fa re ss sc ne stt sco tim cnt ns sp sq sec rt it ans tl un nw td j 1 hj rfl i1
      rw [wo_tim i1 i2] at hc
      refine ⟨_, _, _, _, _, ?_, ?_, ?_, hc, m_score_1 l G cI cZ cJ hm _ _ _ _ _ _ _ _ _ _ _ _ _ _ _ _ _ _ _ _ _ _  j 1 hj rfl (is_id i1)⟩
      · decide
      · decide
      · exact ⟨_, _, _, _, _, _, _, _, _, _, _, _, _, _, _, _, _, _, _, _, _, _, _, _, _, _, _, _, _, _, _, _, _, _, _, _, rfl, rfl, ⟨i1, i2, i3, i4, i5, i6, i7, i8, (wb j).1, (wb j).2, i11, i12⟩⟩
    · have hc := c_Top_score_2 l G cI cZ cJ h wr se ga tw np tot gr fa re ss sc ne stt sco tim cnt ns sp sq sec rt it ans tl un nw td j 2 hj rfl i1 (by rw [wo_cnt i1 i2]; have := cntF_le (hsM nw sp sq sec rt stt ns j) np; omega)
      rw [wo_cnt i1 i2] at hc
      refine ⟨_, _, _, _, _, ?_, ?_, ?_, hc, m_score_2 l G cI cZ cJ hm _ _ _ _ _ _ _ _ _ _ _ _ _ _ _ _ _ _ _ _ _ _  j 2 hj rfl (is_id i1)⟩
      · decide
      · decide
      · exact ⟨_, _, _, _, _, _, _, _, _, _, _, _, _, _, _, _, _, _, _, _, _, _, _, _, _, _, _, _, _, _, _, _, _, _, _, _, rfl, rfl, ⟨i1, i2, i3, i4, i5, i6, i7, i8, (wb j).1, (wb j).2, i11, i12⟩⟩
    · have hc := c_Top_score_3 l G cI cZ cJ h wr se ga tw np tot gr fa re ss sc ne stt sco tim cnt ns sp sq sec rt it ans tl un nw td j 3 hj rfl i1 wbA.1 wbA.2
      rw [rank_congr hj ag1 ag2] at hc
      refine ⟨_, _, _, _, _, ?_, ?_, ?_, hc, m_score_3 l G cI cZ cJ hm _ _ _ _ _ _ _ _ _ _ _ _ _ _ _ _ _ _ _ _ _ _  j 3 hj rfl (is_id i1) rb1 rb2⟩
      · decide
      · decide
      · exact ⟨_, _, _, _, _, _, _, _, _, _, _, _, _, _, _, _, _, _, _, _, _, _, _, _, _, _, _, _, _, _, _, _, _, _, _, _, rfl, rfl, ⟨i1, i2, i3, i4, i5, i6, i7, i8, wbA.1, wbA.2, rb1, rb2⟩⟩
  · refine ⟨_, _, _, _, _, ?_, ?_, ?_, c_Top_score_bad l G cI cZ cJ h _ _ _ _ _ _ _ _ _ _ _ _ _ _ _ _ _ _ _ _ _ _ _ _ _ _ _  x w hb z2, m_score_bad l G cI cZ cJ hm _ _ _ _ _ _ _ _ _ _ _ _ _ _ _ _ _ _ _ _ _ _  x w hb z2⟩
    · decide
    · decide
    · exact ⟨_, _, _, _, _, _, _, _, _, _, _, _, _, _, _, _, _, _, _, _, _, _, _, _, _, _, _, _, _, _, _, _, _, _, _, _, rfl, rfl, ⟨i1, i2, i3, i4, i5, i6, i7, i8, i9, i10, i11, i12⟩⟩

set_option maxHeartbeats 4000000 in
set_option maxRecDepth 100000 in
theorem case_place (hI : InvW h hm cI cZ cJ wa wm) (x : Int32) : ∃ (d1 d2 : Nat) (r : Int32) (wa' wm' : va_W), d1 ≤ 6 ∧ d2 ≤ 6 ∧ InvW h hm cI cZ cJ wa' wm' ∧ Ct l G (tyL cI cZ cJ) y_Top_place b_Top_place 2 (some .int) (rmL d1) [.ref (h 0), .int x] wa (some (.int r)) wa' ∧ Ct l G (tyL cI cZ cJ) y_Model_place b_Model_place 5 (some .int) (rmL d2) [.ref (hm 0), .int x] wm (some (.int r)) wm' := by
  obtain ⟨wr, se, ga, tw, np, tot, gr, fa, re, ss, sc, ne, stt, sco, tim, cnt, ns, sp, sq, sec, rt, it, ans, tl, un, nw, td, mth, mbd, mtd, mss, msc, mip, mcb, msco, mtim, rfl, rfl, i1, i2, i3, i4, i5, i6, i7, i8, i9, i10, i11, i12⟩ := hI
  obtain ⟨z1, z2, z3, z4, z5, z6, z7, z8, z9, z10, z11, z12, z13⟩ := id i1
  have wb := wa_bnd (rt := rt) i1 i2 ne (wr, se, ga, sco, tim, cnt) i9 i10
  have rb1 := rk_bnd (g := scA gr nw sp sq sec rt stt ns np) (n := ne) (scA_le (rt := rt) i1) i11
  have rb2 := rk_bnd (g := tiA nw sp sq sec rt stt ns np) (n := ne) (tiA_le (rt := rt) i1) i12
  have ag1 : ∀ i, i < ne → (waF gr nw sp sq sec it rt stt ns ne (wr, se, ga, sco, tim, cnt)).2.2.2.1 i = upG (scA gr nw sp sq sec rt stt ns np) ne msco i := fun i hi => by rw [(wa_all i1 i2 (wr, se, ga, sco, tim, cnt) ne i).1, if_pos hi, upG_lt _ _ _ _ hi]
  have ag2 : ∀ i, i < ne → (waF gr nw sp sq sec it rt stt ns ne (wr, se, ga, sco, tim, cnt)).2.2.2.2.1 i = upG (tiA nw sp sq sec rt stt ns np) ne mtim i := fun i hi => by rw [(wa_all i1 i2 (wr, se, ga, sco, tim, cnt) ne i).2, if_pos hi, upG_lt _ _ _ _ hi]
  have hr := m_place l G cI cZ cJ hm mth np ne ns tl mbd gr stt sp sq sec ans rt nw mtd un mss msc mip mcb msco mtim x (is_id i1) rb1 rb2
  cases hx : inB x ne with
  | false =>
    have e : fstG (fun q => decide ((hmM (upG (scA gr nw sp sq sec rt stt ns np) ne msco) (upG (tiA nw sp sq sec rt stt ns np) ne mtim) ne (decide (nw 4 = 1)) q : Int) = x.toInt)) ne 0 = none := by
      cases hf : fstG (fun q => decide ((hmM (upG (scA gr nw sp sq sec rt stt ns np) ne msco) (upG (tiA nw sp sq sec rt stt ns np) ne mtim) ne (decide (nw 4 = 1)) q : Int) = x.toInt)) ne 0 with
      | none => rfl
      | some z =>
        exfalso
        have g1 := fstG_lt _ _ _ _ hf
        have g2 := fstG_true _ _ _ _ hf
        have g3 := hmM_lt (sco := upG (scA gr nw sp sq sec rt stt ns np) ne msco) (tim := upG (tiA nw sp sq sec rt stt ns np) ne mtim) (t := (decide (nw 4 = 1))) (x := z) (ne := ne) (by omega)
        simp only [decide_eq_true_eq] at g2
        unfold inB at hx
        simp only [decide_eq_false_iff_not] at hx
        omega
    rw [e] at hr
    refine ⟨_, _, _, _, _, ?_, ?_, ?_, c_Top_place_bad l G cI cZ cJ h _ _ _ _ _ _ _ _ _ _ _ _ _ _ _ _ _ _ _ _ _ _ _ _ _ _ _  x hx z2, hr⟩
    · decide
    · decide
    · exact ⟨_, _, _, _, _, _, _, _, _, _, _, _, _, _, _, _, _, _, _, _, _, _, _, _, _, _, _, _, _, _, _, _, _, _, _, _, rfl, rfl, ⟨i1, i2, i3, i4, i5, i6, i7, i8, i9, i10, rb1, rb2⟩⟩
  | true =>
    obtain ⟨j, hj, rfl⟩ := inB_of hx
    have hc := c_Top_place_ok l G cI cZ cJ h wr se ga tw np tot gr fa re ss sc ne stt sco tim cnt ns sp sq sec rt it ans tl un nw td j hj i1 wb.1 wb.2
    have e : fstG (fun q => decide (hmb (waF gr nw sp sq sec it rt stt ns ne (wr, se, ga, sco, tim, cnt)).2.2.2.1 (waF gr nw sp sq sec it rt stt ns ne (wr, se, ga, sco, tim, cnt)).2.2.2.2.1 ne (decide (nw 4 = 1)) q = j)) ne 0 = fstG (fun q => decide ((hmM (upG (scA gr nw sp sq sec rt stt ns np) ne msco) (upG (tiA nw sp sq sec rt stt ns np) ne mtim) ne (decide (nw 4 = 1)) q : Int) = (nI j).toInt)) ne 0 := fstG_congr ne 0 (fun q _ hq => by
      rw [hm_eq (by omega), hmb_congr (by omega) ag1 ag2, i_T (by omega)]
      apply decide_eq_decide.mpr
      omega)
    rw [e] at hc
    refine ⟨_, _, _, _, _, ?_, ?_, ?_, hc, hr⟩
    · decide
    · decide
    · exact ⟨_, _, _, _, _, _, _, _, _, _, _, _, _, _, _, _, _, _, _, _, _, _, _, _, _, _, _, _, _, _, _, _, _, _, _, _, rfl, rfl, ⟨i1, i2, i3, i4, i5, i6, i7, i8, wb.1, wb.2, rb1, rb2⟩⟩

set_option maxHeartbeats 4000000 in
set_option maxRecDepth 100000 in
theorem case_shared (hI : InvW h hm cI cZ cJ wa wm) (x : Int32) (y : Int32) : ∃ (d1 d2 : Nat) (r : Bool) (wa' wm' : va_W), d1 ≤ 6 ∧ d2 ≤ 6 ∧ InvW h hm cI cZ cJ wa' wm' ∧ Ct l G (tyL cI cZ cJ) y_Top_shared b_Top_shared 3 (some .boolean) (rmL d1) [.ref (h 0), .int x, .int y] wa (some (.int (bI r))) wa' ∧ Ct l G (tyL cI cZ cJ) y_Model_shared b_Model_shared 3 (some .boolean) (rmL d2) [.ref (hm 0), .int x, .int y] wm (some (.int (bI r))) wm' := by
  obtain ⟨wr, se, ga, tw, np, tot, gr, fa, re, ss, sc, ne, stt, sco, tim, cnt, ns, sp, sq, sec, rt, it, ans, tl, un, nw, td, mth, mbd, mtd, mss, msc, mip, mcb, msco, mtim, rfl, rfl, i1, i2, i3, i4, i5, i6, i7, i8, i9, i10, i11, i12⟩ := hI
  obtain ⟨z1, z2, z3, z4, z5, z6, z7, z8, z9, z10, z11, z12, z13⟩ := id i1
  have wb := fun x => wo_bnd (rt := rt) (cnt := cnt) (wr := wr) (se := se) (ga := ga) (sco := sco) (tim := tim) i1 i2 x (wr, se, ga, sco, tim, cnt) i9 i10
  have rb1 := rk_bnd (g := scA gr nw sp sq sec rt stt ns np) (n := ne) (scA_le (rt := rt) i1) i11
  have rb2 := rk_bnd (g := tiA nw sp sq sec rt stt ns np) (n := ne) (tiA_le (rt := rt) i1) i12
  by_cases hb : inB x ne = true ∧ inB y ne = true
  · obtain ⟨j, hj, rfl⟩ := inB_of hb.1
    obtain ⟨k, hk, rfl⟩ := inB_of hb.2
    have wb2 := wo_bnd (rt := rt) (cnt := cnt) (wr := wr) (se := se) (ga := ga) (sco := sco) (tim := tim) i1 i2 k (woF gr nw sp sq sec it rt stt ns j (wr, se, ga, sco, tim, cnt)) (wb j).1 (wb j).2
    have hc := c_Top_shared_ok l G cI cZ cJ h wr se ga tw np tot gr fa re ss sc ne stt sco tim cnt ns sp sq sec rt it ans tl un nw td j k hj hk i1 wb2.1 wb2.2
    have e1 : (woF gr nw sp sq sec it rt stt ns k (woF gr nw sp sq sec it rt stt ns j (wr, se, ga, sco, tim, cnt))).2.2.2.1 j = upG (scA gr nw sp sq sec rt stt ns np) ne msco j := by
      rw [upG_lt _ _ _ _ hj]
      by_cases q : j = k
      · rw [q, wo_sco i1 i2]
      · rw [(wo_other q _).1, wo_sco i1 i2]
    have e2 : (woF gr nw sp sq sec it rt stt ns k (woF gr nw sp sq sec it rt stt ns j (wr, se, ga, sco, tim, cnt))).2.2.2.2.1 j = upG (tiA nw sp sq sec rt stt ns np) ne mtim j := by
      rw [upG_lt _ _ _ _ hj]
      by_cases q : j = k
      · rw [q, wo_tim i1 i2]
      · rw [(wo_other q _).2, wo_tim i1 i2]
    have e3 : (woF gr nw sp sq sec it rt stt ns k (woF gr nw sp sq sec it rt stt ns j (wr, se, ga, sco, tim, cnt))).2.2.2.1 k = upG (scA gr nw sp sq sec rt stt ns np) ne msco k := by rw [upG_lt _ _ _ _ hk, wo_sco i1 i2]
    have e4 : (woF gr nw sp sq sec it rt stt ns k (woF gr nw sp sq sec it rt stt ns j (wr, se, ga, sco, tim, cnt))).2.2.2.2.1 k = upG (tiA nw sp sq sec rt stt ns np) ne mtim k := by rw [upG_lt _ _ _ _ hk, wo_tim i1 i2]
    rw [alk_congr e1 e3 e2 e4] at hc
    refine ⟨_, _, _, _, _, ?_, ?_, ?_, hc, m_shared_ok l G cI cZ cJ hm _ _ _ _ _ _ _ _ _ _ _ _ _ _ _ _ _ _ _ _ _ _  j k hj hk (is_id i1) rb1 rb2⟩
    · decide
    · decide
    · exact ⟨_, _, _, _, _, _, _, _, _, _, _, _, _, _, _, _, _, _, _, _, _, _, _, _, _, _, _, _, _, _, _, _, _, _, _, _, rfl, rfl, ⟨i1, i2, i3, i4, i5, i6, i7, i8, wb2.1, wb2.2, rb1, rb2⟩⟩
  · refine ⟨_, _, _, _, _, ?_, ?_, ?_, c_Top_shared_bad l G cI cZ cJ h _ _ _ _ _ _ _ _ _ _ _ _ _ _ _ _ _ _ _ _ _ _ _ _ _ _ _  x y hb z2, m_shared_bad l G cI cZ cJ hm _ _ _ _ _ _ _ _ _ _ _ _ _ _ _ _ _ _ _ _ _ _  x y hb (is_id i1)⟩
    · decide
    · decide
    · exact ⟨_, _, _, _, _, _, _, _, _, _, _, _, _, _, _, _, _, _, _, _, _, _, _, _, _, _, _, _, _, _, _, _, _, _, _, _, rfl, rfl, ⟨i1, i2, i3, i4, i5, i6, i7, i8, i9, i10, rb1, rb2⟩⟩

set_option maxHeartbeats 4000000 in
set_option maxRecDepth 100000 in
theorem case_suspicious (hI : InvW h hm cI cZ cJ wa wm) (k : Int32) (w : Int32) : ∃ (d1 d2 : Nat) (r : Int32) (wa' wm' : va_W), d1 ≤ 6 ∧ d2 ≤ 6 ∧ InvW h hm cI cZ cJ wa' wm' ∧ Ct l G (tyL cI cZ cJ) y_Top_suspicious b_Top_suspicious 6 (some .int) (rmL d1) [.ref (h 0), .int k, .int w] wa (some (.int r)) wa' ∧ Ct l G (tyL cI cZ cJ) y_Model_suspicious b_Model_suspicious 8 (some .int) (rmL d2) [.ref (hm 0), .int k, .int w] wm (some (.int r)) wm' := by
  obtain ⟨wr, se, ga, tw, np, tot, gr, fa, re, ss, sc, ne, stt, sco, tim, cnt, ns, sp, sq, sec, rt, it, ans, tl, un, nw, td, mth, mbd, mtd, mss, msc, mip, mcb, msco, mtim, rfl, rfl, i1, i2, i3, i4, i5, i6, i7, i8, i9, i10, i11, i12⟩ := hI
  obtain ⟨z1, z2, z3, z4, z5, z6, z7, z8, z9, z10, z11, z12, z13⟩ := id i1
  by_cases hb : 0 ≤ k.toInt ∧ 0 ≤ w.toInt ∧ w.toInt ≤ 3
  · obtain ⟨j, hj, rfl⟩ : ∃ v : Nat, v < 2 ^ 31 ∧ k = nI v := nI_of (fun q => by have := i_lt.mp q; rw [i_T0] at this; omega)
    obtain ⟨v, hv, rfl⟩ := of_rng (x := w) (n := 4) (by omega)
    have hc := c_Top_suspicious_ok l G cI cZ cJ h wr se ga tw np tot gr fa re ss sc ne stt sco tim cnt ns sp sq sec rt it ans tl un nw td j v hj (by omega) i1
    rw [su_eq j v z2 tw] at hc
    refine ⟨_, _, _, _, _, ?_, ?_, ?_, hc, m_suspicious_ok l G cI cZ cJ hm _ _ _ _ _ _ _ _ _ _ _ _ _ _ _ _ _ _ _ _ _ _  j v hj (by omega) (is_id i1)⟩
    · decide
    · decide
    · exact ⟨_, _, _, _, _, _, _, _, _, _, _, _, _, _, _, _, _, _, _, _, _, _, _, _, _, _, _, _, _, _, _, _, _, _, _, _, rfl, rfl, ⟨i1, i2, i3, i4, i5, i6, i7, i8, i9, i10, i11, i12⟩⟩
  · refine ⟨_, _, _, _, _, ?_, ?_, ?_, c_Top_suspicious_bad l G cI cZ cJ h _ _ _ _ _ _ _ _ _ _ _ _ _ _ _ _ _ _ _ _ _ _ _ _ _ _ _  k w hb, m_suspicious_bad l G cI cZ cJ hm _ _ _ _ _ _ _ _ _ _ _ _ _ _ _ _ _ _ _ _ _ _  k w hb (is_id i1)⟩
    · decide
    · decide
    · exact ⟨_, _, _, _, _, _, _, _, _, _, _, _, _, _, _, _, _, _, _, _, _, _, _, _, _, _, _, _, _, _, _, _, _, _, _, _, rfl, rfl, ⟨i1, i2, i3, i4, i5, i6, i7, i8, i9, i10, i11, i12⟩⟩

set_option maxHeartbeats 4000000 in
set_option maxRecDepth 100000 in
theorem case_even (hI : InvW h hm cI cZ cJ wa wm) (k : Int32) (q : Int32) : ∃ (d1 d2 : Nat) (r : Int32) (wa' wm' : va_W), d1 ≤ 6 ∧ d2 ≤ 6 ∧ InvW h hm cI cZ cJ wa' wm' ∧ Ct l G (tyL cI cZ cJ) y_Top_even b_Top_even 3 (some .int) (rmL d1) [.ref (h 0), .int k, .int q] wa (some (.int r)) wa' ∧ Ct l G (tyL cI cZ cJ) y_Model_even b_Model_even 6 (some .int) (rmL d2) [.ref (hm 0), .int k, .int q] wm (some (.int r)) wm' := by
  obtain ⟨wr, se, ga, tw, np, tot, gr, fa, re, ss, sc, ne, stt, sco, tim, cnt, ns, sp, sq, sec, rt, it, ans, tl, un, nw, td, mth, mbd, mtd, mss, msc, mip, mcb, msco, mtim, rfl, rfl, i1, i2, i3, i4, i5, i6, i7, i8, i9, i10, i11, i12⟩ := hI
  obtain ⟨z1, z2, z3, z4, z5, z6, z7, z8, z9, z10, z11, z12, z13⟩ := id i1
  by_cases hb : 1 ≤ k.toInt ∧ k.toInt ≤ 6 ∧ inB q np = true
  · obtain ⟨j, hj, rfl⟩ := of_rng (x := k) (n := 7) (by omega)
    obtain ⟨v, hv, rfl⟩ := inB_of hb.2.2
    rw [i_T (by omega)] at hb
    have hc := c_Top_even_ok l G cI cZ cJ h wr se ga tw np tot gr fa re ss sc ne stt sco tim cnt ns sp sq sec rt it ans tl un nw td j v (by omega) hv z1 (fun i hi => by have := i3.1 i hi; omega) z4
    rw [ev_eq (ss' := mss) (sc' := msc) (ip := mip) (show 1 ≤ j ∧ j ≤ 6 by omega) hv z1 i3] at hc
    refine ⟨_, _, _, _, _, ?_, ?_, ?_, hc, m_even_ok l G cI cZ cJ hm _ _ _ _ _ _ _ _ _ _ _ _ _ _ _ _ _ _ _ _ _ _  j v (by omega) hv z1 z4⟩
    · decide
    · decide
    · exact ⟨_, _, _, _, _, _, _, _, _, _, _, _, _, _, _, _, _, _, _, _, _, _, _, _, _, _, _, _, _, _, _, _, _, _, _, _, rfl, rfl, ⟨i1, i2, i3, i4, i5, i6, i7, i8, i9, i10, i11, i12⟩⟩
  · refine ⟨_, _, _, _, _, ?_, ?_, ?_, c_Top_even_bad l G cI cZ cJ h _ _ _ _ _ _ _ _ _ _ _ _ _ _ _ _ _ _ _ _ _ _ _ _ _ _ _  k q hb z1, m_even_bad l G cI cZ cJ hm _ _ _ _ _ _ _ _ _ _ _ _ _ _ _ _ _ _ _ _ _ _  k q hb z1⟩
    · decide
    · decide
    · exact ⟨_, _, _, _, _, _, _, _, _, _, _, _, _, _, _, _, _, _, _, _, _, _, _, _, _, _, _, _, _, _, _, _, _, _, _, _, rfl, rfl, ⟨i1, i2, i3, i4, i5, i6, i7, i8, i9, i10, i11, i12⟩⟩

set_option maxHeartbeats 4000000 in
set_option maxRecDepth 100000 in
theorem case_apart (hI : InvW h hm cI cZ cJ wa wm)  : ∃ (d1 d2 : Nat) (r : Int32) (wa' wm' : va_W), d1 ≤ 6 ∧ d2 ≤ 6 ∧ InvW h hm cI cZ cJ wa' wm' ∧ Ct l G (tyL cI cZ cJ) y_Top_apart b_Top_apart 1 (some .int) (rmL d1) [.ref (h 0)] wa (some (.int r)) wa' ∧ Ct l G (tyL cI cZ cJ) y_Model_apart b_Model_apart 4 (some .int) (rmL d2) [.ref (hm 0)] wm (some (.int r)) wm' := by
  obtain ⟨wr, se, ga, tw, np, tot, gr, fa, re, ss, sc, ne, stt, sco, tim, cnt, ns, sp, sq, sec, rt, it, ans, tl, un, nw, td, mth, mbd, mtd, mss, msc, mip, mcb, msco, mtim, rfl, rfl, i1, i2, i3, i4, i5, i6, i7, i8, i9, i10, i11, i12⟩ := hI
  obtain ⟨z1, z2, z3, z4, z5, z6, z7, z8, z9, z10, z11, z12, z13⟩ := id i1
  have hs9 := sumF_le gr 100 np (fun i hi => z4 i (by omega))
  by_cases hn : np = 0
  · refine ⟨_, _, _, _, _, ?_, ?_, ?_, c_Top_apart_none l G cI cZ cJ h _ _ _ _ _ _ _ _ _ _ _ _ _ _ _ _ _ _ _ _ _ _ _ _ _ _ _  hn, m_apart_none l G cI cZ cJ hm _ _ _ _ _ _ _ _ _ _ _ _ _ _ _ _ _ _ _ _ _ _  hn⟩
    · decide
    · decide
    · exact ⟨_, _, _, _, _, _, _, _, _, _, _, _, _, _, _, _, _, _, _, _, _, _, _, _, _, _, _, _, _, _, _, _, _, _, _, _, rfl, rfl, ⟨i1, i2, i3, i4, i5, i6, i7, i8, i9, i10, i11, i12⟩⟩
  · have hgr : ∀ i, i < np → 1 ≤ gr i ∧ gr i ≤ 100 := fun i hi => ⟨i6 i hi, z4 i (by omega)⟩
    have hc := c_Top_apart_some l G cI cZ cJ h wr se ga tw np tot gr fa re ss sc ne stt sco tim cnt ns sp sq sec rt it ans tl un nw td ⟨by omega, z1⟩ (by omega)
    subst i5
    rw [ap_eq (mcb := mcb) i4 (by omega) z1 hgr] at hc
    refine ⟨_, _, _, _, _, ?_, ?_, ?_, hc, m_apart_some l G cI cZ cJ hm _ _ _ _ _ _ _ _ _ _ _ _ _ _ _ _ _ _ _ _ _ _  ⟨by omega, z1⟩ hgr⟩
    · decide
    · decide
    · exact ⟨_, _, _, _, _, _, _, _, _, _, _, _, _, _, _, _, _, _, _, _, _, _, _, _, _, _, _, _, _, _, _, _, _, _, _, _, rfl, rfl, ⟨i1, i2, i3, i4, rfl, i6, i7, i8, i9, i10, i11, i12⟩⟩

end CASES
