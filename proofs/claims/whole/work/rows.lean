section
-- ===== PART A: goes FIRST, ahead of the names: the tables' words, and 'selects' of the private methods out of them =====
/-- a private method of a class that the tables say can be made, by its rows of tables_1 -/
def lw_okq (q : MethodName × Nat) : Prop := (q.1.cls ≠ "java/lang/invoke/MethodHandle" ∧ q.1.cls ≠ "java/lang/invoke/VarHandle") ∧ Cond.instantiable q.1.cls q.2 ∈ tables_1 ∧ Cond.privateMethod q.1 ∈ tables_1 ∧ Cond.instanceMethod q.1 ∈ tables_1
theorem lw_p0 : lw_okq (⟨"ContestRows$Puzzles", "putFalling", "(I)V"⟩, 7) := ⟨⟨by decide +kernel, by decide +kernel⟩, List.mem_of_getElem? (i := 24) (by decide +kernel), List.mem_of_getElem? (i := 179) (by decide +kernel), List.mem_of_getElem? (i := 180) (by decide +kernel)⟩
theorem lw_p1 : lw_okq (⟨"ContestRows$Puzzles", "reachWith", "(I)V"⟩, 7) := ⟨⟨by decide +kernel, by decide +kernel⟩, List.mem_of_getElem? (i := 24) (by decide +kernel), List.mem_of_getElem? (i := 183) (by decide +kernel), List.mem_of_getElem? (i := 184) (by decide +kernel)⟩
theorem lw_p2 : lw_okq (⟨"ContestRows$RuleText", "endOfDigits", "(I)I"⟩, 2) := ⟨⟨by decide +kernel, by decide +kernel⟩, List.mem_of_getElem? (i := 117) (by decide +kernel), List.mem_of_getElem? (i := 308) (by decide +kernel), List.mem_of_getElem? (i := 309) (by decide +kernel)⟩
theorem lw_p3 : lw_okq (⟨"ContestRows$RuleText", "number", "(II)I"⟩, 2) := ⟨⟨by decide +kernel, by decide +kernel⟩, List.mem_of_getElem? (i := 117) (by decide +kernel), List.mem_of_getElem? (i := 312) (by decide +kernel), List.mem_of_getElem? (i := 313) (by decide +kernel)⟩
theorem lw_p4 : lw_okq (⟨"ContestRows$Submissions", "putInTime", "(I)V"⟩, 7) := ⟨⟨by decide +kernel, by decide +kernel⟩, List.mem_of_getElem? (i := 83) (by decide +kernel), List.mem_of_getElem? (i := 354) (by decide +kernel), List.mem_of_getElem? (i := 355) (by decide +kernel)⟩
theorem lw_p5 : lw_okq (⟨"ContestRows", "secondsFromStart", "(I)I"⟩, 9) := ⟨⟨by decide +kernel, by decide +kernel⟩, List.mem_of_getElem? (i := 16) (by decide +kernel), List.mem_of_getElem? (i := 370) (by decide +kernel), List.mem_of_getElem? (i := 371) (by decide +kernel)⟩
theorem lw_p6 : lw_okq (⟨"ContestRows", "workOutAll", "()V"⟩, 9) := ⟨⟨by decide +kernel, by decide +kernel⟩, List.mem_of_getElem? (i := 16) (by decide +kernel), List.mem_of_getElem? (i := 383) (by decide +kernel), List.mem_of_getElem? (i := 384) (by decide +kernel)⟩
theorem lw_p7 : lw_okq (⟨"ContestRows", "workOut", "(I)V"⟩, 9) := ⟨⟨by decide +kernel, by decide +kernel⟩, List.mem_of_getElem? (i := 16) (by decide +kernel), List.mem_of_getElem? (i := 387) (by decide +kernel), List.mem_of_getElem? (i := 388) (by decide +kernel)⟩
theorem lw_p8 : lw_okq (⟨"ContestRows", "take", "(II)V"⟩, 9) := ⟨⟨by decide +kernel, by decide +kernel⟩, List.mem_of_getElem? (i := 16) (by decide +kernel), List.mem_of_getElem? (i := 395) (by decide +kernel), List.mem_of_getElem? (i := 396) (by decide +kernel)⟩
theorem lw_p9 : lw_okq (⟨"ContestRows$Persons", "isAhead", "(IIZ)Z"⟩, 5) := ⟨⟨by decide +kernel, by decide +kernel⟩, List.mem_of_getElem? (i := 55) (by decide +kernel), List.mem_of_getElem? (i := 418) (by decide +kernel), List.mem_of_getElem? (i := 419) (by decide +kernel)⟩
theorem lw_p10 : lw_okq (⟨"ContestRows$Persons", "howManyBefore", "(IZ)I"⟩, 5) := ⟨⟨by decide +kernel, by decide +kernel⟩, List.mem_of_getElem? (i := 55) (by decide +kernel), List.mem_of_getElem? (i := 434) (by decide +kernel), List.mem_of_getElem? (i := 435) (by decide +kernel)⟩
theorem lw_p11 : lw_okq (⟨"ContestRows$Submissions", "isTwin", "(II)Z"⟩, 7) := ⟨⟨by decide +kernel, by decide +kernel⟩, List.mem_of_getElem? (i := 83) (by decide +kernel), List.mem_of_getElem? (i := 456) (by decide +kernel), List.mem_of_getElem? (i := 457) (by decide +kernel)⟩
theorem lw_p12 : lw_okq (⟨"ContestRows$Puzzles", "leastSet", "(I)I"⟩, 7) := ⟨⟨by decide +kernel, by decide +kernel⟩, List.mem_of_getElem? (i := 24) (by decide +kernel), List.mem_of_getElem? (i := 480) (by decide +kernel), List.mem_of_getElem? (i := 481) (by decide +kernel)⟩
theorem lw_p13 : lw_okq (⟨"ContestRowsModel", "readRule", "(I)I"⟩, 22) := ⟨⟨by decide +kernel, by decide +kernel⟩, List.mem_of_getElem? (i := 492) (by decide +kernel), List.mem_of_getElem? (i := 581) (by decide +kernel), List.mem_of_getElem? (i := 582) (by decide +kernel)⟩
theorem lw_p14 : lw_okq (⟨"ContestRowsModel", "byteAt", "(I)I"⟩, 22) := ⟨⟨by decide +kernel, by decide +kernel⟩, List.mem_of_getElem? (i := 492) (by decide +kernel), List.mem_of_getElem? (i := 585) (by decide +kernel), List.mem_of_getElem? (i := 586) (by decide +kernel)⟩
theorem lw_p15 : lw_okq (⟨"ContestRowsModel", "isDigit", "(I)Z"⟩, 22) := ⟨⟨by decide +kernel, by decide +kernel⟩, List.mem_of_getElem? (i := 492) (by decide +kernel), List.mem_of_getElem? (i := 592) (by decide +kernel), List.mem_of_getElem? (i := 593) (by decide +kernel)⟩
def lw_privs_1 : List (MethodName × Nat) := [(⟨"ContestRows$Puzzles", "putFalling", "(I)V"⟩, 7), (⟨"ContestRows$Puzzles", "reachWith", "(I)V"⟩, 7), (⟨"ContestRows$RuleText", "endOfDigits", "(I)I"⟩, 2), (⟨"ContestRows$RuleText", "number", "(II)I"⟩, 2), (⟨"ContestRows$Submissions", "putInTime", "(I)V"⟩, 7), (⟨"ContestRows", "secondsFromStart", "(I)I"⟩, 9), (⟨"ContestRows", "workOutAll", "()V"⟩, 9), (⟨"ContestRows", "workOut", "(I)V"⟩, 9), (⟨"ContestRows", "take", "(II)V"⟩, 9), (⟨"ContestRows$Persons", "isAhead", "(IIZ)Z"⟩, 5), (⟨"ContestRows$Persons", "howManyBefore", "(IZ)I"⟩, 5), (⟨"ContestRows$Submissions", "isTwin", "(II)Z"⟩, 7), (⟨"ContestRows$Puzzles", "leastSet", "(I)I"⟩, 7), (⟨"ContestRowsModel", "readRule", "(I)I"⟩, 22), (⟨"ContestRowsModel", "byteAt", "(I)I"⟩, 22), (⟨"ContestRowsModel", "isDigit", "(I)Z"⟩, 22)]
theorem lw_r1 : ∀ q ∈ lw_privs_1, lw_okq q := List.forall_mem_cons.mpr ⟨lw_p0, List.forall_mem_cons.mpr ⟨lw_p1, List.forall_mem_cons.mpr ⟨lw_p2, List.forall_mem_cons.mpr ⟨lw_p3, List.forall_mem_cons.mpr ⟨lw_p4, List.forall_mem_cons.mpr ⟨lw_p5, List.forall_mem_cons.mpr ⟨lw_p6, List.forall_mem_cons.mpr ⟨lw_p7, List.forall_mem_cons.mpr ⟨lw_p8, List.forall_mem_cons.mpr ⟨lw_p9, List.forall_mem_cons.mpr ⟨lw_p10, List.forall_mem_cons.mpr ⟨lw_p11, List.forall_mem_cons.mpr ⟨lw_p12, List.forall_mem_cons.mpr ⟨lw_p13, List.forall_mem_cons.mpr ⟨lw_p14, List.forall_mem_cons.mpr ⟨lw_p15, fun _ h => absurd h List.not_mem_nil⟩⟩⟩⟩⟩⟩⟩⟩⟩⟩⟩⟩⟩⟩⟩⟩
theorem lw_p16 : lw_okq (⟨"ContestRowsModel", "isPerson", "(I)Z"⟩, 22) := ⟨⟨by decide +kernel, by decide +kernel⟩, List.mem_of_getElem? (i := 492) (by decide +kernel), List.mem_of_getElem? (i := 600) (by decide +kernel), List.mem_of_getElem? (i := 601) (by decide +kernel)⟩
theorem lw_p17 : lw_okq (⟨"ContestRowsModel", "isPuzzle", "(I)Z"⟩, 22) := ⟨⟨by decide +kernel, by decide +kernel⟩, List.mem_of_getElem? (i := 492) (by decide +kernel), List.mem_of_getElem? (i := 609) (by decide +kernel), List.mem_of_getElem? (i := 610) (by decide +kernel)⟩
theorem lw_p18 : lw_okq (⟨"ContestRowsModel", "isRow", "(I)Z"⟩, 22) := ⟨⟨by decide +kernel, by decide +kernel⟩, List.mem_of_getElem? (i := 492) (by decide +kernel), List.mem_of_getElem? (i := 617) (by decide +kernel), List.mem_of_getElem? (i := 618) (by decide +kernel)⟩
theorem lw_p19 : lw_okq (⟨"ContestRowsModel", "isLate", "(I)Z"⟩, 22) := ⟨⟨by decide +kernel, by decide +kernel⟩, List.mem_of_getElem? (i := 492) (by decide +kernel), List.mem_of_getElem? (i := 625) (by decide +kernel), List.mem_of_getElem? (i := 626) (by decide +kernel)⟩
theorem lw_p20 : lw_okq (⟨"ContestRowsModel", "secondsOf", "(I)I"⟩, 22) := ⟨⟨by decide +kernel, by decide +kernel⟩, List.mem_of_getElem? (i := 492) (by decide +kernel), List.mem_of_getElem? (i := 629) (by decide +kernel), List.mem_of_getElem? (i := 630) (by decide +kernel)⟩
theorem lw_p21 : lw_okq (⟨"ContestRowsModel", "scoreOf", "(I)J"⟩, 22) := ⟨⟨by decide +kernel, by decide +kernel⟩, List.mem_of_getElem? (i := 492) (by decide +kernel), List.mem_of_getElem? (i := 638) (by decide +kernel), List.mem_of_getElem? (i := 639) (by decide +kernel)⟩
theorem lw_p22 : lw_okq (⟨"ContestRowsModel", "counting", "(II)I"⟩, 22) := ⟨⟨by decide +kernel, by decide +kernel⟩, List.mem_of_getElem? (i := 492) (by decide +kernel), List.mem_of_getElem? (i := 642) (by decide +kernel), List.mem_of_getElem? (i := 643) (by decide +kernel)⟩
theorem lw_p23 : lw_okq (⟨"ContestRowsModel", "isOf", "(III)Z"⟩, 22) := ⟨⟨by decide +kernel, by decide +kernel⟩, List.mem_of_getElem? (i := 492) (by decide +kernel), List.mem_of_getElem? (i := 646) (by decide +kernel), List.mem_of_getElem? (i := 647) (by decide +kernel)⟩
theorem lw_p24 : lw_okq (⟨"ContestRowsModel", "isAhead", "(II)Z"⟩, 22) := ⟨⟨by decide +kernel, by decide +kernel⟩, List.mem_of_getElem? (i := 492) (by decide +kernel), List.mem_of_getElem? (i := 650) (by decide +kernel), List.mem_of_getElem? (i := 651) (by decide +kernel)⟩
theorem lw_p25 : lw_okq (⟨"ContestRowsModel", "pointsOf", "(II)J"⟩, 22) := ⟨⟨by decide +kernel, by decide +kernel⟩, List.mem_of_getElem? (i := 492) (by decide +kernel), List.mem_of_getElem? (i := 654) (by decide +kernel), List.mem_of_getElem? (i := 655) (by decide +kernel)⟩
theorem lw_p26 : lw_okq (⟨"ContestRowsModel", "timeOf", "(I)J"⟩, 22) := ⟨⟨by decide +kernel, by decide +kernel⟩, List.mem_of_getElem? (i := 492) (by decide +kernel), List.mem_of_getElem? (i := 658) (by decide +kernel), List.mem_of_getElem? (i := 659) (by decide +kernel)⟩
theorem lw_p27 : lw_okq (⟨"ContestRowsModel", "reckon", "()V"⟩, 22) := ⟨⟨by decide +kernel, by decide +kernel⟩, List.mem_of_getElem? (i := 492) (by decide +kernel), List.mem_of_getElem? (i := 662) (by decide +kernel), List.mem_of_getElem? (i := 663) (by decide +kernel)⟩
theorem lw_p28 : lw_okq (⟨"ContestRowsModel", "isBetter", "(II)Z"⟩, 22) := ⟨⟨by decide +kernel, by decide +kernel⟩, List.mem_of_getElem? (i := 492) (by decide +kernel), List.mem_of_getElem? (i := 666) (by decide +kernel), List.mem_of_getElem? (i := 667) (by decide +kernel)⟩
theorem lw_p29 : lw_okq (⟨"ContestRowsModel", "isAlike", "(II)Z"⟩, 22) := ⟨⟨by decide +kernel, by decide +kernel⟩, List.mem_of_getElem? (i := 492) (by decide +kernel), List.mem_of_getElem? (i := 678) (by decide +kernel), List.mem_of_getElem? (i := 679) (by decide +kernel)⟩
theorem lw_p30 : lw_okq (⟨"ContestRowsModel", "firstWrong", "(III)I"⟩, 22) := ⟨⟨by decide +kernel, by decide +kernel⟩, List.mem_of_getElem? (i := 492) (by decide +kernel), List.mem_of_getElem? (i := 690) (by decide +kernel), List.mem_of_getElem? (i := 691) (by decide +kernel)⟩
theorem lw_p31 : lw_okq (⟨"ContestRowsModel", "tellPair", "(IIII)I"⟩, 22) := ⟨⟨by decide +kernel, by decide +kernel⟩, List.mem_of_getElem? (i := 492) (by decide +kernel), List.mem_of_getElem? (i := 694) (by decide +kernel), List.mem_of_getElem? (i := 695) (by decide +kernel)⟩
def lw_privs_2 : List (MethodName × Nat) := [(⟨"ContestRowsModel", "isPerson", "(I)Z"⟩, 22), (⟨"ContestRowsModel", "isPuzzle", "(I)Z"⟩, 22), (⟨"ContestRowsModel", "isRow", "(I)Z"⟩, 22), (⟨"ContestRowsModel", "isLate", "(I)Z"⟩, 22), (⟨"ContestRowsModel", "secondsOf", "(I)I"⟩, 22), (⟨"ContestRowsModel", "scoreOf", "(I)J"⟩, 22), (⟨"ContestRowsModel", "counting", "(II)I"⟩, 22), (⟨"ContestRowsModel", "isOf", "(III)Z"⟩, 22), (⟨"ContestRowsModel", "isAhead", "(II)Z"⟩, 22), (⟨"ContestRowsModel", "pointsOf", "(II)J"⟩, 22), (⟨"ContestRowsModel", "timeOf", "(I)J"⟩, 22), (⟨"ContestRowsModel", "reckon", "()V"⟩, 22), (⟨"ContestRowsModel", "isBetter", "(II)Z"⟩, 22), (⟨"ContestRowsModel", "isAlike", "(II)Z"⟩, 22), (⟨"ContestRowsModel", "firstWrong", "(III)I"⟩, 22), (⟨"ContestRowsModel", "tellPair", "(IIII)I"⟩, 22)]
theorem lw_r2 : ∀ q ∈ lw_privs_2, lw_okq q := List.forall_mem_cons.mpr ⟨lw_p16, List.forall_mem_cons.mpr ⟨lw_p17, List.forall_mem_cons.mpr ⟨lw_p18, List.forall_mem_cons.mpr ⟨lw_p19, List.forall_mem_cons.mpr ⟨lw_p20, List.forall_mem_cons.mpr ⟨lw_p21, List.forall_mem_cons.mpr ⟨lw_p22, List.forall_mem_cons.mpr ⟨lw_p23, List.forall_mem_cons.mpr ⟨lw_p24, List.forall_mem_cons.mpr ⟨lw_p25, List.forall_mem_cons.mpr ⟨lw_p26, List.forall_mem_cons.mpr ⟨lw_p27, List.forall_mem_cons.mpr ⟨lw_p28, List.forall_mem_cons.mpr ⟨lw_p29, List.forall_mem_cons.mpr ⟨lw_p30, List.forall_mem_cons.mpr ⟨lw_p31, fun _ h => absurd h List.not_mem_nil⟩⟩⟩⟩⟩⟩⟩⟩⟩⟩⟩⟩⟩⟩⟩⟩
theorem lw_p32 : lw_okq (⟨"ContestRowsModel", "next", "()I"⟩, 22) := ⟨⟨by decide +kernel, by decide +kernel⟩, List.mem_of_getElem? (i := 492) (by decide +kernel), List.mem_of_getElem? (i := 702) (by decide +kernel), List.mem_of_getElem? (i := 703) (by decide +kernel)⟩
def lw_privs_3 : List (MethodName × Nat) := [(⟨"ContestRowsModel", "next", "()I"⟩, 22)]
theorem lw_r3 : ∀ q ∈ lw_privs_3, lw_okq q := List.forall_mem_cons.mpr ⟨lw_p32, fun _ h => absurd h List.not_mem_nil⟩
def lw_privs : List (MethodName × Nat) := lw_privs_1 ++ (lw_privs_2 ++ (lw_privs_3))
def lw_tbl : List Cond := k2_sels lw_privs ++ tables_1
theorem lw_privs_ok : ∀ q ∈ lw_privs, lw_okq q := by
  show ∀ q ∈ lw_privs_1 ++ (lw_privs_2 ++ (lw_privs_3)), lw_okq q
  exact List.forall_mem_append.mpr ⟨lw_r1, List.forall_mem_append.mpr ⟨lw_r2, lw_r3⟩⟩
end
section
def F_Persons : u_T := fun k => match k with
  | 0 => ("ContestRows$Persons", "starts", "[I", true)
  | 1 => ("ContestRows$Persons", "scores", "[J", true)
  | 2 => ("ContestRows$Persons", "times", "[J", true)
  | 3 => ("ContestRows$Persons", "counts", "[I", true)
  | _ => ("ContestRows$Persons", "many", "I", false)
def t_Persons : Nat → FieldType := fun k => match k with
  | 0 => .array .int
  | 1 => .array .long
  | 2 => .array .long
  | 3 => .array .int
  | _ => .int
theorem n_Persons : ∀ a, a < 5 → ∀ b, b < 5 → a ≠ b → (F_Persons a).2.1 ≠ (F_Persons b).2.1 := by decide +kernel
theorem t_Persons_ok : ∀ k, k < 5 → parseFieldDescriptor (F_Persons k).2.2.1 = some (t_Persons k) := by decide +kernel
def F_Puzzles : u_T := fun k => match k with
  | 0 => ("ContestRows$Puzzles", "grades", "[I", true)
  | 1 => ("ContestRows$Puzzles", "many", "I", false)
  | 2 => ("ContestRows$Puzzles", "falling", "[I", true)
  | 3 => ("ContestRows$Puzzles", "reached", "[Z", true)
  | 4 => ("ContestRows$Puzzles", "total", "I", false)
  | 5 => ("ContestRows$Puzzles", "setSums", "[I", true)
  | _ => ("ContestRows$Puzzles", "setCounts", "[I", true)
def t_Puzzles : Nat → FieldType := fun k => match k with
  | 0 => .array .int
  | 1 => .int
  | 2 => .array .int
  | 3 => .array .boolean
  | 4 => .int
  | 5 => .array .int
  | _ => .array .int
theorem n_Puzzles : ∀ a, a < 7 → ∀ b, b < 7 → a ≠ b → (F_Puzzles a).2.1 ≠ (F_Puzzles b).2.1 := by decide +kernel
theorem t_Puzzles_ok : ∀ k, k < 7 → parseFieldDescriptor (F_Puzzles k).2.2.1 = some (t_Puzzles k) := by decide +kernel
def F_RuleText : u_T := fun k => match k with
  | 0 => ("ContestRows$RuleText", "units", "[I", true)
  | _ => ("ContestRows$RuleText", "length", "I", false)
def t_RuleText : Nat → FieldType := fun k => match k with
  | 0 => .array .int
  | _ => .int
theorem n_RuleText : ∀ a, a < 2 → ∀ b, b < 2 → a ≠ b → (F_RuleText a).2.1 ≠ (F_RuleText b).2.1 := by decide +kernel
theorem t_RuleText_ok : ∀ k, k < 2 → parseFieldDescriptor (F_RuleText k).2.2.1 = some (t_RuleText k) := by decide +kernel
def F_Rules : u_T := fun k => match k with
  | 0 => ("ContestRows$Rules", "now", "[I", true)
  | _ => ("ContestRows$Rules", "told", "[I", true)
def t_Rules : Nat → FieldType := fun k => match k with
  | 0 => .array .int
  | _ => .array .int
theorem n_Rules : ∀ a, a < 2 → ∀ b, b < 2 → a ≠ b → (F_Rules a).2.1 ≠ (F_Rules b).2.1 := by decide +kernel
theorem t_Rules_ok : ∀ k, k < 2 → parseFieldDescriptor (F_Rules k).2.2.1 = some (t_Rules k) := by decide +kernel
def F_Submissions : u_T := fun k => match k with
  | 0 => ("ContestRows$Submissions", "persons", "[I", true)
  | 1 => ("ContestRows$Submissions", "puzzles", "[I", true)
  | 2 => ("ContestRows$Submissions", "seconds", "[I", true)
  | 3 => ("ContestRows$Submissions", "rights", "[Z", true)
  | 4 => ("ContestRows$Submissions", "inTime", "[I", true)
  | 5 => ("ContestRows$Submissions", "many", "I", false)
  | _ => ("ContestRows$Submissions", "answers", "[I", true)
def t_Submissions : Nat → FieldType := fun k => match k with
  | 0 => .array .int
  | 1 => .array .int
  | 2 => .array .int
  | 3 => .array .boolean
  | 4 => .array .int
  | 5 => .int
  | _ => .array .int
theorem n_Submissions : ∀ a, a < 7 → ∀ b, b < 7 → a ≠ b → (F_Submissions a).2.1 ≠ (F_Submissions b).2.1 := by decide +kernel
theorem t_Submissions_ok : ∀ k, k < 7 → parseFieldDescriptor (F_Submissions k).2.2.1 = some (t_Submissions k) := by decide +kernel
def F_Top : u_T := fun k => match k with
  | 0 => ("ContestRows", "puzzles", "LContestRows$Puzzles;", true)
  | 1 => ("ContestRows", "persons", "LContestRows$Persons;", true)
  | 2 => ("ContestRows", "submissions", "LContestRows$Submissions;", true)
  | 3 => ("ContestRows", "text", "LContestRows$RuleText;", true)
  | 4 => ("ContestRows", "inForce", "LContestRows$Rules;", true)
  | 5 => ("ContestRows", "wrongs", "[I", true)
  | 6 => ("ContestRows", "settled", "[Z", true)
  | 7 => ("ContestRows", "gained", "[J", true)
  | _ => ("ContestRows", "twins", "[I", true)
def t_Top : Nat → FieldType := fun k => match k with
  | 0 => .object "ContestRows$Puzzles"
  | 1 => .object "ContestRows$Persons"
  | 2 => .object "ContestRows$Submissions"
  | 3 => .object "ContestRows$RuleText"
  | 4 => .object "ContestRows$Rules"
  | 5 => .array .int
  | 6 => .array .boolean
  | 7 => .array .long
  | _ => .array .int
theorem n_Top : ∀ a, a < 9 → ∀ b, b < 9 → a ≠ b → (F_Top a).2.1 ≠ (F_Top b).2.1 := by decide +kernel
theorem t_Top_ok : ∀ k, k < 9 → parseFieldDescriptor (F_Top k).2.2.1 = some (t_Top k) := by decide +kernel
def F_Model : u_T := fun k => match k with
  | 0 => ("ContestRowsModel", "thrown", "I", false)
  | 1 => ("ContestRowsModel", "puzzles", "I", false)
  | 2 => ("ContestRowsModel", "persons", "I", false)
  | 3 => ("ContestRowsModel", "many", "I", false)
  | 4 => ("ContestRowsModel", "grades", "[I", true)
  | 5 => ("ContestRowsModel", "starts", "[I", true)
  | 6 => ("ContestRowsModel", "who", "[I", true)
  | 7 => ("ContestRowsModel", "which", "[I", true)
  | 8 => ("ContestRowsModel", "when", "[I", true)
  | 9 => ("ContestRowsModel", "answers", "[I", true)
  | 10 => ("ContestRowsModel", "rights", "[Z", true)
  | 11 => ("ContestRowsModel", "rules", "[I", true)
  | 12 => ("ContestRowsModel", "told", "[I", true)
  | 13 => ("ContestRowsModel", "size", "I", false)
  | 14 => ("ContestRowsModel", "text", "[I", true)
  | 15 => ("ContestRowsModel", "bad", "I", false)
  | 16 => ("ContestRowsModel", "sums", "[I", true)
  | 17 => ("ContestRowsModel", "counts", "[I", true)
  | 18 => ("ContestRowsModel", "isPut", "[Z", true)
  | 19 => ("ContestRowsModel", "canBe", "[Z", true)
  | 20 => ("ContestRowsModel", "scores", "[J", true)
  | _ => ("ContestRowsModel", "times", "[J", true)
def t_Model : Nat → FieldType := fun k => match k with
  | 0 => .int
  | 1 => .int
  | 2 => .int
  | 3 => .int
  | 4 => .array .int
  | 5 => .array .int
  | 6 => .array .int
  | 7 => .array .int
  | 8 => .array .int
  | 9 => .array .int
  | 10 => .array .boolean
  | 11 => .array .int
  | 12 => .array .int
  | 13 => .int
  | 14 => .array .int
  | 15 => .int
  | 16 => .array .int
  | 17 => .array .int
  | 18 => .array .boolean
  | 19 => .array .boolean
  | 20 => .array .long
  | _ => .array .long
theorem n_Model : ∀ a, a < 22 → ∀ b, b < 22 → a ≠ b → (F_Model a).2.1 ≠ (F_Model b).2.1 := by decide +kernel
theorem t_Model_ok : ∀ k, k < 22 → parseFieldDescriptor (F_Model k).2.2.1 = some (t_Model k) := by decide +kernel
abbrev vwCl : List vw_C := [("ContestRows$Persons", F_Persons, 5), ("ContestRows$Puzzles", F_Puzzles, 7), ("ContestRows$RuleText", F_RuleText, 2), ("ContestRows$Rules", F_Rules, 2), ("ContestRows$Submissions", F_Submissions, 7), ("ContestRows", F_Top, 9), ("ContestRowsModel", F_Model, 22)]
def TBL : List Cond := lw_tbl.filter goodWord
theorem TBL_good (w : Cond) (h : w ∈ TBL) : (w.onTables && w.keeps) = true ∨ ∃ ty, w = .arrayClass ty := good_of_word (List.mem_filter.mp h).2
theorem TBL_in {w : Cond} (h : w ∈ lw_tbl) (g : goodWord w = true) : w ∈ TBL := List.mem_filter.mpr ⟨h, g⟩
theorem TBL_t {w : Cond} (h : w ∈ tables_1) (g : goodWord w = true) : w ∈ TBL := TBL_in (List.mem_append_right _ h) g
theorem i_Persons : ∀ w ∈ u_ws "ContestRows$Persons" F_Persons 5, w ∈ TBL := by decide +kernel
theorem i_Puzzles : ∀ w ∈ u_ws "ContestRows$Puzzles" F_Puzzles 7, w ∈ TBL := by decide +kernel
theorem i_RuleText : ∀ w ∈ u_ws "ContestRows$RuleText" F_RuleText 2, w ∈ TBL := by decide +kernel
theorem i_Rules : ∀ w ∈ u_ws "ContestRows$Rules" F_Rules 2, w ∈ TBL := by decide +kernel
theorem i_Submissions : ∀ w ∈ u_ws "ContestRows$Submissions" F_Submissions 7, w ∈ TBL := by decide +kernel
theorem i_Top : ∀ w ∈ u_ws "ContestRows" F_Top 9, w ∈ TBL := by decide +kernel
theorem i_Model : ∀ w ∈ u_ws "ContestRowsModel" F_Model 22, w ∈ TBL := by decide +kernel
def y_Persons_init : MethodName := ⟨"ContestRows$Persons", "<init>", "()V"⟩
abbrev b_Persons_init : ByteArray := prog_2_method_1_code
def y_Persons_has : MethodName := ⟨"ContestRows$Persons", "has", "(I)Z"⟩
abbrev b_Persons_has : ByteArray := prog_2_method_2_code
def y_Persons_add : MethodName := ⟨"ContestRows$Persons", "add", "()I"⟩
abbrev b_Persons_add : ByteArray := prog_2_method_3_code
def y_Persons_clearSums : MethodName := ⟨"ContestRows$Persons", "clearSums", "(I)V"⟩
abbrev b_Persons_clearSums : ByteArray := prog_2_method_4_code
def y_Persons_addToSums : MethodName := ⟨"ContestRows$Persons", "addToSums", "(IJI)V"⟩
abbrev b_Persons_addToSums : ByteArray := prog_2_method_5_code
def y_Persons_alike : MethodName := ⟨"ContestRows$Persons", "alike", "(IIZ)Z"⟩
abbrev b_Persons_alike : ByteArray := prog_2_method_6_code
def y_Persons_isAhead : MethodName := ⟨"ContestRows$Persons", "isAhead", "(IIZ)Z"⟩
abbrev b_Persons_isAhead : ByteArray := prog_2_method_7_code
def y_Persons_rankOf : MethodName := ⟨"ContestRows$Persons", "rankOf", "(IZ)I"⟩
abbrev b_Persons_rankOf : ByteArray := prog_2_method_8_code
def y_Persons_inPlace : MethodName := ⟨"ContestRows$Persons", "inPlace", "(IZ)I"⟩
abbrev b_Persons_inPlace : ByteArray := prog_2_method_9_code
def y_Persons_howManyBefore : MethodName := ⟨"ContestRows$Persons", "howManyBefore", "(IZ)I"⟩
abbrev b_Persons_howManyBefore : ByteArray := prog_2_method_10_code
def y_Puzzles_init : MethodName := ⟨"ContestRows$Puzzles", "<init>", "()V"⟩
abbrev b_Puzzles_init : ByteArray := prog_3_method_1_code
def y_Puzzles_has : MethodName := ⟨"ContestRows$Puzzles", "has", "(I)Z"⟩
abbrev b_Puzzles_has : ByteArray := prog_3_method_2_code
def y_Puzzles_add : MethodName := ⟨"ContestRows$Puzzles", "add", "(I)I"⟩
abbrev b_Puzzles_add : ByteArray := prog_3_method_3_code
def y_Puzzles_putFalling : MethodName := ⟨"ContestRows$Puzzles", "putFalling", "(I)V"⟩
abbrev b_Puzzles_putFalling : ByteArray := prog_3_method_4_code
def y_Puzzles_reachWith : MethodName := ⟨"ContestRows$Puzzles", "reachWith", "(I)V"⟩
abbrev b_Puzzles_reachWith : ByteArray := prog_3_method_5_code
def y_Puzzles_leastDifference : MethodName := ⟨"ContestRows$Puzzles", "leastDifference", "()I"⟩
abbrev b_Puzzles_leastDifference : ByteArray := prog_3_method_6_code
def y_Puzzles_setOf : MethodName := ⟨"ContestRows$Puzzles", "setOf", "(II)I"⟩
abbrev b_Puzzles_setOf : ByteArray := prog_3_method_7_code
def y_Puzzles_leastSet : MethodName := ⟨"ContestRows$Puzzles", "leastSet", "(I)I"⟩
abbrev b_Puzzles_leastSet : ByteArray := prog_3_method_8_code
def y_RuleText_init : MethodName := ⟨"ContestRows$RuleText", "<init>", "()V"⟩
abbrev b_RuleText_init : ByteArray := prog_4_method_1_code
def y_RuleText_add : MethodName := ⟨"ContestRows$RuleText", "add", "(I)Z"⟩
abbrev b_RuleText_add : ByteArray := prog_4_method_2_code
def y_RuleText_clear : MethodName := ⟨"ContestRows$RuleText", "clear", "()V"⟩
abbrev b_RuleText_clear : ByteArray := prog_4_method_3_code
def y_RuleText_read : MethodName := ⟨"ContestRows$RuleText", "read", "(LContestRows$Rules;)I"⟩
abbrev b_RuleText_read : ByteArray := prog_4_method_4_code
def y_RuleText_refusal : MethodName := ⟨"ContestRows$RuleText", "refusal", "(I)I"⟩
abbrev b_RuleText_refusal : ByteArray := prog_4_method_5_code
def y_RuleText_endOfDigits : MethodName := ⟨"ContestRows$RuleText", "endOfDigits", "(I)I"⟩
abbrev b_RuleText_endOfDigits : ByteArray := prog_4_method_6_code
def y_RuleText_number : MethodName := ⟨"ContestRows$RuleText", "number", "(II)I"⟩
abbrev b_RuleText_number : ByteArray := prog_4_method_7_code
def y_Rules_init : MethodName := ⟨"ContestRows$Rules", "<init>", "()V"⟩
abbrev b_Rules_init : ByteArray := prog_5_method_1_code
def y_Rules_beginTelling : MethodName := ⟨"ContestRows$Rules", "beginTelling", "()V"⟩
abbrev b_Rules_beginTelling : ByteArray := prog_5_method_2_code
def y_Rules_tell : MethodName := ⟨"ContestRows$Rules", "tell", "(II)V"⟩
abbrev b_Rules_tell : ByteArray := prog_5_method_3_code
def y_Rules_endTelling : MethodName := ⟨"ContestRows$Rules", "endTelling", "()V"⟩
abbrev b_Rules_endTelling : ByteArray := prog_5_method_4_code
def y_Rules_isLate : MethodName := ⟨"ContestRows$Rules", "isLate", "(I)Z"⟩
abbrev b_Rules_isLate : ByteArray := prog_5_method_5_code
def y_Rules_timesPart : MethodName := ⟨"ContestRows$Rules", "timesPart", "()Z"⟩
abbrev b_Rules_timesPart : ByteArray := prog_5_method_6_code
def y_Rules_worth : MethodName := ⟨"ContestRows$Rules", "worth", "(III)J"⟩
abbrev b_Rules_worth : ByteArray := prog_5_method_7_code
def y_Submissions_init : MethodName := ⟨"ContestRows$Submissions", "<init>", "()V"⟩
abbrev b_Submissions_init : ByteArray := prog_6_method_1_code
def y_Submissions_has : MethodName := ⟨"ContestRows$Submissions", "has", "(I)Z"⟩
abbrev b_Submissions_has : ByteArray := prog_6_method_2_code
def y_Submissions_add : MethodName := ⟨"ContestRows$Submissions", "add", "(IIIIZ)I"⟩
abbrev b_Submissions_add : ByteArray := prog_6_method_3_code
def y_Submissions_putInTime : MethodName := ⟨"ContestRows$Submissions", "putInTime", "(I)V"⟩
abbrev b_Submissions_putInTime : ByteArray := prog_6_method_4_code
def y_Submissions_anyEarlier : MethodName := ⟨"ContestRows$Submissions", "anyEarlier", "(II)Z"⟩
abbrev b_Submissions_anyEarlier : ByteArray := prog_6_method_5_code
def y_Submissions_findTwins : MethodName := ⟨"ContestRows$Submissions", "findTwins", "(I[I)V"⟩
abbrev b_Submissions_findTwins : ByteArray := prog_6_method_6_code
def y_Submissions_isTwin : MethodName := ⟨"ContestRows$Submissions", "isTwin", "(II)Z"⟩
abbrev b_Submissions_isTwin : ByteArray := prog_6_method_7_code
def y_Submissions_secondsBetween : MethodName := ⟨"ContestRows$Submissions", "secondsBetween", "(II)I"⟩
abbrev b_Submissions_secondsBetween : ByteArray := prog_6_method_8_code
def y_Submissions_tellPair : MethodName := ⟨"ContestRows$Submissions", "tellPair", "(III)I"⟩
abbrev b_Submissions_tellPair : ByteArray := prog_6_method_9_code
def y_Top_init : MethodName := ⟨"ContestRows", "<init>", "()V"⟩
abbrev b_Top_init : ByteArray := prog_1_method_1_code
def y_Top_puzzle : MethodName := ⟨"ContestRows", "puzzle", "(I)I"⟩
abbrev b_Top_puzzle : ByteArray := prog_1_method_2_code
def y_Top_person : MethodName := ⟨"ContestRows", "person", "()I"⟩
abbrev b_Top_person : ByteArray := prog_1_method_3_code
def y_Top_unit : MethodName := ⟨"ContestRows", "unit", "(I)Z"⟩
abbrev b_Top_unit : ByteArray := prog_1_method_4_code
def y_Top_rules : MethodName := ⟨"ContestRows", "rules", "()I"⟩
abbrev b_Top_rules : ByteArray := prog_1_method_5_code
def y_Top_start : MethodName := ⟨"ContestRows", "start", "(II)Z"⟩
abbrev b_Top_start : ByteArray := prog_1_method_6_code
def y_Top_submit : MethodName := ⟨"ContestRows", "submit", "(IIIIZ)I"⟩
abbrev b_Top_submit : ByteArray := prog_1_method_7_code
def y_Top_correct : MethodName := ⟨"ContestRows", "correct", "(IZ)Z"⟩
abbrev b_Top_correct : ByteArray := prog_1_method_8_code
def y_Top_late : MethodName := ⟨"ContestRows", "late", "(I)Z"⟩
abbrev b_Top_late : ByteArray := prog_1_method_9_code
def y_Top_score : MethodName := ⟨"ContestRows", "score", "(II)J"⟩
abbrev b_Top_score : ByteArray := prog_1_method_10_code
def y_Top_points : MethodName := ⟨"ContestRows", "points", "(II)J"⟩
abbrev b_Top_points : ByteArray := prog_1_method_11_code
def y_Top_place : MethodName := ⟨"ContestRows", "place", "(I)I"⟩
abbrev b_Top_place : ByteArray := prog_1_method_12_code
def y_Top_shared : MethodName := ⟨"ContestRows", "shared", "(II)Z"⟩
abbrev b_Top_shared : ByteArray := prog_1_method_13_code
def y_Top_suspicious : MethodName := ⟨"ContestRows", "suspicious", "(II)I"⟩
abbrev b_Top_suspicious : ByteArray := prog_1_method_14_code
def y_Top_even : MethodName := ⟨"ContestRows", "even", "(II)I"⟩
abbrev b_Top_even : ByteArray := prog_1_method_15_code
def y_Top_apart : MethodName := ⟨"ContestRows", "apart", "()I"⟩
abbrev b_Top_apart : ByteArray := prog_1_method_16_code
def y_Top_secondsFromStart : MethodName := ⟨"ContestRows", "secondsFromStart", "(I)I"⟩
abbrev b_Top_secondsFromStart : ByteArray := prog_1_method_17_code
def y_Top_workOutAll : MethodName := ⟨"ContestRows", "workOutAll", "()V"⟩
abbrev b_Top_workOutAll : ByteArray := prog_1_method_18_code
def y_Top_workOut : MethodName := ⟨"ContestRows", "workOut", "(I)V"⟩
abbrev b_Top_workOut : ByteArray := prog_1_method_19_code
def y_Top_take : MethodName := ⟨"ContestRows", "take", "(II)V"⟩
abbrev b_Top_take : ByteArray := prog_1_method_20_code
def y_Model_init : MethodName := ⟨"ContestRowsModel", "<init>", "()V"⟩
abbrev b_Model_init : ByteArray := prog_8_method_1_code
def y_Model_isPuzzle : MethodName := ⟨"ContestRowsModel", "isPuzzle", "(I)Z"⟩
abbrev b_Model_isPuzzle : ByteArray := prog_8_method_3_code
def y_Model_isPerson : MethodName := ⟨"ContestRowsModel", "isPerson", "(I)Z"⟩
abbrev b_Model_isPerson : ByteArray := prog_8_method_4_code
def y_Model_isRow : MethodName := ⟨"ContestRowsModel", "isRow", "(I)Z"⟩
abbrev b_Model_isRow : ByteArray := prog_8_method_5_code
def y_Model_puzzle : MethodName := ⟨"ContestRowsModel", "puzzle", "(I)I"⟩
abbrev b_Model_puzzle : ByteArray := prog_8_method_6_code
def y_Model_person : MethodName := ⟨"ContestRowsModel", "person", "()I"⟩
abbrev b_Model_person : ByteArray := prog_8_method_7_code
def y_Model_unit : MethodName := ⟨"ContestRowsModel", "unit", "(I)Z"⟩
abbrev b_Model_unit : ByteArray := prog_8_method_8_code
def y_Model_byteAt : MethodName := ⟨"ContestRowsModel", "byteAt", "(I)I"⟩
abbrev b_Model_byteAt : ByteArray := prog_8_method_9_code
def y_Model_isDigit : MethodName := ⟨"ContestRowsModel", "isDigit", "(I)Z"⟩
abbrev b_Model_isDigit : ByteArray := prog_8_method_10_code
def y_Model_ruleOf : MethodName := ⟨"ContestRowsModel", "ruleOf", "(I)I"⟩
abbrev b_Model_ruleOf : ByteArray := prog_8_method_11_code
def y_Model_readRule : MethodName := ⟨"ContestRowsModel", "readRule", "(I)I"⟩
abbrev b_Model_readRule : ByteArray := prog_8_method_12_code
def y_Model_rules : MethodName := ⟨"ContestRowsModel", "rules", "()I"⟩
abbrev b_Model_rules : ByteArray := prog_8_method_13_code
def y_Model_start : MethodName := ⟨"ContestRowsModel", "start", "(II)Z"⟩
abbrev b_Model_start : ByteArray := prog_8_method_14_code
def y_Model_submit : MethodName := ⟨"ContestRowsModel", "submit", "(IIIIZ)I"⟩
abbrev b_Model_submit : ByteArray := prog_8_method_15_code
def y_Model_correct : MethodName := ⟨"ContestRowsModel", "correct", "(IZ)Z"⟩
abbrev b_Model_correct : ByteArray := prog_8_method_16_code
def y_Model_secondsOf : MethodName := ⟨"ContestRowsModel", "secondsOf", "(I)I"⟩
abbrev b_Model_secondsOf : ByteArray := prog_8_method_17_code
def y_Model_isLate : MethodName := ⟨"ContestRowsModel", "isLate", "(I)Z"⟩
abbrev b_Model_isLate : ByteArray := prog_8_method_18_code
def y_Model_late : MethodName := ⟨"ContestRowsModel", "late", "(I)Z"⟩
abbrev b_Model_late : ByteArray := prog_8_method_19_code
def y_Model_isAhead : MethodName := ⟨"ContestRowsModel", "isAhead", "(II)Z"⟩
abbrev b_Model_isAhead : ByteArray := prog_8_method_20_code
def y_Model_isOf : MethodName := ⟨"ContestRowsModel", "isOf", "(III)Z"⟩
abbrev b_Model_isOf : ByteArray := prog_8_method_21_code
def y_Model_counting : MethodName := ⟨"ContestRowsModel", "counting", "(II)I"⟩
abbrev b_Model_counting : ByteArray := prog_8_method_22_code
def y_Model_pointsOf : MethodName := ⟨"ContestRowsModel", "pointsOf", "(II)J"⟩
abbrev b_Model_pointsOf : ByteArray := prog_8_method_23_code
def y_Model_scoreOf : MethodName := ⟨"ContestRowsModel", "scoreOf", "(I)J"⟩
abbrev b_Model_scoreOf : ByteArray := prog_8_method_24_code
def y_Model_timeOf : MethodName := ⟨"ContestRowsModel", "timeOf", "(I)J"⟩
abbrev b_Model_timeOf : ByteArray := prog_8_method_25_code
def y_Model_reckon : MethodName := ⟨"ContestRowsModel", "reckon", "()V"⟩
abbrev b_Model_reckon : ByteArray := prog_8_method_26_code
def y_Model_isBetter : MethodName := ⟨"ContestRowsModel", "isBetter", "(II)Z"⟩
abbrev b_Model_isBetter : ByteArray := prog_8_method_27_code
def y_Model_isAlike : MethodName := ⟨"ContestRowsModel", "isAlike", "(II)Z"⟩
abbrev b_Model_isAlike : ByteArray := prog_8_method_28_code
def y_Model_score : MethodName := ⟨"ContestRowsModel", "score", "(II)J"⟩
abbrev b_Model_score : ByteArray := prog_8_method_29_code
def y_Model_points : MethodName := ⟨"ContestRowsModel", "points", "(II)J"⟩
abbrev b_Model_points : ByteArray := prog_8_method_30_code
def y_Model_place : MethodName := ⟨"ContestRowsModel", "place", "(I)I"⟩
abbrev b_Model_place : ByteArray := prog_8_method_31_code
def y_Model_shared : MethodName := ⟨"ContestRowsModel", "shared", "(II)Z"⟩
abbrev b_Model_shared : ByteArray := prog_8_method_32_code
def y_Model_firstWrong : MethodName := ⟨"ContestRowsModel", "firstWrong", "(III)I"⟩
abbrev b_Model_firstWrong : ByteArray := prog_8_method_33_code
def y_Model_suspicious : MethodName := ⟨"ContestRowsModel", "suspicious", "(II)I"⟩
abbrev b_Model_suspicious : ByteArray := prog_8_method_34_code
def y_Model_tellPair : MethodName := ⟨"ContestRowsModel", "tellPair", "(IIII)I"⟩
abbrev b_Model_tellPair : ByteArray := prog_8_method_35_code
def y_Model_next : MethodName := ⟨"ContestRowsModel", "next", "()I"⟩
abbrev b_Model_next : ByteArray := prog_8_method_36_code
def y_Model_even : MethodName := ⟨"ContestRowsModel", "even", "(II)I"⟩
abbrev b_Model_even : ByteArray := prog_8_method_37_code
def y_Model_apart : MethodName := ⟨"ContestRowsModel", "apart", "()I"⟩
abbrev b_Model_apart : ByteArray := prog_8_method_38_code
end
section
/-! BASE: one contract form for every method that makes no cell, rows over a world kept in one fact, a call row -/
section BASE
def bI (b : Bool) : Int32 := match b with
  | true => 1
  | false => 0
def oI (o : Option Nat) : Int32 := match o with
  | none => -1
  | some n => nI n
def oL (o : Option Nat) : Int64 := match o with
  | none => -1
  | some n => lN n
def aE {α : Type} (enc : α → Int32) (g : Nat → α) : Nat → Int32 := fun i => enc (g i)
def aF {α : Type} (enc : α → Int64) (g : Nat → α) : Nat → Int64 := fun i => enc (g i)
theorem aE_upd {α : Type} (enc : α → Int32) (g : Nat → α) (k : Nat) (v : α) : upd (aE enc g) k (enc v) = aE enc (va_up g k v) := by
  funext j
  by_cases h : j = k <;> simp [upd, aE, va_up, h]
theorem aF_upd {α : Type} (enc : α → Int64) (g : Nat → α) (k : Nat) (v : α) : vp_updL (aF enc g) k (enc v) = aF enc (va_up g k v) := by
  funext j
  by_cases h : j = k <;> simp [vp_updL, aF, va_up, h]
theorem bI_nar (b : Bool) : vp_nar .boolean (bI b) = bI b := by cases b <;> decide +kernel
theorem bI_narrow (b : Bool) : narrow .boolean (.int (bI b)) = .int (bI b) := by cases b <;> decide +kernel
theorem bI_0 {b : Bool} : bI b = 0 ↔ b = false := by cases b <;> decide +kernel
theorem bI_inj {a b : Bool} : bI a = bI b ↔ a = b := by cases a <;> cases b <;> decide +kernel
abbrev tyL (cI cZ cJ : ClassId) : List (ClassId × FieldType) := [(cI, .int), (cZ, .boolean), (cJ, .long)]
/-- the world, kept: its cells, apart, and what has changed since H0 -/
def Wr (G : va_G) (A : Nat → Prop) (H0 : Heap) (ws : va_W) (H : Heap) (locs : List Loc) : Prop := va_P G vwCl ws H ∧ va_D A ws ∧ va_S A H0 H locs
/-- what holds in a method's body: code, class, the tables' words, the classes' numbers, new cells are free -/
abbrev Fx (p : Program) (m : MethodId) (c : Code) (cc : ByteArray) (nL : Nat) (s : State) (args : Array Value) (own : String) (G : va_G) (tys : List (ClassId × FieldType)) (A : Nat → Prop) : Prop :=
  CallFix p m c cc nL s args TBL own ∧ va_K G vwCl tys s ∧ ∀ q, s.heap.size ≤ q → A q
def CPre (G : va_G) (tys : List (ClassId × FieldType)) (av : List Value) (wc : va_W) (sz : Nat) : Array Value → State → Prop :=
  va_Pc av (fun U => U.heap.size = sz ∧ va_P G vwCl wc U.heap ∧ va_K G vwCl tys U ∧ va_D (fun _ => True) wc)
def CQ (G : va_G) (wc : va_W) (sz : Nat) (ov : Option Value) (wv : va_W) : Array Value → State → Outcome → State → Prop := fun _ st oc t =>
  oc = .returned ov ∧ va_P G vwCl wv t.heap ∧ va_D (va_A wc sz) wv ∧ va_F (va_A wc sz) st t
/-- the contract: from the world wc, with the arguments av: the answer ov, the world wv -/
def Ct (l : Launch) (G : va_G) (tys : List (ClassId × FieldType)) (y : MethodName) (bytes : ByteArray) (maxL : Nat) (ret : Option FieldType) (rm : Room) (av : List Value) (wc : va_W) (ov : Option Value) (wv : va_W) : Prop :=
  ∀ sz, Met l y (.code y bytes maxL ret :: TBL) rm (CPre G tys av wc sz) (CQ G wc sz ov wv) 0 0 (va_A wc sz)
theorem CPre_blind {G : va_G} {tys : List (ClassId × FieldType)} {av : List Value} {wc : va_W} {sz : Nat} : FrameBlind (CPre G tys av wc sz) := fun a U g mk q => by
  obtain ⟨q0, q1, qP, qK, qD⟩ := q
  exact ⟨q0, q1, qP, va_K.moved (u := U) (U := U.calling g mk a) (Vm.Alike.refl U.vm) qK, qD⟩
abbrev rmL (d : Nat) : Room := { frames := d, cells := 0, slots := 0, locals := 44 * d }
/-- a method's proof begins -/
theorem M_start {l : Launch} {G : va_G} {tys : List (ClassId × FieldType)} {y : MethodName} {bytes : ByteArray} {maxL : Nat} {ret : Option FieldType} {rm : Room} {av : List Value} {wc : va_W} {ov : Option Value} {wv : va_W}
    (hy : plainName y.cls = true) (hav : (lg_sl av).length ≤ maxL)
    (body : ∀ (p : Program) (e : Env) (s : State) (m : MethodId) (args : Array Value) (below : List Frame) (meth : Method) (c : Code) (A : Nat → Prop) (Q : State → Prop) (ls : Array Slot),
      Fx p m c bytes maxL s args y.cls G tys A → (meth.sig.returnType = ret ∧ meth.locks = false ∧ Q = MQ below (CQ G wc s.heap.size ov wv) args s 0 0 A ∧ A = va_A wc s.heap.size) → Wr G A s.heap wc s.heap [] → lv_has ls maxL (lv_args 0 av) →
      W p l e rm s m args below meth c s.heap [] 0 0 Q (F0 m 0 ls [])) : Ct l G tys y bytes maxL ret rm av wc ov wv := by
  intro sz
  refine Met.ofW (cc := bytes) (maxL := maxL) (ret := ret) hy rfl ?_
  intro p e s m args below meth c s₁ B hml hv
  obtain ⟨rfl, hsz, hP, hK, hD0⟩ := hv
  have hts := atoms_spec (ws := .code y bytes maxL ret :: TBL) B.pre
  have hown : s.vm.findClass y.cls = some m.cls := findClass_of_methodNamed B.named
  subst hsz
  rw [lg_entry_eq]
  exact body p e s m av.toArray below meth c (va_A wc s.heap.size) _ _ ⟨⟨B.exec, B.bytes, hml, hown, fun w h => hts w (List.mem_cons_of_mem _ h)⟩, hK, fun q h => Or.inr h⟩ ⟨B.returns, B.notSynchronized, rfl, rfl⟩ ⟨hP, hD0.self, va_S.rf⟩ (lv_entry av hav)
section ROWS
variable {p : Program} {l : Launch} {e : Env} {R : Room} {s : State} {m : MethodId} {args : Array Value} {below : List Frame} {meth : Method} {c : Code} {H : Heap} {locs : List Loc} {cells slots : Nat} {Q : State → Prop}
variable {cc : ByteArray} {nL pc : Nat} {ls : Array Slot} {rest : List Value} {own : String} {G : va_G} {A : Nat → Prop} {a : Nat} {tys : List (ClassId × FieldType)} {ws : va_W} {H0 : Heap}
theorem R_get {C : String} {T : u_T} {N ci index : Nat} (X : Fx p m c cc nL s args own G tys A) (hW : Wr G A H0 ws H locs) (hin : ∀ w ∈ u_ws C T N, w ∈ TBL) (hc : vwCl[ci]? = some (C, T, N)) (k : Nat) (hk : k < N) (hlink : Cond.fieldLink own index (T k).1 (T k).2.1 (T k).2.2.1 ∈ TBL) (q0 : Nat) {fs : List Value} (he : ws[q0]? = some (a, .inr (ci, fs))) {v : Value} (hv : fs[k]? = some v) (hdg : decode cc pc = .ok (.getfield index, 3))
    (kk : W p l e R s m args below meth c H locs cells slots Q (F0 m (pc + 3) ls (v :: rest))) : W p l e R s m args below meth c H locs cells slots Q (F0 m pc ls (.ref a :: rest)) :=
  va_get X.1.1 X.1.2.1 X.1.2.2.2.2 hin X.1.2.2.2.1 X.2.1 hW.1 q0 he hc k hk (X.1.2.2.2.2 _ hlink) (fun _ h => h) hv hdg kk
theorem R_put {C : String} {T : u_T} {N ci index : Nat} (X : Fx p m c cc nL s args own G tys A) (hW : Wr G A H0 ws H locs) (hin : ∀ w ∈ u_ws C T N, w ∈ TBL) (hc : vwCl[ci]? = some (C, T, N)) (ty0 : Nat → FieldType) (hty : ∀ k, k < N → parseFieldDescriptor (T k).2.2.1 = some (ty0 k)) (hnm : ∀ a, a < N → ∀ b, b < N → a ≠ b → (T a).2.1 ≠ (T b).2.1) (k : Nat) (hk : k < N) (hlink : Cond.fieldLink own index (T k).1 (T k).2.1 (T k).2.2.1 ∈ TBL) (hfin : (T k).2.2.2 = false) {ty : FieldType} (hd : parseFieldDescriptor (T k).2.2.1 = some ty) (q0 : Nat) {fs : List Value} (he : ws[q0]? = some (a, .inr (ci, fs))) {v : Value} (hn : narrow ty v = v) (hfit : fits ty v = true) (hl : k < fs.length) (hdg : decode cc pc = .ok (.putfield index, 3))
    (kk : ∀ (H1 : Heap) (locs1 : List Loc), Wr G A H0 (ws.set q0 (a, .inr (ci, fs.set k v))) H1 locs1 → W p l e R s m args below meth c H1 locs1 cells slots Q (F0 m (pc + 3) ls rest)) : W p l e R s m args below meth c H locs cells slots Q (F0 m pc ls (v :: .ref a :: rest)) :=
  va_put X.1.1 X.1.2.1 X.1.2.2.2.2 hin ty0 hty hnm X.1.2.2.2.1 X.2.1 hW.1 hW.2.1 hW.2.2 q0 he hc k hk (X.1.2.2.2.2 _ hlink) (fun _ h => h) hfin hd hn hfit hl hdg (fun H1 locs1 h1 h2 h3 => kk H1 locs1 ⟨h1, h2, h3⟩)
theorem R_iald {α : Type} {enc : α → Int32} {f : Nat → α} {n t0 : Nat} {cA : ClassId} (X : Fx p m c cc nL s args own G tys A) (hW : Wr G A H0 ws H locs) (ht : tys[t0]? = some (cA, .int)) (q0 : Nat) (ha : ws[q0]? = some (a, .inl (cA, n, .inl (aE enc f)))) {k : Nat} (hk : k < n) (hn : n < 2 ^ 31) (hdg : decode cc pc = .ok (.iaload, 1))
    (kk : W p l e R s m args below meth c H locs cells slots Q (F0 m (pc + 1) ls (.int (enc (f k)) :: rest))) : W p l e R s m args below meth c H locs cells slots Q (F0 m pc ls (.int (nI k) :: .ref a :: rest)) := by
  refine va_iald X.1.1 X.1.2.1 X.2.1 hW.1 q0 t0 ha ht (vp_in_nI hk hn) hdg ?_
  rw [nI_clamp (Nat.lt_trans hk hn)]
  exact kk
theorem R_zald {α : Type} {enc : α → Int32} {f : Nat → α} {n t0 : Nat} {cA : ClassId} (X : Fx p m c cc nL s args own G tys A) (hW : Wr G A H0 ws H locs) (ht : tys[t0]? = some (cA, .boolean)) (q0 : Nat) (ha : ws[q0]? = some (a, .inl (cA, n, .inl (aE enc f)))) {k : Nat} (hk : k < n) (hn : n < 2 ^ 31) (hdg : decode cc pc = .ok (.baload, 1))
    (kk : W p l e R s m args below meth c H locs cells slots Q (F0 m (pc + 1) ls (.int (enc (f k)) :: rest))) : W p l e R s m args below meth c H locs cells slots Q (F0 m pc ls (.int (nI k) :: .ref a :: rest)) := by
  refine va_zald X.1.1 X.1.2.1 X.2.1 hW.1 q0 t0 ha ht (vp_in_nI hk hn) hdg ?_
  rw [nI_clamp (Nat.lt_trans hk hn)]
  exact kk
theorem R_lald {α : Type} {enc : α → Int64} {f : Nat → α} {n t0 : Nat} {cA : ClassId} (X : Fx p m c cc nL s args own G tys A) (hW : Wr G A H0 ws H locs) (ht : tys[t0]? = some (cA, .long)) (q0 : Nat) (ha : ws[q0]? = some (a, .inl (cA, n, .inr (.inl (aF enc f))))) {k : Nat} (hk : k < n) (hn : n < 2 ^ 31) (hdg : decode cc pc = .ok (.laload, 1))
    (kk : W p l e R s m args below meth c H locs cells slots Q (F0 m (pc + 1) ls (.long (enc (f k)) :: rest))) : W p l e R s m args below meth c H locs cells slots Q (F0 m pc ls (.int (nI k) :: .ref a :: rest)) := by
  refine va_lald X.1.1 X.1.2.1 X.2.1 hW.1 q0 t0 ha ht (vp_in_nI hk hn) hdg ?_
  rw [nI_clamp (Nat.lt_trans hk hn)]
  exact kk
theorem R_iast {α : Type} {enc : α → Int32} {f : Nat → α} {n t0 : Nat} {cA : ClassId} (X : Fx p m c cc nL s args own G tys A) (hW : Wr G A H0 ws H locs) (ht : tys[t0]? = some (cA, .int)) (q0 : Nat) (ha : ws[q0]? = some (a, .inl (cA, n, .inl (aE enc f)))) {k : Nat} (hk : k < n) (hn : n < 2 ^ 31) {x : Int32} (v : α) (hv : x = enc v) (hdg : decode cc pc = .ok (.iastore, 1))
    (kk : ∀ (H1 : Heap) (locs1 : List Loc), Wr G A H0 (ws.set q0 (a, .inl (cA, n, .inl (aE enc (va_up f k v))))) H1 locs1 → W p l e R s m args below meth c H1 locs1 cells slots Q (F0 m (pc + 1) ls rest)) : W p l e R s m args below meth c H locs cells slots Q (F0 m pc ls (.int x :: .int (nI k) :: .ref a :: rest)) := by
  subst hv
  refine va_iast X.1.1 X.1.2.1 X.2.1 hW.1 hW.2.1 hW.2.2 q0 t0 ha ht (vp_in_nI hk hn) hdg (fun H1 locs1 h1 h2 h3 => kk H1 locs1 ?_)
  rw [nI_clamp (Nat.lt_trans hk hn), aE_upd] at h1 h2
  exact ⟨h1, h2, h3⟩
theorem R_zast {f : Nat → Bool} {n t0 : Nat} {cA : ClassId} (X : Fx p m c cc nL s args own G tys A) (hW : Wr G A H0 ws H locs) (ht : tys[t0]? = some (cA, .boolean)) (q0 : Nat) (ha : ws[q0]? = some (a, .inl (cA, n, .inl (aE bI f)))) {k : Nat} (hk : k < n) (hn : n < 2 ^ 31) {x : Int32} (v : Bool) (hv : x = bI v) (hdg : decode cc pc = .ok (.bastore, 1))
    (kk : ∀ (H1 : Heap) (locs1 : List Loc), Wr G A H0 (ws.set q0 (a, .inl (cA, n, .inl (aE bI (va_up f k v))))) H1 locs1 → W p l e R s m args below meth c H1 locs1 cells slots Q (F0 m (pc + 1) ls rest)) : W p l e R s m args below meth c H locs cells slots Q (F0 m pc ls (.int x :: .int (nI k) :: .ref a :: rest)) := by
  subst hv
  refine va_zast X.1.1 X.1.2.1 X.2.1 hW.1 hW.2.1 hW.2.2 q0 t0 ha ht (vp_in_nI hk hn) hdg (fun H1 locs1 h1 h2 h3 => kk H1 locs1 ?_)
  rw [nI_clamp (Nat.lt_trans hk hn), bI_nar, aE_upd] at h1 h2
  exact ⟨h1, h2, h3⟩
theorem R_last {α : Type} {enc : α → Int64} {f : Nat → α} {n t0 : Nat} {cA : ClassId} (X : Fx p m c cc nL s args own G tys A) (hW : Wr G A H0 ws H locs) (ht : tys[t0]? = some (cA, .long)) (q0 : Nat) (ha : ws[q0]? = some (a, .inl (cA, n, .inr (.inl (aF enc f))))) {k : Nat} (hk : k < n) (hn : n < 2 ^ 31) {x : Int64} (v : α) (hv : x = enc v) (hdg : decode cc pc = .ok (.lastore, 1))
    (kk : ∀ (H1 : Heap) (locs1 : List Loc), Wr G A H0 (ws.set q0 (a, .inl (cA, n, .inr (.inl (aF enc (va_up f k v)))))) H1 locs1 → W p l e R s m args below meth c H1 locs1 cells slots Q (F0 m (pc + 1) ls rest)) : W p l e R s m args below meth c H locs cells slots Q (F0 m pc ls (.long x :: .int (nI k) :: .ref a :: rest)) := by
  subst hv
  refine va_last X.1.1 X.1.2.1 X.2.1 hW.1 hW.2.1 hW.2.2 q0 t0 ha ht (vp_in_nI hk hn) hdg (fun H1 locs1 h1 h2 h3 => kk H1 locs1 ?_)
  rw [nI_clamp (Nat.lt_trans hk hn), aF_upd] at h1 h2
  exact ⟨h1, h2, h3⟩
/-! returns -/
variable {wc wv w : va_W} {ov : Option Value} {ret : Option FieldType} {sz : Nat}
abbrev Rx (meth : Method) (below : List Frame) (s : State) (args : Array Value) (ret : Option FieldType) (G : va_G) (wc : va_W) (ov : Option Value) (wv : va_W) (A : Nat → Prop) (Q : State → Prop) : Prop :=
  meth.sig.returnType = ret ∧ meth.locks = false ∧ Q = MQ below (CQ G wc s.heap.size ov wv) args s 0 0 A ∧ A = va_A wc s.heap.size
theorem R_q (Y : Rx meth below s args ret G wc ov wv A Q) (hW : Wr G A s.heap w H locs) (hw : w = wv) {oc : Option Value} (ho : oc = ov) : ∀ t : State, t.heap = H → s.WarmedH t.vm → CQ G wc s.heap.size ov wv args s (.returned oc) t := fun t ht hwm => by
  subst hw; subst ho
  obtain ⟨-, -, -, rfl⟩ := Y
  exact ⟨rfl, by rw [ht]; exact hW.1, hW.2.1, hW.2.2.F ht⟩
theorem R_iret (X : Fx p m c cc nL s args own G tys A) (Y : Rx meth below s args (some .int) G wc ov wv A Q) (hW : Wr G A s.heap w H locs) (hw : w = wv) {x : Int32} (ho : some (Value.int x) = ov) (hdg : decode cc pc = .ok (.ireturn, 1)) : W p l e R s m args below meth c H locs 0 0 Q (F0 m pc ls [.int x]) := by
  have hq := R_q Y hW hw ho
  obtain ⟨hr, hlk, rfl, hAe⟩ := Y
  exact W.iret X.1.1 X.1.2.1 hr hq hW.2.2.2.2 hdg hlk
theorem R_zret (X : Fx p m c cc nL s args own G tys A) (Y : Rx meth below s args (some .boolean) G wc ov wv A Q) (hW : Wr G A s.heap w H locs) (hw : w = wv) {x : Int32} (b : Bool) (hx : x = bI b) (ho : some (Value.int (bI b)) = ov) (hdg : decode cc pc = .ok (.ireturn, 1)) : W p l e R s m args below meth c H locs 0 0 Q (F0 m pc ls [.int x]) := by
  subst hx
  have hq := R_q Y hW hw ho
  obtain ⟨hr, hlk, rfl, hAe⟩ := Y
  exact W.zret X.1.1 X.1.2.1 hr (bI_narrow b) hq hW.2.2.2.2 hdg hlk
theorem R_lret (X : Fx p m c cc nL s args own G tys A) (Y : Rx meth below s args (some .long) G wc ov wv A Q) (hW : Wr G A s.heap w H locs) (hw : w = wv) {x : Int64} (ho : some (Value.long x) = ov) (hdg : decode cc pc = .ok (.lreturn, 1)) : W p l e R s m args below meth c H locs 0 0 Q (F0 m pc ls [.long x]) := by
  have hq := R_q Y hW hw ho
  obtain ⟨hr, hlk, rfl, hAe⟩ := Y
  exact W.lret X.1.1 X.1.2.1 hr hq hW.2.2.2.2 hdg hlk
theorem R_vret (X : Fx p m c cc nL s args own G tys A) (Y : Rx meth below s args none G wc ov wv A Q) (hW : Wr G A s.heap w H locs) (hw : w = wv) (ho : none = ov) (hdg : decode cc pc = .ok (.return_, 1)) : W p l e R s m args below meth c H locs 0 0 Q (F0 m pc ls []) := by
  have hq := R_q Y hW hw ho
  obtain ⟨hr, hlk, rfl, hAe⟩ := Y
  exact W.vret X.1.1 X.1.2.1 hr hq hW.2.2.2.2 hdg hlk
end ROWS
/-! a call -/
def rp_set (ws : va_W) : List Nat → va_W → va_W
  | i :: is, x :: xs => rp_set (ws.set i x) is xs
  | _, _ => ws
theorem rp_mem : ∀ (is : List Nat) (xs ws : va_W) (k : Nat) (q : Nat × va_E), is.length = xs.length → (rp_set ws is xs)[k]? = some q → q ∈ xs ∨ (k ∉ is ∧ ws[k]? = some q)
  | [], xs, ws, k, q, _, h => by
    right
    exact ⟨List.not_mem_nil, by cases xs <;> exact h⟩
  | i :: is, [], ws, k, q, hl, h => by simp at hl
  | i :: is, x :: xs, ws, k, q, hl, h => by
    have hl' : is.length = xs.length := by simpa using hl
    rcases rp_mem is xs (ws.set i x) k q hl' h with h1 | ⟨h1, h2⟩
    · exact Or.inl (List.mem_cons_of_mem _ h1)
    · by_cases hk : k = i
      · subst hk
        left
        rw [List.getElem?_set] at h2
        by_cases hlt : k < ws.length
        · simp [hlt] at h2
          rw [h2]; exact List.mem_cons_self
        · simp [hlt] at h2
      · right
        rw [List.getElem?_set_ne (fun e => hk e.symm)] at h2
        exact ⟨fun hm => by
          rcases List.mem_cons.mp hm with e | e
          · exact hk e
          · exact h1 e, h2⟩
theorem rp_fst : ∀ (is : List Nat) (xs ws : va_W), is.map (fun i => (ws[i]?).map Prod.fst) = xs.map (fun x => some x.1) → (rp_set ws is xs).map Prod.fst = ws.map Prod.fst
  | [], xs, ws, _ => by cases xs <;> rfl
  | i :: is, [], ws, h => by simp at h
  | i :: is, x :: xs, ws, h => by
    simp only [List.map_cons, List.cons.injEq] at h
    obtain ⟨h1, h2⟩ := h
    have e : (ws.set i x).map Prod.fst = ws.map Prod.fst := by
      apply List.ext_getElem?
      intro j
      rw [List.getElem?_map, List.getElem?_map, List.getElem?_set]
      by_cases hj : i = j
      · subst hj
        rw [if_pos rfl]
        by_cases hlt : i < ws.length
        · rw [if_pos hlt, h1]; rfl
        · rw [if_neg hlt]
          rw [List.getElem?_eq_none (by omega)]
      · rw [if_neg hj]
    show (rp_set (ws.set i x) is xs).map Prod.fst = _
    rw [rp_fst is xs (ws.set i x) ?_, e]
    rw [← h2]
    apply List.map_congr_left
    intro j _
    show (ws.set i x)[j]?.map Prod.fst = (ws[j]?).map Prod.fst
    rw [← List.getElem?_map, ← List.getElem?_map, e]
theorem va_D.fst {A : Nat → Prop} {ws ws' : va_W} (h : va_D A ws) (he : ws'.map Prod.fst = ws.map Prod.fst) : va_D A ws' := by
  have key : ∀ (i : Nat) (p : Nat × va_E), ws'[i]? = some p → ∃ p', ws[i]? = some p' ∧ p'.1 = p.1 := by
    intro i p hp
    have h1 := congrArg (fun l => l[i]?) he
    simp only [List.getElem?_map, hp, Option.map_some] at h1
    cases hw : ws[i]? with
    | none => rw [hw] at h1; simp at h1
    | some p' =>
      rw [hw] at h1
      exact ⟨p', rfl, (by simpa using h1.symm)⟩
  refine ⟨fun i j p q hi hj hpq => ?_, fun k q hk => ?_⟩
  · obtain ⟨p', a1, a2⟩ := key i p hi
    obtain ⟨q', b1, b2⟩ := key j q hj
    exact h.1 i j p' q' a1 b1 (by rw [a2, b2, hpq])
  · obtain ⟨q', a1, a2⟩ := key k q hk
    rw [← a2]
    exact h.2 k q' a1
/-! the callee's cells by a mask -/
def mk_pos : List Bool → Nat → List Nat
  | [], _ => []
  | true :: bs, n => n :: mk_pos bs (n + 1)
  | false :: bs, n => mk_pos bs (n + 1)
def mk_pick : va_W → List Bool → va_W
  | w :: ws, true :: bs => w :: mk_pick ws bs
  | _ :: ws, false :: bs => mk_pick ws bs
  | _, _ => []
def mk_put : va_W → List Bool → va_W → va_W
  | _ :: ws, true :: bs, x :: xs => x :: mk_put ws bs xs
  | w :: ws, false :: bs, xs => w :: mk_put ws bs xs
  | ws, _, _ => ws
theorem mk_pick_pos : ∀ (bs : List Bool) (ws pre : va_W), bs.length ≤ ws.length → (mk_pos bs pre.length).map (fun i => (pre ++ ws)[i]?) = (mk_pick ws bs).map some
  | [], ws, pre, _ => by cases ws <;> rfl
  | b :: bs, [], pre, h => by simp at h
  | true :: bs, w :: ws, pre, h => by
    have ih := mk_pick_pos bs ws (pre ++ [w]) (by simpa using h)
    simp only [List.length_append, List.length_cons, List.length_nil, List.append_assoc, List.cons_append, List.nil_append, Nat.zero_add] at ih
    simp only [mk_pos, mk_pick, List.map_cons, ih]
    simp
  | false :: bs, w :: ws, pre, h => by
    have ih := mk_pick_pos bs ws (pre ++ [w]) (by simpa using h)
    simp only [List.length_append, List.length_cons, List.length_nil, List.append_assoc, List.cons_append, List.nil_append, Nat.zero_add] at ih
    simp only [mk_pos, mk_pick, ih]
theorem mk_put_set : ∀ (bs : List Bool) (ws pre xs : va_W), bs.length ≤ ws.length → rp_set (pre ++ ws) (mk_pos bs pre.length) xs = pre ++ mk_put ws bs xs
  | [], ws, pre, xs, _ => by cases ws <;> cases xs <;> rfl
  | b :: bs, [], pre, xs, h => by simp at h
  | true :: bs, w :: ws, pre, [], h => by simp [mk_pos, rp_set, mk_put]
  | true :: bs, w :: ws, pre, x :: xs, h => by
    have ih := mk_put_set bs ws (pre ++ [x]) xs (by simpa using h)
    simp only [List.length_append, List.length_cons, List.length_nil, List.append_assoc, List.cons_append, List.nil_append, Nat.zero_add] at ih
    simp only [mk_pos, rp_set, mk_put]
    rw [show (pre ++ w :: ws).set pre.length x = pre ++ x :: ws by simp]
    exact ih
  | false :: bs, w :: ws, pre, xs, h => by
    have ih := mk_put_set bs ws (pre ++ [w]) xs (by simpa using h)
    simp only [List.length_append, List.length_cons, List.length_nil, List.append_assoc, List.cons_append, List.nil_append, Nat.zero_add] at ih
    simp only [mk_pos]
    rw [ih]
    cases xs <;> rfl
section CALLS
variable {p : Program} {l : Launch} {e : Env} {R : Room} {s : State} {m : MethodId} {args : Array Value} {below : List Frame} {meth : Method} {c : Code} {H : Heap} {locs : List Loc} {cells slots : Nat} {Q : State → Prop}
variable {cc : ByteArray} {nL pc : Nat} {ls : Array Slot} {rest st0 st1 : List Value} {own : String} {G : va_G} {A : Nat → Prop} {a : Nat} {tys : List (ClassId × FieldType)} {ws wc wv : va_W} {H0 : Heap} {ov : Option Value} {ar : Array Value}
theorem R_run (hr : va_Run p l e R s m args below meth c H locs cells slots 0 0 (F0 m pc ls st0) rest (CQ G wc H.size ov wv ar) (va_A wc H.size)) (hW : Wr G A H0 ws H locs) (hA : ∀ q, H0.size ≤ q → A q) (isC : List Nat) (hC : isC.map (fun i => ws[i]?) = wc.map some) (hv : wv.map Prod.fst = wc.map Prod.fst) (hst : ov.toList ++ rest = st1)
    (kk : ∀ (H1 : Heap) (locs1 : List Loc), Wr G A H0 (rp_set ws isC wv) H1 locs1 → W p l e R s m args below meth c H1 locs1 cells slots Q (F0 m (pc + 3) ls st1)) : W p l e R s m args below meth c H locs cells slots Q (F0 m pc ls st0) := by
  subst hst
  obtain ⟨hP, hD, hS⟩ := hW
  have hF := va_free (wc := wc) hD hS hA isC hC
  have hlen : isC.length = wv.length := by
    have h1 := congrArg List.length hC
    have h2 := congrArg List.length hv
    simp at h1 h2
    omega
  have hCat : ∀ (j i : Nat), isC[j]? = some i → ∃ q, wc[j]? = some q ∧ ws[i]? = some q := by
    intro j i hj
    have h1 := congrArg (fun l => l[j]?) hC
    simp only [List.getElem?_map, hj, Option.map_some] at h1
    cases hw : wc[j]? with
    | none => rw [hw] at h1; simp at h1
    | some q => rw [hw] at h1; exact ⟨q, rfl, by simpa using h1⟩
  intro T hT Xs
  obtain ⟨v, st₀, t, T', L, h0, X', hL, e1, e2, ⟨hv1, hP1, hD1, hz, hk⟩, st⟩ := hr T hT Xs
  cases hv1
  rw [h0] at hz hk
  have hS1 : va_S A H0 T'.heap (locs ++ L) := ⟨Nat.le_trans hS.1 (by rw [e1]; exact hz), fun q h1 h2 => by rw [e1, hk q (Nat.lt_of_lt_of_le h1 hS.1) (fun z => h2 (hF q z))]; exact hS.2.1 q h1 h2, fun q hq => by
      rcases List.mem_append.mp hq with h | h
      · exact hS.2.2 q h
      · exact hF _ (hL q h)⟩
  have hP2 : va_P G vwCl (rp_set ws isC wv) T'.heap := by
    intro k q hq
    rcases rp_mem isC wv ws k q hlen hq with h1 | ⟨h1, h2⟩
    · obtain ⟨j, hj⟩ := List.getElem?_of_mem h1
      rw [e1]
      exact hP1 j q hj
    · refine (hP k q h2).kept ?_
      rw [e1]
      refine hk q.1 (hP k q h2).lt ?_
      rintro (⟨j, e', hj⟩ | hge)
      · have hjl : j < isC.length := by
          have := (List.getElem?_eq_some_iff.mp hj).1
          have h1 := congrArg List.length hC
          simp at h1
          omega
        obtain ⟨q', g1, g2⟩ := hCat j isC[j] (List.getElem?_eq_getElem hjl)
        rw [hj] at g1
        have e3 : q'.1 = q.1 := by rw [← Option.some.inj g1]
        have := hD.1 _ _ _ _ g2 h2 e3
        exact h1 (this ▸ List.getElem_mem hjl)
      · exact absurd (hP k q h2).lt (Nat.not_lt.mpr hge)
  have hD2 : va_D A (rp_set ws isC wv) := by
    refine hD.fst (rp_fst isC wv ws ?_)
    have h1 : isC.map (fun i => (ws[i]?).map Prod.fst) = (isC.map (fun i => ws[i]?)).map (fun o => o.map Prod.fst) := by rw [List.map_map]; rfl
    rw [h1, hC, List.map_map]
    have h2 : wv.map (fun x => some x.1) = (wv.map Prod.fst).map some := by rw [List.map_map]; rfl
    rw [h2, hv, List.map_map]
    rfl
  obtain ⟨t2, a1, b1⟩ := kk T'.heap (locs ++ L) ⟨hP2, hD2, hS1⟩ T' rfl X'
  exact ⟨t2, st t2 a1, b1⟩
/-- what a caller knows of its callee -/
def Cw (own : String) (index : Nat) (y : MethodName) (bytes : ByteArray) (maxL : Nat) (ret : Option FieldType) (n : Nat) : Prop :=
  Cond.code y bytes maxL ret ∈ TBL ∧ Cond.initialized y.cls ∈ TBL ∧ Cond.methodLink own index y ∈ TBL ∧ (y.cls ≠ "java/lang/invoke/MethodHandle" ∧ y.cls ≠ "java/lang/invoke/VarHandle" ∧ (parseMethodDescriptor y.desc).map (fun d => d.parameters.length) = some n)
theorem Cw.toB {index maxL n : Nat} {y : MethodName} {bytes : ByteArray} {ret : Option FieldType} {rm : Room} (h : Cw own index y bytes maxL ret n) (hts : ∀ w ∈ TBL, w.before args s = true) (hrm : rm.cells = 0 ∧ rm.slots = 0) (hR : rm.frames + 1 ≤ R.frames ∧ 8 + (maxL + 11) + rm.locals ≤ R.locals) : CallB R s args own index y bytes maxL ret (.code y bytes maxL ret :: TBL) rm 0 0 n := by
  obtain ⟨h1, h2, h3, h4⟩ := h
  exact callB_of n hts (fun w hw => by
    rcases List.mem_cons.mp hw with e | e
    · rw [e]; exact ⟨h1, TBL_good _ h1⟩
    · exact ⟨e, TBL_good _ e⟩) rfl hrm.1 hrm.2 (hts _ h2) (hts _ h3) h4 hR
theorem R_pre {av : List Value} (X : Fx p m c cc nL s args own G tys A) (hW : Wr G A H0 ws H locs) (isC : List Nat) (hn : va_nd isC = true) (hC : isC.map (fun i => ws[i]?) = wc.map some) : ∀ U : State, U.heap = H → s.WarmedH U.vm → CPre G tys av wc H.size av.toArray U := by
  intro U hU hw
  have hD := hW.2.1.sub (ws' := wc) isC hn hC
  have hP : va_P G vwCl wc H := by
    intro j q hj
    have h1 := congrArg (fun l => l[j]?) hC
    simp only [List.getElem?_map, hj, Option.map_some] at h1
    cases hi : isC[j]? with
    | none => rw [hi] at h1; simp at h1
    | some i =>
      rw [hi] at h1
      exact hW.1 i q (by simpa using h1)
  exact ⟨rfl, by rw [hU], by rw [hU]; exact hP, va_K.moved hw.alike X.2.1, hD.weaken (fun _ _ _ _ => trivial)⟩
/-- invokevirtual -/
theorem R_callV0 {C : String} {T : u_T} {N ci q0 b index maxL n : Nat} {y : MethodName} {bytes : ByteArray} {ret : Option FieldType} {rm : Room} {As fs : List Value} (hM : Ct l G tys y bytes maxL ret rm (.ref b :: As) wc ov wv) (X : Fx p m c cc nL s args own G tys A) (hs : H0 = s.heap) (hW : Wr G A H0 ws H locs) (hc : Cw own index y bytes maxL ret n) (hin : Cond.instanceMethod y ∈ TBL) (hse : Cond.selects C y y ∈ TBL) (hcl : vwCl[ci]? = some (C, T, N)) (he : ws[q0]? = some (b, .inr (ci, fs))) (hrm : rm.cells = 0 ∧ rm.slots = 0) (hR : rm.frames + 1 ≤ R.frames ∧ 8 + (maxL + 11) + rm.locals ≤ R.locals) (hcs : cells ≤ R.cells ∧ slots ≤ R.slots) (isC : List Nat) (hn : va_nd isC = true) (hC : isC.map (fun i => ws[i]?) = wc.map some) (hv : wv.map Prod.fst = wc.map Prod.fst) (hl : ls.size = nL) (hsk : st0 = As.reverse ++ .ref b :: rest) (hlen : As.length = n) (hw8 : (rest.map fun v => v.category).sum ≤ 8) (hdg : decode cc pc = .ok (.invokevirtual index, 3)) (hst : ov.toList ++ rest = st1)
    (kk : ∀ (H1 : Heap) (locs1 : List Loc), Wr G A H0 (rp_set ws isC wv) H1 locs1 → W p l e R s m args below meth c H1 locs1 cells slots Q (F0 m (pc + 3) ls st1)) : W p l e R s m args below meth c H locs cells slots Q (F0 m pc ls st0) := by
  have hts := X.1.2.2.2.2
  refine R_run (va_runV X.1 (hM H.size) ⟨hc.toB hts hrm hR, hts _ hin, hts _ hse⟩ ⟨CPre_blind, va_recv X.2.1 hW.1 hcl he, R_pre X hW isC hn hC⟩ rfl hlen hl hsk (lv_room hw8) hdg ⟨hcs.1, hcs.2⟩) hW (by rw [hs]; exact X.2.2) isC hC hv hst kk
/-- invokestatic -/
theorem R_callS0 {index maxL n : Nat} {y : MethodName} {bytes : ByteArray} {ret : Option FieldType} {rm : Room} {As : List Value} (hM : Ct l G tys y bytes maxL ret rm As wc ov wv) (X : Fx p m c cc nL s args own G tys A) (hs : H0 = s.heap) (hW : Wr G A H0 ws H locs) (hc : Cw own index y bytes maxL ret n) (hin : Cond.static y ∈ TBL) (hrm : rm.cells = 0 ∧ rm.slots = 0) (hR : rm.frames + 1 ≤ R.frames ∧ 8 + (maxL + 11) + rm.locals ≤ R.locals) (hcs : cells ≤ R.cells ∧ slots ≤ R.slots) (isC : List Nat) (hn : va_nd isC = true) (hC : isC.map (fun i => ws[i]?) = wc.map some) (hv : wv.map Prod.fst = wc.map Prod.fst) (hl : ls.size = nL) (hsk : st0 = As.reverse ++ rest) (hlen : As.length = n) (hw8 : (rest.map fun v => v.category).sum ≤ 8) (hdg : decode cc pc = .ok (.invokestatic index, 3)) (hst : ov.toList ++ rest = st1)
    (kk : ∀ (H1 : Heap) (locs1 : List Loc), Wr G A H0 (rp_set ws isC wv) H1 locs1 → W p l e R s m args below meth c H1 locs1 cells slots Q (F0 m (pc + 3) ls st1)) : W p l e R s m args below meth c H locs cells slots Q (F0 m pc ls st0) := by
  have hts := X.1.2.2.2.2
  refine R_run (va_runS X.1 (hM H.size) ⟨hc.toB hts hrm hR, hts _ hin⟩ ⟨CPre_blind, R_pre X hW isC hn hC⟩ rfl hlen hl hsk (lv_room hw8) hdg ⟨hcs.1, hcs.2⟩) hW (by rw [hs]; exact X.2.2) isC hC hv hst kk
theorem R_callV {C : String} {T : u_T} {N ci q0 b index maxL n : Nat} {y : MethodName} {bytes : ByteArray} {ret : Option FieldType} {rm : Room} {As fs : List Value} (hM : Ct l G tys y bytes maxL ret rm (.ref b :: As) wc ov wv) (X : Fx p m c cc nL s args own G tys A) (hs : H0 = s.heap) (hW : Wr G A H0 ws H locs) (hc : Cw own index y bytes maxL ret n) (hin : Cond.instanceMethod y ∈ TBL) (hse : Cond.selects C y y ∈ TBL) (hcl : vwCl[ci]? = some (C, T, N)) (he : ws[q0]? = some (b, .inr (ci, fs))) (hrm : rm.cells = 0 ∧ rm.slots = 0) (hR : rm.frames + 1 ≤ R.frames ∧ 8 + (maxL + 11) + rm.locals ≤ R.locals) (hcs : cells ≤ R.cells ∧ slots ≤ R.slots) (bs : List Bool) (hn : va_nd (mk_pos bs 0) = true) (hbs : bs.length ≤ ws.length) (hC : mk_pick ws bs = wc) (hv : wv.map Prod.fst = wc.map Prod.fst) (hl : ls.size = nL) (hsk : st0 = As.reverse ++ .ref b :: rest) (hlen : As.length = n) (hw8 : (rest.map fun v => v.category).sum ≤ 8) (hdg : decode cc pc = .ok (.invokevirtual index, 3)) (hst : ov.toList ++ rest = st1)
    (kk : ∀ (H1 : Heap) (locs1 : List Loc), Wr G A H0 (mk_put ws bs wv) H1 locs1 → W p l e R s m args below meth c H1 locs1 cells slots Q (F0 m (pc + 3) ls st1)) : W p l e R s m args below meth c H locs cells slots Q (F0 m pc ls st0) := by
  have h1 := mk_pick_pos bs ws [] hbs
  have h2 := mk_put_set bs ws [] wv hbs
  simp only [List.length_nil, List.nil_append] at h1 h2
  rw [hC] at h1
  refine R_callV0 hM X hs hW hc hin hse hcl he hrm hR hcs (mk_pos bs 0) hn h1 hv hl hsk hlen hw8 hdg hst (fun H1 locs1 hW1 => kk H1 locs1 ?_)
  rw [h2] at hW1
  exact hW1
theorem R_callS {index maxL n : Nat} {y : MethodName} {bytes : ByteArray} {ret : Option FieldType} {rm : Room} {As : List Value} (hM : Ct l G tys y bytes maxL ret rm As wc ov wv) (X : Fx p m c cc nL s args own G tys A) (hs : H0 = s.heap) (hW : Wr G A H0 ws H locs) (hc : Cw own index y bytes maxL ret n) (hin : Cond.static y ∈ TBL) (hrm : rm.cells = 0 ∧ rm.slots = 0) (hR : rm.frames + 1 ≤ R.frames ∧ 8 + (maxL + 11) + rm.locals ≤ R.locals) (hcs : cells ≤ R.cells ∧ slots ≤ R.slots) (bs : List Bool) (hn : va_nd (mk_pos bs 0) = true) (hbs : bs.length ≤ ws.length) (hC : mk_pick ws bs = wc) (hv : wv.map Prod.fst = wc.map Prod.fst) (hl : ls.size = nL) (hsk : st0 = As.reverse ++ rest) (hlen : As.length = n) (hw8 : (rest.map fun v => v.category).sum ≤ 8) (hdg : decode cc pc = .ok (.invokestatic index, 3)) (hst : ov.toList ++ rest = st1)
    (kk : ∀ (H1 : Heap) (locs1 : List Loc), Wr G A H0 (mk_put ws bs wv) H1 locs1 → W p l e R s m args below meth c H1 locs1 cells slots Q (F0 m (pc + 3) ls st1)) : W p l e R s m args below meth c H locs cells slots Q (F0 m pc ls st0) := by
  have h1 := mk_pick_pos bs ws [] hbs
  have h2 := mk_put_set bs ws [] wv hbs
  simp only [List.length_nil, List.nil_append] at h1 h2
  rw [hC] at h1
  refine R_callS0 hM X hs hW hc hin hrm hR hcs (mk_pos bs 0) hn h1 hv hl hsk hlen hw8 hdg hst (fun H1 locs1 hW1 => kk H1 locs1 ?_)
  rw [h2] at hW1
  exact hW1
end CALLS
end BASE
end
section
section NROWS
variable {p : Program} {l : Launch} {e : Env} {R : Room} {s : State} {m : MethodId} {args : Array Value} {below : List Frame} {meth : Method} {c : Code} {H : Heap} {locs : List Loc} {cells slots : Nat} {Q : State → Prop}
variable {cc : ByteArray} {pc : Nat} {ls : Array Slot} {rest : List Value}
theorem i_le {x y : Int32} : x ≤ y ↔ x.toInt ≤ y.toInt := Int32.le_iff_toInt_le
theorem i_lt {x y : Int32} : x < y ↔ x.toInt < y.toInt := Int32.lt_iff_toInt_lt
theorem i_eq {x y : Int32} : x = y ↔ x.toInt = y.toInt := Int32.toInt_inj.symm
theorem i_T {n : Nat} (h : n < 2 ^ 31) : (nI n).toInt = (n : Int) := nI_toInt h
theorem i_T0 : (0 : Int32).toInt = 0 := by decide +kernel
theorem i_Tm1 : (-1 : Int32).toInt = -1 := by decide +kernel

theorem N_icmp_lt_NN (hx : p.tables.exec = Jvm.exec) (hb : c.code = cc) {a : Nat} (qa : a < 2 ^ 31) {b : Nat} (qb : b < 2 ^ 31) {off : Int} {tgt : Nat} (hdg : decode cc pc = .ok (.if_icmp .lt off, 3)) (ht : (pc : Int) + off = (tgt : Int)) (kt : a < b → W p l e R s m args below meth c H locs cells slots Q (F0 m tgt ls rest)) (kf : b ≤ a → W p l e R s m args below meth c H locs cells slots Q (F0 m (pc + 3) ls rest)) : W p l e R s m args below meth c H locs cells slots Q (F0 m pc ls (.int (nI b) :: .int (nI a) :: rest)) :=
  lv_icmp_lt hx hb hdg ht (fun q0 => kt (by have q := i_lt.mp q0; rw [i_T qa, i_T qb] at q; omega)) (fun q0 => kf (by have q := mt i_lt.mpr q0; rw [i_T qa, i_T qb] at q; omega))
theorem N_icmp_lt_RN (hx : p.tables.exec = Jvm.exec) (hb : c.code = cc) {x : Int32} {b : Nat} (qb : b < 2 ^ 31) {off : Int} {tgt : Nat} (hdg : decode cc pc = .ok (.if_icmp .lt off, 3)) (ht : (pc : Int) + off = (tgt : Int)) (kt : x.toInt < (b : Int) → W p l e R s m args below meth c H locs cells slots Q (F0 m tgt ls rest)) (kf : (b : Int) ≤ x.toInt → W p l e R s m args below meth c H locs cells slots Q (F0 m (pc + 3) ls rest)) : W p l e R s m args below meth c H locs cells slots Q (F0 m pc ls (.int (nI b) :: .int x :: rest)) :=
  lv_icmp_lt hx hb hdg ht (fun q0 => kt (by have q := i_lt.mp q0; rw [i_T qb] at q; omega)) (fun q0 => kf (by have q := mt i_lt.mpr q0; rw [i_T qb] at q; omega))
theorem N_icmp_lt_NR (hx : p.tables.exec = Jvm.exec) (hb : c.code = cc) {a : Nat} (qa : a < 2 ^ 31) {y : Int32} {off : Int} {tgt : Nat} (hdg : decode cc pc = .ok (.if_icmp .lt off, 3)) (ht : (pc : Int) + off = (tgt : Int)) (kt : (a : Int) < y.toInt → W p l e R s m args below meth c H locs cells slots Q (F0 m tgt ls rest)) (kf : y.toInt ≤ (a : Int) → W p l e R s m args below meth c H locs cells slots Q (F0 m (pc + 3) ls rest)) : W p l e R s m args below meth c H locs cells slots Q (F0 m pc ls (.int y :: .int (nI a) :: rest)) :=
  lv_icmp_lt hx hb hdg ht (fun q0 => kt (by have q := i_lt.mp q0; rw [i_T qa] at q; omega)) (fun q0 => kf (by have q := mt i_lt.mpr q0; rw [i_T qa] at q; omega))
theorem N_icmp_lt_RR (hx : p.tables.exec = Jvm.exec) (hb : c.code = cc) {x : Int32} {y : Int32} {off : Int} {tgt : Nat} (hdg : decode cc pc = .ok (.if_icmp .lt off, 3)) (ht : (pc : Int) + off = (tgt : Int)) (kt : x.toInt < y.toInt → W p l e R s m args below meth c H locs cells slots Q (F0 m tgt ls rest)) (kf : y.toInt ≤ x.toInt → W p l e R s m args below meth c H locs cells slots Q (F0 m (pc + 3) ls rest)) : W p l e R s m args below meth c H locs cells slots Q (F0 m pc ls (.int y :: .int x :: rest)) :=
  lv_icmp_lt hx hb hdg ht (fun q0 => kt (by have q := i_lt.mp q0; skip; omega)) (fun q0 => kf (by have q := mt i_lt.mpr q0; skip; omega))
theorem N_if_lt_N (hx : p.tables.exec = Jvm.exec) (hb : c.code = cc) {a : Nat} (qa : a < 2 ^ 31) {off : Int} {tgt : Nat} (hdg : decode cc pc = .ok (.ifCond .lt off, 3)) (ht : (pc : Int) + off = (tgt : Int)) (kt : a < 0 → W p l e R s m args below meth c H locs cells slots Q (F0 m tgt ls rest)) (kf : 0 ≤ a → W p l e R s m args below meth c H locs cells slots Q (F0 m (pc + 3) ls rest)) : W p l e R s m args below meth c H locs cells slots Q (F0 m pc ls (.int (nI a) :: rest)) :=
  lv_if_lt hx hb hdg ht (fun q0 => kt (by have q := i_lt.mp q0; rw [i_T qa, i_T0] at q; omega)) (fun q0 => kf (by have q := mt i_lt.mpr q0; rw [i_T qa, i_T0] at q; omega))
theorem N_if_lt_R (hx : p.tables.exec = Jvm.exec) (hb : c.code = cc) {x : Int32} {off : Int} {tgt : Nat} (hdg : decode cc pc = .ok (.ifCond .lt off, 3)) (ht : (pc : Int) + off = (tgt : Int)) (kt : x.toInt < 0 → W p l e R s m args below meth c H locs cells slots Q (F0 m tgt ls rest)) (kf : 0 ≤ x.toInt → W p l e R s m args below meth c H locs cells slots Q (F0 m (pc + 3) ls rest)) : W p l e R s m args below meth c H locs cells slots Q (F0 m pc ls (.int x :: rest)) :=
  lv_if_lt hx hb hdg ht (fun q0 => kt (by have q := i_lt.mp q0; rw [i_T0] at q; omega)) (fun q0 => kf (by have q := mt i_lt.mpr q0; rw [i_T0] at q; omega))
theorem N_icmp_ge_NN (hx : p.tables.exec = Jvm.exec) (hb : c.code = cc) {a : Nat} (qa : a < 2 ^ 31) {b : Nat} (qb : b < 2 ^ 31) {off : Int} {tgt : Nat} (hdg : decode cc pc = .ok (.if_icmp .ge off, 3)) (ht : (pc : Int) + off = (tgt : Int)) (kt : b ≤ a → W p l e R s m args below meth c H locs cells slots Q (F0 m tgt ls rest)) (kf : a < b → W p l e R s m args below meth c H locs cells slots Q (F0 m (pc + 3) ls rest)) : W p l e R s m args below meth c H locs cells slots Q (F0 m pc ls (.int (nI b) :: .int (nI a) :: rest)) :=
  lv_icmp_ge hx hb hdg ht (fun q0 => kt (by have q := i_le.mp q0; rw [i_T qa, i_T qb] at q; omega)) (fun q0 => kf (by have q := mt i_le.mpr q0; rw [i_T qa, i_T qb] at q; omega))
theorem N_icmp_ge_RN (hx : p.tables.exec = Jvm.exec) (hb : c.code = cc) {x : Int32} {b : Nat} (qb : b < 2 ^ 31) {off : Int} {tgt : Nat} (hdg : decode cc pc = .ok (.if_icmp .ge off, 3)) (ht : (pc : Int) + off = (tgt : Int)) (kt : (b : Int) ≤ x.toInt → W p l e R s m args below meth c H locs cells slots Q (F0 m tgt ls rest)) (kf : x.toInt < (b : Int) → W p l e R s m args below meth c H locs cells slots Q (F0 m (pc + 3) ls rest)) : W p l e R s m args below meth c H locs cells slots Q (F0 m pc ls (.int (nI b) :: .int x :: rest)) :=
  lv_icmp_ge hx hb hdg ht (fun q0 => kt (by have q := i_le.mp q0; rw [i_T qb] at q; omega)) (fun q0 => kf (by have q := mt i_le.mpr q0; rw [i_T qb] at q; omega))
theorem N_icmp_ge_NR (hx : p.tables.exec = Jvm.exec) (hb : c.code = cc) {a : Nat} (qa : a < 2 ^ 31) {y : Int32} {off : Int} {tgt : Nat} (hdg : decode cc pc = .ok (.if_icmp .ge off, 3)) (ht : (pc : Int) + off = (tgt : Int)) (kt : y.toInt ≤ (a : Int) → W p l e R s m args below meth c H locs cells slots Q (F0 m tgt ls rest)) (kf : (a : Int) < y.toInt → W p l e R s m args below meth c H locs cells slots Q (F0 m (pc + 3) ls rest)) : W p l e R s m args below meth c H locs cells slots Q (F0 m pc ls (.int y :: .int (nI a) :: rest)) :=
  lv_icmp_ge hx hb hdg ht (fun q0 => kt (by have q := i_le.mp q0; rw [i_T qa] at q; omega)) (fun q0 => kf (by have q := mt i_le.mpr q0; rw [i_T qa] at q; omega))
theorem N_icmp_ge_RR (hx : p.tables.exec = Jvm.exec) (hb : c.code = cc) {x : Int32} {y : Int32} {off : Int} {tgt : Nat} (hdg : decode cc pc = .ok (.if_icmp .ge off, 3)) (ht : (pc : Int) + off = (tgt : Int)) (kt : y.toInt ≤ x.toInt → W p l e R s m args below meth c H locs cells slots Q (F0 m tgt ls rest)) (kf : x.toInt < y.toInt → W p l e R s m args below meth c H locs cells slots Q (F0 m (pc + 3) ls rest)) : W p l e R s m args below meth c H locs cells slots Q (F0 m pc ls (.int y :: .int x :: rest)) :=
  lv_icmp_ge hx hb hdg ht (fun q0 => kt (by have q := i_le.mp q0; skip; omega)) (fun q0 => kf (by have q := mt i_le.mpr q0; skip; omega))
theorem N_if_ge_N (hx : p.tables.exec = Jvm.exec) (hb : c.code = cc) {a : Nat} (qa : a < 2 ^ 31) {off : Int} {tgt : Nat} (hdg : decode cc pc = .ok (.ifCond .ge off, 3)) (ht : (pc : Int) + off = (tgt : Int)) (kt : 0 ≤ a → W p l e R s m args below meth c H locs cells slots Q (F0 m tgt ls rest)) (kf : a < 0 → W p l e R s m args below meth c H locs cells slots Q (F0 m (pc + 3) ls rest)) : W p l e R s m args below meth c H locs cells slots Q (F0 m pc ls (.int (nI a) :: rest)) :=
  lv_if_ge hx hb hdg ht (fun q0 => kt (by have q := i_le.mp q0; rw [i_T qa, i_T0] at q; omega)) (fun q0 => kf (by have q := mt i_le.mpr q0; rw [i_T qa, i_T0] at q; omega))
theorem N_if_ge_R (hx : p.tables.exec = Jvm.exec) (hb : c.code = cc) {x : Int32} {off : Int} {tgt : Nat} (hdg : decode cc pc = .ok (.ifCond .ge off, 3)) (ht : (pc : Int) + off = (tgt : Int)) (kt : 0 ≤ x.toInt → W p l e R s m args below meth c H locs cells slots Q (F0 m tgt ls rest)) (kf : x.toInt < 0 → W p l e R s m args below meth c H locs cells slots Q (F0 m (pc + 3) ls rest)) : W p l e R s m args below meth c H locs cells slots Q (F0 m pc ls (.int x :: rest)) :=
  lv_if_ge hx hb hdg ht (fun q0 => kt (by have q := i_le.mp q0; rw [i_T0] at q; omega)) (fun q0 => kf (by have q := mt i_le.mpr q0; rw [i_T0] at q; omega))
theorem N_icmp_gt_NN (hx : p.tables.exec = Jvm.exec) (hb : c.code = cc) {a : Nat} (qa : a < 2 ^ 31) {b : Nat} (qb : b < 2 ^ 31) {off : Int} {tgt : Nat} (hdg : decode cc pc = .ok (.if_icmp .gt off, 3)) (ht : (pc : Int) + off = (tgt : Int)) (kt : b < a → W p l e R s m args below meth c H locs cells slots Q (F0 m tgt ls rest)) (kf : a ≤ b → W p l e R s m args below meth c H locs cells slots Q (F0 m (pc + 3) ls rest)) : W p l e R s m args below meth c H locs cells slots Q (F0 m pc ls (.int (nI b) :: .int (nI a) :: rest)) :=
  lv_icmp_gt hx hb hdg ht (fun q0 => kt (by have q := i_lt.mp q0; rw [i_T qa, i_T qb] at q; omega)) (fun q0 => kf (by have q := mt i_lt.mpr q0; rw [i_T qa, i_T qb] at q; omega))
theorem N_icmp_gt_RN (hx : p.tables.exec = Jvm.exec) (hb : c.code = cc) {x : Int32} {b : Nat} (qb : b < 2 ^ 31) {off : Int} {tgt : Nat} (hdg : decode cc pc = .ok (.if_icmp .gt off, 3)) (ht : (pc : Int) + off = (tgt : Int)) (kt : (b : Int) < x.toInt → W p l e R s m args below meth c H locs cells slots Q (F0 m tgt ls rest)) (kf : x.toInt ≤ (b : Int) → W p l e R s m args below meth c H locs cells slots Q (F0 m (pc + 3) ls rest)) : W p l e R s m args below meth c H locs cells slots Q (F0 m pc ls (.int (nI b) :: .int x :: rest)) :=
  lv_icmp_gt hx hb hdg ht (fun q0 => kt (by have q := i_lt.mp q0; rw [i_T qb] at q; omega)) (fun q0 => kf (by have q := mt i_lt.mpr q0; rw [i_T qb] at q; omega))
theorem N_icmp_gt_NR (hx : p.tables.exec = Jvm.exec) (hb : c.code = cc) {a : Nat} (qa : a < 2 ^ 31) {y : Int32} {off : Int} {tgt : Nat} (hdg : decode cc pc = .ok (.if_icmp .gt off, 3)) (ht : (pc : Int) + off = (tgt : Int)) (kt : y.toInt < (a : Int) → W p l e R s m args below meth c H locs cells slots Q (F0 m tgt ls rest)) (kf : (a : Int) ≤ y.toInt → W p l e R s m args below meth c H locs cells slots Q (F0 m (pc + 3) ls rest)) : W p l e R s m args below meth c H locs cells slots Q (F0 m pc ls (.int y :: .int (nI a) :: rest)) :=
  lv_icmp_gt hx hb hdg ht (fun q0 => kt (by have q := i_lt.mp q0; rw [i_T qa] at q; omega)) (fun q0 => kf (by have q := mt i_lt.mpr q0; rw [i_T qa] at q; omega))
theorem N_icmp_gt_RR (hx : p.tables.exec = Jvm.exec) (hb : c.code = cc) {x : Int32} {y : Int32} {off : Int} {tgt : Nat} (hdg : decode cc pc = .ok (.if_icmp .gt off, 3)) (ht : (pc : Int) + off = (tgt : Int)) (kt : y.toInt < x.toInt → W p l e R s m args below meth c H locs cells slots Q (F0 m tgt ls rest)) (kf : x.toInt ≤ y.toInt → W p l e R s m args below meth c H locs cells slots Q (F0 m (pc + 3) ls rest)) : W p l e R s m args below meth c H locs cells slots Q (F0 m pc ls (.int y :: .int x :: rest)) :=
  lv_icmp_gt hx hb hdg ht (fun q0 => kt (by have q := i_lt.mp q0; skip; omega)) (fun q0 => kf (by have q := mt i_lt.mpr q0; skip; omega))
theorem N_if_gt_N (hx : p.tables.exec = Jvm.exec) (hb : c.code = cc) {a : Nat} (qa : a < 2 ^ 31) {off : Int} {tgt : Nat} (hdg : decode cc pc = .ok (.ifCond .gt off, 3)) (ht : (pc : Int) + off = (tgt : Int)) (kt : 0 < a → W p l e R s m args below meth c H locs cells slots Q (F0 m tgt ls rest)) (kf : a ≤ 0 → W p l e R s m args below meth c H locs cells slots Q (F0 m (pc + 3) ls rest)) : W p l e R s m args below meth c H locs cells slots Q (F0 m pc ls (.int (nI a) :: rest)) :=
  lv_if_gt hx hb hdg ht (fun q0 => kt (by have q := i_lt.mp q0; rw [i_T qa, i_T0] at q; omega)) (fun q0 => kf (by have q := mt i_lt.mpr q0; rw [i_T qa, i_T0] at q; omega))
theorem N_if_gt_R (hx : p.tables.exec = Jvm.exec) (hb : c.code = cc) {x : Int32} {off : Int} {tgt : Nat} (hdg : decode cc pc = .ok (.ifCond .gt off, 3)) (ht : (pc : Int) + off = (tgt : Int)) (kt : 0 < x.toInt → W p l e R s m args below meth c H locs cells slots Q (F0 m tgt ls rest)) (kf : x.toInt ≤ 0 → W p l e R s m args below meth c H locs cells slots Q (F0 m (pc + 3) ls rest)) : W p l e R s m args below meth c H locs cells slots Q (F0 m pc ls (.int x :: rest)) :=
  lv_if_gt hx hb hdg ht (fun q0 => kt (by have q := i_lt.mp q0; rw [i_T0] at q; omega)) (fun q0 => kf (by have q := mt i_lt.mpr q0; rw [i_T0] at q; omega))
theorem N_icmp_le_NN (hx : p.tables.exec = Jvm.exec) (hb : c.code = cc) {a : Nat} (qa : a < 2 ^ 31) {b : Nat} (qb : b < 2 ^ 31) {off : Int} {tgt : Nat} (hdg : decode cc pc = .ok (.if_icmp .le off, 3)) (ht : (pc : Int) + off = (tgt : Int)) (kt : a ≤ b → W p l e R s m args below meth c H locs cells slots Q (F0 m tgt ls rest)) (kf : b < a → W p l e R s m args below meth c H locs cells slots Q (F0 m (pc + 3) ls rest)) : W p l e R s m args below meth c H locs cells slots Q (F0 m pc ls (.int (nI b) :: .int (nI a) :: rest)) :=
  lv_icmp_le hx hb hdg ht (fun q0 => kt (by have q := i_le.mp q0; rw [i_T qa, i_T qb] at q; omega)) (fun q0 => kf (by have q := mt i_le.mpr q0; rw [i_T qa, i_T qb] at q; omega))
theorem N_icmp_le_RN (hx : p.tables.exec = Jvm.exec) (hb : c.code = cc) {x : Int32} {b : Nat} (qb : b < 2 ^ 31) {off : Int} {tgt : Nat} (hdg : decode cc pc = .ok (.if_icmp .le off, 3)) (ht : (pc : Int) + off = (tgt : Int)) (kt : x.toInt ≤ (b : Int) → W p l e R s m args below meth c H locs cells slots Q (F0 m tgt ls rest)) (kf : (b : Int) < x.toInt → W p l e R s m args below meth c H locs cells slots Q (F0 m (pc + 3) ls rest)) : W p l e R s m args below meth c H locs cells slots Q (F0 m pc ls (.int (nI b) :: .int x :: rest)) :=
  lv_icmp_le hx hb hdg ht (fun q0 => kt (by have q := i_le.mp q0; rw [i_T qb] at q; omega)) (fun q0 => kf (by have q := mt i_le.mpr q0; rw [i_T qb] at q; omega))
theorem N_icmp_le_NR (hx : p.tables.exec = Jvm.exec) (hb : c.code = cc) {a : Nat} (qa : a < 2 ^ 31) {y : Int32} {off : Int} {tgt : Nat} (hdg : decode cc pc = .ok (.if_icmp .le off, 3)) (ht : (pc : Int) + off = (tgt : Int)) (kt : (a : Int) ≤ y.toInt → W p l e R s m args below meth c H locs cells slots Q (F0 m tgt ls rest)) (kf : y.toInt < (a : Int) → W p l e R s m args below meth c H locs cells slots Q (F0 m (pc + 3) ls rest)) : W p l e R s m args below meth c H locs cells slots Q (F0 m pc ls (.int y :: .int (nI a) :: rest)) :=
  lv_icmp_le hx hb hdg ht (fun q0 => kt (by have q := i_le.mp q0; rw [i_T qa] at q; omega)) (fun q0 => kf (by have q := mt i_le.mpr q0; rw [i_T qa] at q; omega))
theorem N_icmp_le_RR (hx : p.tables.exec = Jvm.exec) (hb : c.code = cc) {x : Int32} {y : Int32} {off : Int} {tgt : Nat} (hdg : decode cc pc = .ok (.if_icmp .le off, 3)) (ht : (pc : Int) + off = (tgt : Int)) (kt : x.toInt ≤ y.toInt → W p l e R s m args below meth c H locs cells slots Q (F0 m tgt ls rest)) (kf : y.toInt < x.toInt → W p l e R s m args below meth c H locs cells slots Q (F0 m (pc + 3) ls rest)) : W p l e R s m args below meth c H locs cells slots Q (F0 m pc ls (.int y :: .int x :: rest)) :=
  lv_icmp_le hx hb hdg ht (fun q0 => kt (by have q := i_le.mp q0; skip; omega)) (fun q0 => kf (by have q := mt i_le.mpr q0; skip; omega))
theorem N_if_le_N (hx : p.tables.exec = Jvm.exec) (hb : c.code = cc) {a : Nat} (qa : a < 2 ^ 31) {off : Int} {tgt : Nat} (hdg : decode cc pc = .ok (.ifCond .le off, 3)) (ht : (pc : Int) + off = (tgt : Int)) (kt : a ≤ 0 → W p l e R s m args below meth c H locs cells slots Q (F0 m tgt ls rest)) (kf : 0 < a → W p l e R s m args below meth c H locs cells slots Q (F0 m (pc + 3) ls rest)) : W p l e R s m args below meth c H locs cells slots Q (F0 m pc ls (.int (nI a) :: rest)) :=
  lv_if_le hx hb hdg ht (fun q0 => kt (by have q := i_le.mp q0; rw [i_T qa, i_T0] at q; omega)) (fun q0 => kf (by have q := mt i_le.mpr q0; rw [i_T qa, i_T0] at q; omega))
theorem N_if_le_R (hx : p.tables.exec = Jvm.exec) (hb : c.code = cc) {x : Int32} {off : Int} {tgt : Nat} (hdg : decode cc pc = .ok (.ifCond .le off, 3)) (ht : (pc : Int) + off = (tgt : Int)) (kt : x.toInt ≤ 0 → W p l e R s m args below meth c H locs cells slots Q (F0 m tgt ls rest)) (kf : 0 < x.toInt → W p l e R s m args below meth c H locs cells slots Q (F0 m (pc + 3) ls rest)) : W p l e R s m args below meth c H locs cells slots Q (F0 m pc ls (.int x :: rest)) :=
  lv_if_le hx hb hdg ht (fun q0 => kt (by have q := i_le.mp q0; rw [i_T0] at q; omega)) (fun q0 => kf (by have q := mt i_le.mpr q0; rw [i_T0] at q; omega))
theorem N_icmp_eq_NN (hx : p.tables.exec = Jvm.exec) (hb : c.code = cc) {a : Nat} (qa : a < 2 ^ 31) {b : Nat} (qb : b < 2 ^ 31) {off : Int} {tgt : Nat} (hdg : decode cc pc = .ok (.if_icmp .eq off, 3)) (ht : (pc : Int) + off = (tgt : Int)) (kt : a = b → W p l e R s m args below meth c H locs cells slots Q (F0 m tgt ls rest)) (kf : a ≠ b → W p l e R s m args below meth c H locs cells slots Q (F0 m (pc + 3) ls rest)) : W p l e R s m args below meth c H locs cells slots Q (F0 m pc ls (.int (nI b) :: .int (nI a) :: rest)) :=
  lv_icmp_eq hx hb hdg ht (fun q0 => kt (by have q := i_eq.mp q0; rw [i_T qa, i_T qb] at q; omega)) (fun q0 => kf (by have q := mt i_eq.mpr q0; rw [i_T qa, i_T qb] at q; omega))
theorem N_icmp_eq_RN (hx : p.tables.exec = Jvm.exec) (hb : c.code = cc) {x : Int32} {b : Nat} (qb : b < 2 ^ 31) {off : Int} {tgt : Nat} (hdg : decode cc pc = .ok (.if_icmp .eq off, 3)) (ht : (pc : Int) + off = (tgt : Int)) (kt : x.toInt = (b : Int) → W p l e R s m args below meth c H locs cells slots Q (F0 m tgt ls rest)) (kf : x.toInt ≠ (b : Int) → W p l e R s m args below meth c H locs cells slots Q (F0 m (pc + 3) ls rest)) : W p l e R s m args below meth c H locs cells slots Q (F0 m pc ls (.int (nI b) :: .int x :: rest)) :=
  lv_icmp_eq hx hb hdg ht (fun q0 => kt (by have q := i_eq.mp q0; rw [i_T qb] at q; omega)) (fun q0 => kf (by have q := mt i_eq.mpr q0; rw [i_T qb] at q; omega))
theorem N_icmp_eq_NR (hx : p.tables.exec = Jvm.exec) (hb : c.code = cc) {a : Nat} (qa : a < 2 ^ 31) {y : Int32} {off : Int} {tgt : Nat} (hdg : decode cc pc = .ok (.if_icmp .eq off, 3)) (ht : (pc : Int) + off = (tgt : Int)) (kt : (a : Int) = y.toInt → W p l e R s m args below meth c H locs cells slots Q (F0 m tgt ls rest)) (kf : (a : Int) ≠ y.toInt → W p l e R s m args below meth c H locs cells slots Q (F0 m (pc + 3) ls rest)) : W p l e R s m args below meth c H locs cells slots Q (F0 m pc ls (.int y :: .int (nI a) :: rest)) :=
  lv_icmp_eq hx hb hdg ht (fun q0 => kt (by have q := i_eq.mp q0; rw [i_T qa] at q; omega)) (fun q0 => kf (by have q := mt i_eq.mpr q0; rw [i_T qa] at q; omega))
theorem N_icmp_eq_RR (hx : p.tables.exec = Jvm.exec) (hb : c.code = cc) {x : Int32} {y : Int32} {off : Int} {tgt : Nat} (hdg : decode cc pc = .ok (.if_icmp .eq off, 3)) (ht : (pc : Int) + off = (tgt : Int)) (kt : x.toInt = y.toInt → W p l e R s m args below meth c H locs cells slots Q (F0 m tgt ls rest)) (kf : x.toInt ≠ y.toInt → W p l e R s m args below meth c H locs cells slots Q (F0 m (pc + 3) ls rest)) : W p l e R s m args below meth c H locs cells slots Q (F0 m pc ls (.int y :: .int x :: rest)) :=
  lv_icmp_eq hx hb hdg ht (fun q0 => kt (by have q := i_eq.mp q0; skip; omega)) (fun q0 => kf (by have q := mt i_eq.mpr q0; skip; omega))
theorem N_if_eq_N (hx : p.tables.exec = Jvm.exec) (hb : c.code = cc) {a : Nat} (qa : a < 2 ^ 31) {off : Int} {tgt : Nat} (hdg : decode cc pc = .ok (.ifCond .eq off, 3)) (ht : (pc : Int) + off = (tgt : Int)) (kt : a = 0 → W p l e R s m args below meth c H locs cells slots Q (F0 m tgt ls rest)) (kf : a ≠ 0 → W p l e R s m args below meth c H locs cells slots Q (F0 m (pc + 3) ls rest)) : W p l e R s m args below meth c H locs cells slots Q (F0 m pc ls (.int (nI a) :: rest)) :=
  lv_if_eq hx hb hdg ht (fun q0 => kt (by have q := i_eq.mp q0; rw [i_T qa, i_T0] at q; omega)) (fun q0 => kf (by have q := mt i_eq.mpr q0; rw [i_T qa, i_T0] at q; omega))
theorem N_if_eq_R (hx : p.tables.exec = Jvm.exec) (hb : c.code = cc) {x : Int32} {off : Int} {tgt : Nat} (hdg : decode cc pc = .ok (.ifCond .eq off, 3)) (ht : (pc : Int) + off = (tgt : Int)) (kt : x.toInt = 0 → W p l e R s m args below meth c H locs cells slots Q (F0 m tgt ls rest)) (kf : x.toInt ≠ 0 → W p l e R s m args below meth c H locs cells slots Q (F0 m (pc + 3) ls rest)) : W p l e R s m args below meth c H locs cells slots Q (F0 m pc ls (.int x :: rest)) :=
  lv_if_eq hx hb hdg ht (fun q0 => kt (by have q := i_eq.mp q0; rw [i_T0] at q; omega)) (fun q0 => kf (by have q := mt i_eq.mpr q0; rw [i_T0] at q; omega))
theorem N_icmp_ne_NN (hx : p.tables.exec = Jvm.exec) (hb : c.code = cc) {a : Nat} (qa : a < 2 ^ 31) {b : Nat} (qb : b < 2 ^ 31) {off : Int} {tgt : Nat} (hdg : decode cc pc = .ok (.if_icmp .ne off, 3)) (ht : (pc : Int) + off = (tgt : Int)) (kt : a ≠ b → W p l e R s m args below meth c H locs cells slots Q (F0 m tgt ls rest)) (kf : a = b → W p l e R s m args below meth c H locs cells slots Q (F0 m (pc + 3) ls rest)) : W p l e R s m args below meth c H locs cells slots Q (F0 m pc ls (.int (nI b) :: .int (nI a) :: rest)) :=
  lv_icmp_ne hx hb hdg ht (fun q0 => kt (fun q1 => q0 (i_eq.mpr (by rw [i_T qa, i_T qb]; omega)))) (fun q0 => kf (by have q := i_eq.mp q0; rw [i_T qa, i_T qb] at q; omega))
theorem N_icmp_ne_RN (hx : p.tables.exec = Jvm.exec) (hb : c.code = cc) {x : Int32} {b : Nat} (qb : b < 2 ^ 31) {off : Int} {tgt : Nat} (hdg : decode cc pc = .ok (.if_icmp .ne off, 3)) (ht : (pc : Int) + off = (tgt : Int)) (kt : x.toInt ≠ (b : Int) → W p l e R s m args below meth c H locs cells slots Q (F0 m tgt ls rest)) (kf : x.toInt = (b : Int) → W p l e R s m args below meth c H locs cells slots Q (F0 m (pc + 3) ls rest)) : W p l e R s m args below meth c H locs cells slots Q (F0 m pc ls (.int (nI b) :: .int x :: rest)) :=
  lv_icmp_ne hx hb hdg ht (fun q0 => kt (fun q1 => q0 (i_eq.mpr (by rw [i_T qb]; omega)))) (fun q0 => kf (by have q := i_eq.mp q0; rw [i_T qb] at q; omega))
theorem N_icmp_ne_NR (hx : p.tables.exec = Jvm.exec) (hb : c.code = cc) {a : Nat} (qa : a < 2 ^ 31) {y : Int32} {off : Int} {tgt : Nat} (hdg : decode cc pc = .ok (.if_icmp .ne off, 3)) (ht : (pc : Int) + off = (tgt : Int)) (kt : (a : Int) ≠ y.toInt → W p l e R s m args below meth c H locs cells slots Q (F0 m tgt ls rest)) (kf : (a : Int) = y.toInt → W p l e R s m args below meth c H locs cells slots Q (F0 m (pc + 3) ls rest)) : W p l e R s m args below meth c H locs cells slots Q (F0 m pc ls (.int y :: .int (nI a) :: rest)) :=
  lv_icmp_ne hx hb hdg ht (fun q0 => kt (fun q1 => q0 (i_eq.mpr (by rw [i_T qa]; omega)))) (fun q0 => kf (by have q := i_eq.mp q0; rw [i_T qa] at q; omega))
theorem N_icmp_ne_RR (hx : p.tables.exec = Jvm.exec) (hb : c.code = cc) {x : Int32} {y : Int32} {off : Int} {tgt : Nat} (hdg : decode cc pc = .ok (.if_icmp .ne off, 3)) (ht : (pc : Int) + off = (tgt : Int)) (kt : x.toInt ≠ y.toInt → W p l e R s m args below meth c H locs cells slots Q (F0 m tgt ls rest)) (kf : x.toInt = y.toInt → W p l e R s m args below meth c H locs cells slots Q (F0 m (pc + 3) ls rest)) : W p l e R s m args below meth c H locs cells slots Q (F0 m pc ls (.int y :: .int x :: rest)) :=
  lv_icmp_ne hx hb hdg ht (fun q0 => kt (fun q1 => q0 (i_eq.mpr (by omega)))) (fun q0 => kf (by have q := i_eq.mp q0; skip; omega))
theorem N_if_ne_N (hx : p.tables.exec = Jvm.exec) (hb : c.code = cc) {a : Nat} (qa : a < 2 ^ 31) {off : Int} {tgt : Nat} (hdg : decode cc pc = .ok (.ifCond .ne off, 3)) (ht : (pc : Int) + off = (tgt : Int)) (kt : a ≠ 0 → W p l e R s m args below meth c H locs cells slots Q (F0 m tgt ls rest)) (kf : a = 0 → W p l e R s m args below meth c H locs cells slots Q (F0 m (pc + 3) ls rest)) : W p l e R s m args below meth c H locs cells slots Q (F0 m pc ls (.int (nI a) :: rest)) :=
  lv_if_ne hx hb hdg ht (fun q0 => kt (fun q1 => q0 (i_eq.mpr (by rw [i_T qa, i_T0]; omega)))) (fun q0 => kf (by have q := i_eq.mp q0; rw [i_T qa, i_T0] at q; omega))
theorem N_if_ne_R (hx : p.tables.exec = Jvm.exec) (hb : c.code = cc) {x : Int32} {off : Int} {tgt : Nat} (hdg : decode cc pc = .ok (.ifCond .ne off, 3)) (ht : (pc : Int) + off = (tgt : Int)) (kt : x.toInt ≠ 0 → W p l e R s m args below meth c H locs cells slots Q (F0 m tgt ls rest)) (kf : x.toInt = 0 → W p l e R s m args below meth c H locs cells slots Q (F0 m (pc + 3) ls rest)) : W p l e R s m args below meth c H locs cells slots Q (F0 m pc ls (.int x :: rest)) :=
  lv_if_ne hx hb hdg ht (fun q0 => kt (fun q1 => q0 (i_eq.mpr (by rw [i_T0]; omega)))) (fun q0 => kf (by have q := i_eq.mp q0; rw [i_T0] at q; omega))
theorem N_if_eq_B (hx : p.tables.exec = Jvm.exec) (hb : c.code = cc) {b : Bool} {off : Int} {tgt : Nat} (hdg : decode cc pc = .ok (.ifCond .eq off, 3)) (ht : (pc : Int) + off = (tgt : Int)) (kt : b = false → W p l e R s m args below meth c H locs cells slots Q (F0 m tgt ls rest)) (kf : b = true → W p l e R s m args below meth c H locs cells slots Q (F0 m (pc + 3) ls rest)) : W p l e R s m args below meth c H locs cells slots Q (F0 m pc ls (.int (bI b) :: rest)) :=
  lv_if_eq hx hb hdg ht (fun q => kt (bI_0.mp q)) (fun q => kf (by cases b with | true => rfl | false => exact absurd rfl q))
theorem N_if_ne_B (hx : p.tables.exec = Jvm.exec) (hb : c.code = cc) {b : Bool} {off : Int} {tgt : Nat} (hdg : decode cc pc = .ok (.ifCond .ne off, 3)) (ht : (pc : Int) + off = (tgt : Int)) (kt : b = true → W p l e R s m args below meth c H locs cells slots Q (F0 m tgt ls rest)) (kf : b = false → W p l e R s m args below meth c H locs cells slots Q (F0 m (pc + 3) ls rest)) : W p l e R s m args below meth c H locs cells slots Q (F0 m pc ls (.int (bI b) :: rest)) :=
  lv_if_ne hx hb hdg ht (fun q => kt (by cases b with | true => rfl | false => exact absurd rfl q)) (fun q => kf (bI_0.mp q))
theorem oI_m1 {o : Option Nat} (ho : ∀ n, o = some n → n < 2 ^ 31) : oI o = -1 ↔ o = none := by
  cases o with
  | none => exact ⟨fun _ => rfl, fun _ => rfl⟩
  | some n =>
    refine ⟨fun h => ?_, fun h => by cases h⟩
    have h1 : nI n = -1 := h
    have h2 := i_eq.mp h1
    rw [i_T (ho n rfl), i_Tm1] at h2
    omega
theorem N_icmp_eq_Om (hx : p.tables.exec = Jvm.exec) (hb : c.code = cc) {o : Option Nat} (ho : ∀ n, o = some n → n < 2 ^ 31) {off : Int} {tgt : Nat} (hdg : decode cc pc = .ok (.if_icmp .eq off, 3)) (ht : (pc : Int) + off = (tgt : Int)) (kt : o = none → W p l e R s m args below meth c H locs cells slots Q (F0 m tgt ls rest)) (kf : o ≠ none → W p l e R s m args below meth c H locs cells slots Q (F0 m (pc + 3) ls rest)) : W p l e R s m args below meth c H locs cells slots Q (F0 m pc ls (.int (-1) :: .int (oI o) :: rest)) :=
  lv_icmp_eq hx hb hdg ht (fun q => kt ((oI_m1 ho).mp q)) (fun q => kf (fun z => q ((oI_m1 ho).mpr z)))
theorem N_icmp_ne_Om (hx : p.tables.exec = Jvm.exec) (hb : c.code = cc) {o : Option Nat} (ho : ∀ n, o = some n → n < 2 ^ 31) {off : Int} {tgt : Nat} (hdg : decode cc pc = .ok (.if_icmp .ne off, 3)) (ht : (pc : Int) + off = (tgt : Int)) (kt : o ≠ none → W p l e R s m args below meth c H locs cells slots Q (F0 m tgt ls rest)) (kf : o = none → W p l e R s m args below meth c H locs cells slots Q (F0 m (pc + 3) ls rest)) : W p l e R s m args below meth c H locs cells slots Q (F0 m pc ls (.int (-1) :: .int (oI o) :: rest)) :=
  lv_icmp_ne hx hb hdg ht (fun q => kt (fun z => q ((oI_m1 ho).mpr z))) (fun q => kf ((oI_m1 ho).mp q))
theorem N_icmp_eq_BB (hx : p.tables.exec = Jvm.exec) (hb : c.code = cc) {a b : Bool} {off : Int} {tgt : Nat} (hdg : decode cc pc = .ok (.if_icmp .eq off, 3)) (ht : (pc : Int) + off = (tgt : Int)) (kt : a = b → W p l e R s m args below meth c H locs cells slots Q (F0 m tgt ls rest)) (kf : a ≠ b → W p l e R s m args below meth c H locs cells slots Q (F0 m (pc + 3) ls rest)) : W p l e R s m args below meth c H locs cells slots Q (F0 m pc ls (.int (bI b) :: .int (bI a) :: rest)) :=
  lv_icmp_eq hx hb hdg ht (fun q => kt (bI_inj.mp q)) (fun q => kf (fun z => q (bI_inj.mpr z)))
theorem N_icmp_ne_BB (hx : p.tables.exec = Jvm.exec) (hb : c.code = cc) {a b : Bool} {off : Int} {tgt : Nat} (hdg : decode cc pc = .ok (.if_icmp .ne off, 3)) (ht : (pc : Int) + off = (tgt : Int)) (kt : a ≠ b → W p l e R s m args below meth c H locs cells slots Q (F0 m tgt ls rest)) (kf : a = b → W p l e R s m args below meth c H locs cells slots Q (F0 m (pc + 3) ls rest)) : W p l e R s m args below meth c H locs cells slots Q (F0 m pc ls (.int (bI b) :: .int (bI a) :: rest)) :=
  lv_icmp_ne hx hb hdg ht (fun q => kt (fun z => q (bI_inj.mpr z))) (fun q => kf (bI_inj.mp q))
theorem N_iadd (hx : p.tables.exec = Jvm.exec) (hb : c.code = cc) {a b : Nat}  (hdg : decode cc pc = .ok (.iadd, 1)) (kk : W p l e R s m args below meth c H locs cells slots Q (F0 m (pc + 1) ls (.int (nI (a + b)) :: rest))) : W p l e R s m args below meth c H locs cells slots Q (F0 m pc ls (.int (nI b) :: .int (nI a) :: rest)) := by
  refine lv_iadd hx hb hdg ?_
  rw [nI_add]
  exact kk
theorem N_isub (hx : p.tables.exec = Jvm.exec) (hb : c.code = cc) {a b : Nat} {r : Nat} (h : b ≤ a) (hr : a - b = r) (hdg : decode cc pc = .ok (.isub, 1)) (kk : W p l e R s m args below meth c H locs cells slots Q (F0 m (pc + 1) ls (.int (nI r) :: rest))) : W p l e R s m args below meth c H locs cells slots Q (F0 m pc ls (.int (nI b) :: .int (nI a) :: rest)) := by
  refine lv_isub hx hb hdg ?_
  rw [pk_sub h, hr]
  exact kk
theorem N_imul (hx : p.tables.exec = Jvm.exec) (hb : c.code = cc) {a b : Nat}  (hdg : decode cc pc = .ok (.imul, 1)) (kk : W p l e R s m args below meth c H locs cells slots Q (F0 m (pc + 1) ls (.int (nI (a * b)) :: rest))) : W p l e R s m args below meth c H locs cells slots Q (F0 m pc ls (.int (nI b) :: .int (nI a) :: rest)) := by
  refine lv_imul hx hb hdg ?_
  rw [pk_mul]
  exact kk
theorem N_idiv (hx : p.tables.exec = Jvm.exec) (hb : c.code = cc) {a b : Nat} (ha : a < 2 ^ 31) (h0 : 0 < b) (hb2 : b < 2 ^ 31) (hdg : decode cc pc = .ok (.idiv, 1)) (kk : W p l e R s m args below meth c H locs cells slots Q (F0 m (pc + 1) ls (.int (nI (a / b)) :: rest))) : W p l e R s m args below meth c H locs cells slots Q (F0 m pc ls (.int (nI b) :: .int (nI a) :: rest)) := by
  refine lv_idiv hx hb hdg (by exact nI_ne0 h0 hb2) ?_
  rw [pk_div ha h0 hb2]
  exact kk
theorem N_ladd (hx : p.tables.exec = Jvm.exec) (hb : c.code = cc) {a b : Nat}  (hdg : decode cc pc = .ok (.ladd, 1)) (kk : W p l e R s m args below meth c H locs cells slots Q (F0 m (pc + 1) ls (.long (lN (a + b)) :: rest))) : W p l e R s m args below meth c H locs cells slots Q (F0 m pc ls (.long (lN b) :: .long (lN a) :: rest)) := by
  refine lv_ladd hx hb hdg ?_
  rw [lN_add]
  exact kk
theorem N_lmul (hx : p.tables.exec = Jvm.exec) (hb : c.code = cc) {a b : Nat}  (hdg : decode cc pc = .ok (.lmul, 1)) (kk : W p l e R s m args below meth c H locs cells slots Q (F0 m (pc + 1) ls (.long (lN (a * b)) :: rest))) : W p l e R s m args below meth c H locs cells slots Q (F0 m pc ls (.long (lN b) :: .long (lN a) :: rest)) := by
  refine lv_lmul hx hb hdg ?_
  rw [lN_mul]
  exact kk
theorem N_i2l (hx : p.tables.exec = Jvm.exec) (hb : c.code = cc) {a : Nat} (h : a < 2 ^ 31) (hdg : decode cc pc = .ok (.i2l, 1)) (kk : W p l e R s m args below meth c H locs cells slots Q (F0 m (pc + 1) ls (.long (lN a) :: rest))) : W p l e R s m args below meth c H locs cells slots Q (F0 m pc ls (.int (nI a) :: rest)) := lv_i2l hx hb hdg (nI_l h) kk
theorem N_inc (a : Nat) : nI a + Int32.ofInt 1 = nI (a + 1) := (nI_succ a).symm
theorem N_dec {a r : Nat} (h : 0 < a) (hr : a - 1 = r) : nI a + Int32.ofInt (-1) = nI r := by subst hr; exact sb_m1 h
theorem lc_of {a b : Nat} (ha : a < 2 ^ 63) (hb : b < 2 ^ 63) : lg_cmp (lN a) (lN b) = if b < a then 1 else if a = b then 0 else -1 := by
  unfold lg_cmp
  simp only [pk_lLT hb ha, pk_lEQ ha hb]
  try (by_cases h1 : b < a <;> by_cases h2 : a = b <;> simp [h1, h2] <;> omega)
theorem N_lcmp_lt (hx : p.tables.exec = Jvm.exec) (hb : c.code = cc) {a b : Nat} (ha : a < 2 ^ 63) (hb2 : b < 2 ^ 63) {off : Int} {tgt : Nat} (hd1 : decode cc pc = .ok (.lcmp, 1)) (hd2 : decode cc (pc + 1) = .ok (.ifCond .lt off, 3)) (ht : ((pc + 1 : Nat) : Int) + off = (tgt : Int)) (kt : a < b → W p l e R s m args below meth c H locs cells slots Q (F0 m tgt ls rest)) (kf : b ≤ a → W p l e R s m args below meth c H locs cells slots Q (F0 m (pc + 1 + 3) ls rest)) : W p l e R s m args below meth c H locs cells slots Q (F0 m pc ls (.long (lN b) :: .long (lN a) :: rest)) := by
  refine W.lcmp hx hb hd1 ?_
  rw [lc_of ha hb2]
  have e1 : (1 : Int32).toInt = 1 := by decide +kernel
  refine lv_if_lt hx hb hd2 ht (fun q => kt ?_) (fun q => kf ?_)
  all_goals
    by_cases h1 : b < a
    · simp only [h1, if_true, i_le, i_lt, i_eq, i_T0, e1] at q
      first | omega | (exfalso; exact absurd q (by decide)) | (intro; omega)
    · by_cases h2 : a = b
      · simp only [h1, h2, if_true, if_false, Nat.lt_irrefl, i_le, i_lt, i_eq, i_T0] at q
        first | omega | (exfalso; exact absurd q (by decide)) | (intro; omega)
      · simp only [h1, h2, if_true, if_false, i_le, i_lt, i_eq, i_T0, i_Tm1] at q
        first | omega | (exfalso; exact absurd q (by decide)) | (intro; omega)
theorem N_lcmp_ge (hx : p.tables.exec = Jvm.exec) (hb : c.code = cc) {a b : Nat} (ha : a < 2 ^ 63) (hb2 : b < 2 ^ 63) {off : Int} {tgt : Nat} (hd1 : decode cc pc = .ok (.lcmp, 1)) (hd2 : decode cc (pc + 1) = .ok (.ifCond .ge off, 3)) (ht : ((pc + 1 : Nat) : Int) + off = (tgt : Int)) (kt : b ≤ a → W p l e R s m args below meth c H locs cells slots Q (F0 m tgt ls rest)) (kf : a < b → W p l e R s m args below meth c H locs cells slots Q (F0 m (pc + 1 + 3) ls rest)) : W p l e R s m args below meth c H locs cells slots Q (F0 m pc ls (.long (lN b) :: .long (lN a) :: rest)) := by
  refine W.lcmp hx hb hd1 ?_
  rw [lc_of ha hb2]
  have e1 : (1 : Int32).toInt = 1 := by decide +kernel
  refine lv_if_ge hx hb hd2 ht (fun q => kt ?_) (fun q => kf ?_)
  all_goals
    by_cases h1 : b < a
    · simp only [h1, if_true, i_le, i_lt, i_eq, i_T0, e1] at q
      first | omega | (exfalso; exact absurd q (by decide)) | (intro; omega)
    · by_cases h2 : a = b
      · simp only [h1, h2, if_true, if_false, Nat.lt_irrefl, i_le, i_lt, i_eq, i_T0] at q
        first | omega | (exfalso; exact absurd q (by decide)) | (intro; omega)
      · simp only [h1, h2, if_true, if_false, i_le, i_lt, i_eq, i_T0, i_Tm1] at q
        first | omega | (exfalso; exact absurd q (by decide)) | (intro; omega)
theorem N_lcmp_gt (hx : p.tables.exec = Jvm.exec) (hb : c.code = cc) {a b : Nat} (ha : a < 2 ^ 63) (hb2 : b < 2 ^ 63) {off : Int} {tgt : Nat} (hd1 : decode cc pc = .ok (.lcmp, 1)) (hd2 : decode cc (pc + 1) = .ok (.ifCond .gt off, 3)) (ht : ((pc + 1 : Nat) : Int) + off = (tgt : Int)) (kt : b < a → W p l e R s m args below meth c H locs cells slots Q (F0 m tgt ls rest)) (kf : a ≤ b → W p l e R s m args below meth c H locs cells slots Q (F0 m (pc + 1 + 3) ls rest)) : W p l e R s m args below meth c H locs cells slots Q (F0 m pc ls (.long (lN b) :: .long (lN a) :: rest)) := by
  refine W.lcmp hx hb hd1 ?_
  rw [lc_of ha hb2]
  have e1 : (1 : Int32).toInt = 1 := by decide +kernel
  refine lv_if_gt hx hb hd2 ht (fun q => kt ?_) (fun q => kf ?_)
  all_goals
    by_cases h1 : b < a
    · simp only [h1, if_true, i_le, i_lt, i_eq, i_T0, e1] at q
      first | omega | (exfalso; exact absurd q (by decide)) | (intro; omega)
    · by_cases h2 : a = b
      · simp only [h1, h2, if_true, if_false, Nat.lt_irrefl, i_le, i_lt, i_eq, i_T0] at q
        first | omega | (exfalso; exact absurd q (by decide)) | (intro; omega)
      · simp only [h1, h2, if_true, if_false, i_le, i_lt, i_eq, i_T0, i_Tm1] at q
        first | omega | (exfalso; exact absurd q (by decide)) | (intro; omega)
theorem N_lcmp_le (hx : p.tables.exec = Jvm.exec) (hb : c.code = cc) {a b : Nat} (ha : a < 2 ^ 63) (hb2 : b < 2 ^ 63) {off : Int} {tgt : Nat} (hd1 : decode cc pc = .ok (.lcmp, 1)) (hd2 : decode cc (pc + 1) = .ok (.ifCond .le off, 3)) (ht : ((pc + 1 : Nat) : Int) + off = (tgt : Int)) (kt : a ≤ b → W p l e R s m args below meth c H locs cells slots Q (F0 m tgt ls rest)) (kf : b < a → W p l e R s m args below meth c H locs cells slots Q (F0 m (pc + 1 + 3) ls rest)) : W p l e R s m args below meth c H locs cells slots Q (F0 m pc ls (.long (lN b) :: .long (lN a) :: rest)) := by
  refine W.lcmp hx hb hd1 ?_
  rw [lc_of ha hb2]
  have e1 : (1 : Int32).toInt = 1 := by decide +kernel
  refine lv_if_le hx hb hd2 ht (fun q => kt ?_) (fun q => kf ?_)
  all_goals
    by_cases h1 : b < a
    · simp only [h1, if_true, i_le, i_lt, i_eq, i_T0, e1] at q
      first | omega | (exfalso; exact absurd q (by decide)) | (intro; omega)
    · by_cases h2 : a = b
      · simp only [h1, h2, if_true, if_false, Nat.lt_irrefl, i_le, i_lt, i_eq, i_T0] at q
        first | omega | (exfalso; exact absurd q (by decide)) | (intro; omega)
      · simp only [h1, h2, if_true, if_false, i_le, i_lt, i_eq, i_T0, i_Tm1] at q
        first | omega | (exfalso; exact absurd q (by decide)) | (intro; omega)
theorem N_lcmp_eq (hx : p.tables.exec = Jvm.exec) (hb : c.code = cc) {a b : Nat} (ha : a < 2 ^ 63) (hb2 : b < 2 ^ 63) {off : Int} {tgt : Nat} (hd1 : decode cc pc = .ok (.lcmp, 1)) (hd2 : decode cc (pc + 1) = .ok (.ifCond .eq off, 3)) (ht : ((pc + 1 : Nat) : Int) + off = (tgt : Int)) (kt : a = b → W p l e R s m args below meth c H locs cells slots Q (F0 m tgt ls rest)) (kf : a ≠ b → W p l e R s m args below meth c H locs cells slots Q (F0 m (pc + 1 + 3) ls rest)) : W p l e R s m args below meth c H locs cells slots Q (F0 m pc ls (.long (lN b) :: .long (lN a) :: rest)) := by
  refine W.lcmp hx hb hd1 ?_
  rw [lc_of ha hb2]
  have e1 : (1 : Int32).toInt = 1 := by decide +kernel
  refine lv_if_eq hx hb hd2 ht (fun q => kt ?_) (fun q => kf ?_)
  all_goals
    by_cases h1 : b < a
    · simp only [h1, if_true, i_le, i_lt, i_eq, i_T0, e1] at q
      first | omega | (exfalso; exact absurd q (by decide)) | (intro; omega)
    · by_cases h2 : a = b
      · simp only [h1, h2, if_true, if_false, Nat.lt_irrefl, i_le, i_lt, i_eq, i_T0] at q
        first | omega | (exfalso; exact absurd q (by decide)) | (intro; omega)
      · simp only [h1, h2, if_true, if_false, i_le, i_lt, i_eq, i_T0, i_Tm1] at q
        first | omega | (exfalso; exact absurd q (by decide)) | (intro; omega)
theorem N_lcmp_ne (hx : p.tables.exec = Jvm.exec) (hb : c.code = cc) {a b : Nat} (ha : a < 2 ^ 63) (hb2 : b < 2 ^ 63) {off : Int} {tgt : Nat} (hd1 : decode cc pc = .ok (.lcmp, 1)) (hd2 : decode cc (pc + 1) = .ok (.ifCond .ne off, 3)) (ht : ((pc + 1 : Nat) : Int) + off = (tgt : Int)) (kt : a ≠ b → W p l e R s m args below meth c H locs cells slots Q (F0 m tgt ls rest)) (kf : a = b → W p l e R s m args below meth c H locs cells slots Q (F0 m (pc + 1 + 3) ls rest)) : W p l e R s m args below meth c H locs cells slots Q (F0 m pc ls (.long (lN b) :: .long (lN a) :: rest)) := by
  refine W.lcmp hx hb hd1 ?_
  rw [lc_of ha hb2]
  have e1 : (1 : Int32).toInt = 1 := by decide +kernel
  refine lv_if_ne hx hb hd2 ht (fun q => kt ?_) (fun q => kf ?_)
  all_goals
    by_cases h1 : b < a
    · simp only [h1, if_true, i_le, i_lt, i_eq, i_T0, e1] at q
      first | omega | (exfalso; exact absurd q (by decide)) | (intro; omega)
    · by_cases h2 : a = b
      · simp only [h1, h2, if_true, if_false, Nat.lt_irrefl, i_le, i_lt, i_eq, i_T0] at q
        first | omega | (exfalso; exact absurd q (by decide)) | (intro; omega)
      · simp only [h1, h2, if_true, if_false, i_le, i_lt, i_eq, i_T0, i_Tm1] at q
        first | omega | (exfalso; exact absurd q (by decide)) | (intro; omega)
end NROWS
end
section
/-! SPEC1: what the class's small methods compute, as functions of the cells' numbers -/
section SPEC1
def inB (x : Int32) (n : Nat) : Bool := decide (0 ≤ x.toInt ∧ x.toInt < n)
theorem inB_t {x : Int32} {n : Nat} (h : 0 ≤ x.toInt ∧ x.toInt < n) : inB x n = true := decide_eq_true h
theorem inB_f {x : Int32} {n : Nat} (h : ¬ (0 ≤ x.toInt ∧ x.toInt < n)) : inB x n = false := decide_eq_false h
/-- how many of 0 .. n - 1 -/
def cntF (P : Nat → Bool) : Nat → Nat
  | 0 => 0
  | k + 1 => cntF P k + (if P k = true then 1 else 0)
theorem cntF_le (P : Nat → Bool) : ∀ n, cntF P n ≤ n
  | 0 => Nat.le_refl 0
  | k + 1 => by
    have := cntF_le P k
    unfold cntF
    split <;> omega
/-- the first of i .. i + n - 1 -/
def fstG (P : Nat → Bool) : Nat → Nat → Option Nat
  | 0, _ => none
  | n + 1, i => if P i = true then some i else fstG P n (i + 1)
def anyG (P : Nat → Bool) : Nat → Nat → Bool
  | 0, _ => false
  | n + 1, i => if P i = true then true else anyG P n (i + 1)
/-- zeros, or nones, in the first k places -/
def upK {α : Type} (z : α) : Nat → (Nat → α) → Nat → α
  | 0, f => f
  | k + 1, f => va_up (upK z k f) k z
def alk (sco tim : Nat → Nat) (t : Bool) (a b : Nat) : Bool := decide (sco a = sco b ∧ (t = true → tim a = tim b))
def ahd (sco tim : Nat → Nat) (t : Bool) (a b : Nat) : Bool := decide (sco b < sco a ∨ (sco a = sco b ∧ t = true ∧ tim a < tim b))
def hmb (sco tim : Nat → Nat) (ne : Nat) (t : Bool) (x : Nat) : Nat := cntF (fun k => ahd sco tim t k x) ne + cntF (fun k => alk sco tim t k x) x
/-- the insertion of v from place k down -/
def insG (lt : Nat → Nat → Bool) (v : Nat) : Nat → (Nat → Nat) → Nat → Nat
  | 0, fa => va_up fa 0 v
  | k + 1, fa => if lt (fa k) v = true then insG lt v k (va_up fa (k + 1) (fa k)) else va_up fa (k + 1) v
def ltD (gr : Nat → Nat) (a b : Nat) : Bool := decide (gr a < gr b)
def ltT (sec : Nat → Nat) (a b : Nat) : Bool := decide (sec b < sec a)
def rchG (g : Nat) : Nat → (Nat → Bool) → Nat → Bool
  | 0, re => re
  | k + 1, re => if k + 1 < g then re else rchG g k (if re (k + 1 - g) = true then va_up re (k + 1) true else re)
def lowG (re : Nat → Bool) : Nat → Nat
  | 0 => 0
  | k + 1 => if re (k + 1) = true then k + 1 else lowG re k
def lsG (ss sc : Nat → Nat) : Nat → Nat → Nat → Nat
  | 0, _, b => b
  | n + 1, i, b => lsG ss sc n (i + 1) (if ss i < ss b ∨ (ss i = ss b ∧ sc i < sc b) then i else b)
def lsF (ss sc : Nat → Nat) (k : Nat) : Nat := lsG ss sc (k - 1) 1 0
theorem lsG_lt (ss sc : Nat → Nat) : ∀ n i b, b < i + n → 0 < i → lsG ss sc n i b < i + n
  | 0, _, _, h, _ => h
  | n + 1, i, b, h, h0 => by
    unfold lsG
    have := lsG_lt ss sc n (i + 1) (if ss i < ss b ∨ (ss i = ss b ∧ sc i < sc b) then i else b) (by split <;> omega) (by omega)
    omega
theorem lsF_lt {ss sc : Nat → Nat} {k : Nat} (h : 1 ≤ k) : lsF ss sc k < k := by
  have := lsG_lt ss sc (k - 1) 1 0 (by omega) (by omega)
  unfold lsF
  omega
def setG (gr fa : Nat → Nat) (sets q : Nat) : Nat → Nat → (Nat → Nat) → (Nat → Nat) → Option Nat × (Nat → Nat) × (Nat → Nat)
  | 0, _, ss, sc => (none, ss, sc)
  | n + 1, i, ss, sc => if fa i = q then (some (lsF ss sc sets), ss, sc) else setG gr fa sets q n (i + 1) (va_up ss (lsF ss sc sets) (ss (lsF ss sc sets) + gr (fa i))) (va_up sc (lsF ss sc sets) (sc (lsF ss sc sets) + 1))
def setF (gr fa ss sc : Nat → Nat) (np sets q : Nat) : Option Nat × (Nat → Nat) × (Nat → Nat) := setG gr fa sets q np 0 (upK 0 6 ss) (upK 0 6 sc)
def twn (sq ans : Nat → Nat) (rt : Nat → Bool) (a b : Nat) : Bool := decide (rt b = false ∧ sq b = sq a ∧ ans b = ans a)
def twG (sp sq ans : Nat → Nat) (rt : Nat → Bool) (a : Nat) : Nat → Nat → (Nat → Option Nat) → Nat → Option Nat
  | 0, _, tw => tw
  | n + 1, i, tw => twG sp sq ans rt a n (i + 1) (if tw (sp i) = none ∧ twn sq ans rt a i = true then va_up tw (sp i) (some i) else tw)
def dst (x y : Nat) : Nat := if y ≤ x then x - y else y - x
def wth (nw : Nat → Nat) (g s w : Nat) : Nat := g * nw 0 - g * nw 1 * (s / 60) - nw 2 * w
def cpyN (n : Nat) (f g : Nat → Nat) : Nat → Nat := fun k => if k < n then f k else g k
def eodG (un : Nat → Nat) (tl fr : Nat) : Nat → Nat → Nat
  | 0, e => e
  | n + 1, e => if e < tl ∧ e < fr + 4 ∧ 48 ≤ un e ∧ un e ≤ 57 then eodG un tl fr n (e + 1) else e
def numG (un : Nat → Nat) : Nat → Nat → Nat → Nat
  | 0, _, v => v
  | n + 1, i, v => numG un n (i + 1) (v * 10 + (un i - 48))
end SPEC1
section SPEC1B
theorem hmb_lt (sco tim : Nat → Nat) (ne : Nat) (t : Bool) (x : Nat) : hmb sco tim ne t x ≤ ne + x := by
  have h1 := cntF_le (fun k => ahd sco tim t k x) ne
  have h2 := cntF_le (fun k => alk sco tim t k x) x
  unfold hmb
  omega
theorem upK_lt {α : Type} (z : α) : ∀ (n : Nat) (f : Nat → α) (i : Nat), i < n → upK z n f i = z
  | 0, _, _, h => absurd h (Nat.not_lt_zero _)
  | n + 1, f, i, h => by
    unfold upK va_up
    by_cases q : i = n
    · rw [if_pos q]
    · rw [if_neg q]; exact upK_lt z n f i (by omega)
theorem absN {x y : Nat} (hx : x ≤ 1000000) (hy : y ≤ 1000000) : (if 0 ≤ nI x - nI y then nI x - nI y else 0 - (nI x - nI y)) = nI (dst x y) := by
  have e := pk_sub_toInt (a := x) (b := y) (by omega) (by omega)
  have i0 : (0 : Int32).toInt = 0 := by decide +kernel
  unfold dst
  by_cases h : y ≤ x
  · rw [if_pos h, if_pos (Int32.le_iff_toInt_le.mpr (by rw [e, i0]; omega)), pk_sub h]
  · rw [if_neg h, if_neg (fun q => h (by have := Int32.le_iff_toInt_le.mp q; rw [e, i0] at this; omega))]
    rw [← pk_sub (show x ≤ y by omega)]
    have : (0 : Int32) - (nI x - nI y) = nI y - nI x := by
      rw [Int32.zero_sub, Int32.neg_sub]
    exact this
theorem mul_le3 {a b c A B C : Nat} (h1 : a ≤ A) (h2 : b ≤ B) (h3 : c ≤ C) : a * b * c ≤ A * B * C := Nat.mul_le_mul (Nat.mul_le_mul h1 h2) h3
theorem lN_ofInt (n : Nat) : lN n = Int64.ofInt (n : Int) := by
  unfold lN
  rw [Int64.ofInt_eq_ofNat]
theorem wth_max {nw : Nat → Nat} {g x w : Nat} (hg : g ≤ 100) (hx : x ≤ 1000000) (hw : w ≤ 300) (h0 : nw 0 ≤ 9999) (h1 : nw 1 ≤ 9999) (h2 : nw 2 ≤ 9999) : (if lN (g * nw 0) - lN (g * nw 1 * (x / 60)) - lN (nw 2 * w) < lN 0 then lN 0 else lN (g * nw 0) - lN (g * nw 1 * (x / 60)) - lN (nw 2 * w)) = lN (wth nw g x w) := by
  have b1 : g * nw 0 ≤ 100 * 9999 := Nat.mul_le_mul hg h0
  have b2 : g * nw 1 * (x / 60) ≤ 100 * 9999 * 16667 := mul_le3 hg h1 (by omega)
  have b3 : nw 2 * w ≤ 9999 * 300 := Nat.mul_le_mul h2 hw
  unfold wth
  generalize g * nw 0 = a at *
  generalize g * nw 1 * (x / 60) = b at *
  generalize nw 2 * w = c at *
  have e : (lN a - lN b - lN c) = Int64.ofInt ((a : Int) - b - c) := by
    rw [lN_ofInt, lN_ofInt, lN_ofInt, Int64.ofInt_sub, Int64.ofInt_sub]
  have et : (lN a - lN b - lN c).toInt = (a : Int) - b - c := by
    rw [e, Int64.toInt_ofInt_of_le (by omega) (by omega)]
  have e0 : (lN 0).toInt = 0 := by decide +kernel
  by_cases h : (a : Int) - b - c < 0
  · rw [if_pos (Int64.lt_iff_toInt_lt.mpr (by rw [et, e0]; exact h))]
    rw [show a - b - c = 0 by omega]
  · rw [if_neg (fun q => h (by have := Int64.lt_iff_toInt_lt.mp q; rw [et, e0] at this; exact this))]
    rw [e, lN_ofInt]
    congr 1
    omega
end SPEC1B
end
section
/-! SPEC2: what the class's large methods compute -/
section SPEC2
def sfs (sec sp : Nat → Nat) (stt : Nat → Option Nat) (b : Nat) : Nat := sec b - (stt (sp b)).getD 0
abbrev TkS : Type := (Nat → Nat) × (Nat → Bool) × (Nat → Option Nat) × (Nat → Nat) × (Nat → Nat) × (Nat → Nat)
/-- one submission b of the person x is taken -/
def tkF (gr nw sp sq sec : Nat → Nat) (rt : Nat → Bool) (stt : Nat → Option Nat) (x b : Nat) (u : TkS) : TkS :=
  if u.2.1 (sq b) = true then u
  else if rt b = false then (va_up u.1 (sq b) (u.1 (sq b) + 1), u.2)
  else if nw 3 < sfs sec sp stt b then (u.1, va_up u.2.1 (sq b) true, u.2.2)
  else (u.1, va_up u.2.1 (sq b) true, va_up u.2.2.1 (sq b) (some (wth nw (gr (sq b)) (sfs sec sp stt b) (u.1 (sq b)))), va_up u.2.2.2.1 x (u.2.2.2.1 x + wth nw (gr (sq b)) (sfs sec sp stt b) (u.1 (sq b))), va_up u.2.2.2.2.1 x (u.2.2.2.2.1 x + sfs sec sp stt b), va_up u.2.2.2.2.2 x (u.2.2.2.2.2 x + 1))
def woG (gr nw sp sq sec it : Nat → Nat) (rt : Nat → Bool) (stt : Nat → Option Nat) (x : Nat) : Nat → Nat → TkS → TkS
  | 0, _, u => u
  | n + 1, i, u => woG gr nw sp sq sec it rt stt x n (i + 1) (if sp (it i) = x then tkF gr nw sp sq sec rt stt x (it i) u else u)
def woF (gr nw sp sq sec it : Nat → Nat) (rt : Nat → Bool) (stt : Nat → Option Nat) (ns x : Nat) (u : TkS) : TkS :=
  woG gr nw sp sq sec it rt stt x ns 0 (upK 0 20 u.1, upK false 20 u.2.1, upK none 20 u.2.2.1, va_up u.2.2.2.1 x 0, va_up u.2.2.2.2.1 x 0, va_up u.2.2.2.2.2 x 0)
def waF (gr nw sp sq sec it : Nat → Nat) (rt : Nat → Bool) (stt : Nat → Option Nat) (ns : Nat) : Nat → TkS → TkS
  | 0, u => u
  | k + 1, u => woF gr nw sp sq sec it rt stt ns k (waF gr nw sp sq sec it rt stt ns k u)
/-- what each method may rely on, of puzzles, persons, submissions and rules -/
def IS (np ne ns : Nat) (gr nw sp sq sec it ans : Nat → Nat) (stt : Nat → Option Nat) : Prop :=
  np ≤ 20 ∧ ne ≤ 20 ∧ ns ≤ 300 ∧ (∀ i, i < 20 → gr i ≤ 100) ∧ (∀ i, i < 5 → nw i ≤ 9999) ∧ (∀ i, i < ns → sp i < ne) ∧ (∀ i, i < ns → sq i < np) ∧ (∀ i, i < 300 → sec i ≤ 1000000) ∧ (∀ i, i < ns → it i < ns) ∧ (∀ i, i < 300 → ans i < 2 ^ 31) ∧ (∀ i, i < ns → ∃ z, stt (sp i) = some z ∧ z ≤ sec i) ∧ (∀ i z, i < 20 → stt i = some z → z ≤ 1000000) ∧ (∀ i, i < 300 → sp i < 20 ∧ sq i < 20)
theorem tk_wr {gr nw sp sq sec : Nat → Nat} {rt : Nat → Bool} {stt : Nat → Option Nat} {x b : Nat} {u : TkS} {k : Nat} (h : ∀ j, j < 20 → u.1 j ≤ k) : ∀ j, j < 20 → (tkF gr nw sp sq sec rt stt x b u).1 j ≤ k + 1 := by
  intro j hj
  have h1 := h j hj
  unfold tkF
  split
  · omega
  · split
    · simp only [va_up]
      split
      · subst_vars
        omega
      · omega
    · split <;> (dsimp only; omega)
def inG (tw : Nat → Option Nat) (sec : Nat → Nat) (a k : Nat) : Nat → Nat → Nat → Option Nat × Nat
  | 0, _, c => (none, c)
  | n + 1, b, c => match tw b with
    | none => inG tw sec a k n (b + 1) c
    | some o => if 60 < dst (sec a) (sec o) then inG tw sec a k n (b + 1) c else if c = k then (some o, c) else inG tw sec a k n (b + 1) (c + 1)
def suG (sp sq sec ans : Nat → Nat) (rt : Nat → Bool) (ne ns k : Nat) : Nat → Nat → Nat → (Nat → Option Nat) → Option (Nat × Nat) × (Nat → Option Nat)
  | 0, _, _, tw => (none, tw)
  | n + 1, a, c, tw => if rt a = true then suG sp sq sec ans rt ne ns k n (a + 1) c tw else
    match inG (twG sp sq ans rt a ns 0 (upK none 20 tw)) sec a k (ne - (sp a + 1)) (sp a + 1) c with
    | (some o, _) => (some (a, o), twG sp sq ans rt a ns 0 (upK none 20 tw))
    | (none, c') => suG sp sq sec ans rt ne ns k n (a + 1) c' (twG sp sq ans rt a ns 0 (upK none 20 tw))
def letF (u : Nat) : Option Nat := if u = 80 then some 0 else if u = 70 then some 1 else if u = 87 then some 2 else if u = 68 then some 3 else if u = 84 then some 4 else none
/-- a text of rules, read from place 'a' on: how many, or (none) the place of refusal; what was told so far -/
def rdG (un : Nat → Nat) (tl : Nat) : Nat → Nat → Nat → (Nat → Nat) → (Nat ⊕ Nat) × (Nat → Nat)
  | 0, c, _, td => (.inl c, td)
  | n + 1, c, a, td => if tl ≤ a then (.inl c, td) else
    match letF (un a) with
    | none => (.inr a, td)
    | some z =>
      if eodG un tl (a + 1) 5 (a + 1) = a + 1 then (.inr (a + 1), td)
      else if z = 4 ∧ 1 < numG un (eodG un tl (a + 1) 5 (a + 1) - (a + 1)) (a + 1) 0 then (.inr (eodG un tl (a + 1) 5 (a + 1) - 1), td)
      else if tl ≤ eodG un tl (a + 1) 5 (a + 1) ∨ un (eodG un tl (a + 1) 5 (a + 1)) ≠ 59 then (.inr (eodG un tl (a + 1) 5 (a + 1)), td)
      else rdG un tl n (c + 1) (eodG un tl (a + 1) 5 (a + 1) + 1) (va_up td z (numG un (eodG un tl (a + 1) 5 (a + 1) - (a + 1)) (a + 1) 0))
end SPEC2
end
section
abbrev w_Puz (h : Nat → Nat) (cI cZ cJ : ClassId) (np : Nat) (tot : Nat) (gr : Nat → Nat) (fa : Nat → Nat) (re : Nat → Bool) (ss : Nat → Nat) (sc : Nat → Nat) : va_W := [(h 5, .inr (1, [.ref (h 6), .int (nI np), .ref (h 7), .ref (h 8), .int (nI tot), .ref (h 9), .ref (h 10)])), (h 6, .inl (cI, 20, .inl (aE nI gr))), (h 7, .inl (cI, 20, .inl (aE nI fa))), (h 8, .inl (cZ, 1001, .inl (aE bI re))), (h 9, .inl (cI, 6, .inl (aE nI ss))), (h 10, .inl (cI, 6, .inl (aE nI sc)))]
abbrev w_Per (h : Nat → Nat) (cI cZ cJ : ClassId) (ne : Nat) (stt : Nat → Option Nat) (sco : Nat → Nat) (tim : Nat → Nat) (cnt : Nat → Nat) : va_W := [(h 11, .inr (0, [.ref (h 12), .ref (h 13), .ref (h 14), .ref (h 15), .int (nI ne)])), (h 12, .inl (cI, 20, .inl (aE oI stt))), (h 13, .inl (cJ, 20, .inr (.inl (aF lN sco)))), (h 14, .inl (cJ, 20, .inr (.inl (aF lN tim)))), (h 15, .inl (cI, 20, .inl (aE nI cnt)))]
abbrev w_Sub (h : Nat → Nat) (cI cZ cJ : ClassId) (ns : Nat) (sp : Nat → Nat) (sq : Nat → Nat) (sec : Nat → Nat) (rt : Nat → Bool) (it : Nat → Nat) (ans : Nat → Nat) : va_W := [(h 16, .inr (4, [.ref (h 17), .ref (h 18), .ref (h 19), .ref (h 20), .ref (h 21), .int (nI ns), .ref (h 22)])), (h 17, .inl (cI, 300, .inl (aE nI sp))), (h 18, .inl (cI, 300, .inl (aE nI sq))), (h 19, .inl (cI, 300, .inl (aE nI sec))), (h 20, .inl (cZ, 300, .inl (aE bI rt))), (h 21, .inl (cI, 300, .inl (aE nI it))), (h 22, .inl (cI, 300, .inl (aE nI ans)))]
abbrev w_SubT (h : Nat → Nat) (cI cZ cJ : ClassId) (tw : Nat → Option Nat) (ns : Nat) (sp : Nat → Nat) (sq : Nat → Nat) (sec : Nat → Nat) (rt : Nat → Bool) (it : Nat → Nat) (ans : Nat → Nat) : va_W := [(h 4, .inl (cI, 20, .inl (aE oI tw))), (h 16, .inr (4, [.ref (h 17), .ref (h 18), .ref (h 19), .ref (h 20), .ref (h 21), .int (nI ns), .ref (h 22)])), (h 17, .inl (cI, 300, .inl (aE nI sp))), (h 18, .inl (cI, 300, .inl (aE nI sq))), (h 19, .inl (cI, 300, .inl (aE nI sec))), (h 20, .inl (cZ, 300, .inl (aE bI rt))), (h 21, .inl (cI, 300, .inl (aE nI it))), (h 22, .inl (cI, 300, .inl (aE nI ans)))]
abbrev w_Txt (h : Nat → Nat) (cI cZ cJ : ClassId) (tl : Nat) (un : Nat → Nat) : va_W := [(h 23, .inr (2, [.ref (h 24), .int (nI tl)])), (h 24, .inl (cI, 100, .inl (aE nI un)))]
abbrev w_Rul (h : Nat → Nat) (cI cZ cJ : ClassId) (nw : Nat → Nat) (td : Nat → Nat) : va_W := [(h 25, .inr (3, [.ref (h 26), .ref (h 27)])), (h 26, .inl (cI, 5, .inl (aE nI nw))), (h 27, .inl (cI, 5, .inl (aE nI td)))]
abbrev w_TR (h : Nat → Nat) (cI cZ cJ : ClassId) (tl : Nat) (un : Nat → Nat) (nw : Nat → Nat) (td : Nat → Nat) : va_W := [(h 23, .inr (2, [.ref (h 24), .int (nI tl)])), (h 24, .inl (cI, 100, .inl (aE nI un))), (h 25, .inr (3, [.ref (h 26), .ref (h 27)])), (h 26, .inl (cI, 5, .inl (aE nI nw))), (h 27, .inl (cI, 5, .inl (aE nI td)))]
abbrev w_All (h : Nat → Nat) (cI cZ cJ : ClassId) (wr : Nat → Nat) (se : Nat → Bool) (ga : Nat → Option Nat) (tw : Nat → Option Nat) (np : Nat) (tot : Nat) (gr : Nat → Nat) (fa : Nat → Nat) (re : Nat → Bool) (ss : Nat → Nat) (sc : Nat → Nat) (ne : Nat) (stt : Nat → Option Nat) (sco : Nat → Nat) (tim : Nat → Nat) (cnt : Nat → Nat) (ns : Nat) (sp : Nat → Nat) (sq : Nat → Nat) (sec : Nat → Nat) (rt : Nat → Bool) (it : Nat → Nat) (ans : Nat → Nat) (tl : Nat) (un : Nat → Nat) (nw : Nat → Nat) (td : Nat → Nat) : va_W := [(h 0, .inr (5, [.ref (h 5), .ref (h 11), .ref (h 16), .ref (h 23), .ref (h 25), .ref (h 1), .ref (h 2), .ref (h 3), .ref (h 4)])), (h 1, .inl (cI, 20, .inl (aE nI wr))), (h 2, .inl (cZ, 20, .inl (aE bI se))), (h 3, .inl (cJ, 20, .inr (.inl (aF oL ga)))), (h 4, .inl (cI, 20, .inl (aE oI tw))), (h 5, .inr (1, [.ref (h 6), .int (nI np), .ref (h 7), .ref (h 8), .int (nI tot), .ref (h 9), .ref (h 10)])), (h 6, .inl (cI, 20, .inl (aE nI gr))), (h 7, .inl (cI, 20, .inl (aE nI fa))), (h 8, .inl (cZ, 1001, .inl (aE bI re))), (h 9, .inl (cI, 6, .inl (aE nI ss))), (h 10, .inl (cI, 6, .inl (aE nI sc))), (h 11, .inr (0, [.ref (h 12), .ref (h 13), .ref (h 14), .ref (h 15), .int (nI ne)])), (h 12, .inl (cI, 20, .inl (aE oI stt))), (h 13, .inl (cJ, 20, .inr (.inl (aF lN sco)))), (h 14, .inl (cJ, 20, .inr (.inl (aF lN tim)))), (h 15, .inl (cI, 20, .inl (aE nI cnt))), (h 16, .inr (4, [.ref (h 17), .ref (h 18), .ref (h 19), .ref (h 20), .ref (h 21), .int (nI ns), .ref (h 22)])), (h 17, .inl (cI, 300, .inl (aE nI sp))), (h 18, .inl (cI, 300, .inl (aE nI sq))), (h 19, .inl (cI, 300, .inl (aE nI sec))), (h 20, .inl (cZ, 300, .inl (aE bI rt))), (h 21, .inl (cI, 300, .inl (aE nI it))), (h 22, .inl (cI, 300, .inl (aE nI ans))), (h 23, .inr (2, [.ref (h 24), .int (nI tl)])), (h 24, .inl (cI, 100, .inl (aE nI un))), (h 25, .inr (3, [.ref (h 26), .ref (h 27)])), (h 26, .inl (cI, 5, .inl (aE nI nw))), (h 27, .inl (cI, 5, .inl (aE nI td)))]
abbrev w_Nil (h : Nat → Nat) (cI cZ cJ : ClassId)  : va_W := []
end
section
/-! BASE3: System.arraycopy of a whole row of numbers; some numbers -/
section BASE3
theorem inB_nI {i n : Nat} (h : i < n) (hn : n ≤ 300) : inB (nI i) n = true := inB_t (by rw [i_T (by omega)]; omega)
theorem cpy_aE (n : Nat) (f g : Nat → Nat) : va_cpy (aE nI f) (aE nI g) 0 0 n = aE nI (cpyN n f g) := by
  funext k
  simp only [va_cpy, aE, cpyN]
  by_cases h : k < n
  · rw [if_pos (by omega), if_pos h]; simp
  · rw [if_neg (by omega), if_neg h]
variable {p : Program} {l : Launch} {e : Env} {R : Room} {s : State} {m : MethodId} {args : Array Value} {below : List Frame} {meth : Method} {c : Code} {H : Heap} {locs : List Loc} {cells slots : Nat} {Q : State → Prop}
variable {cc : ByteArray} {nL pc : Nat} {ls : Array Slot} {rest : List Value} {own : String} {G : va_G} {A : Nat → Prop} {a a0 : Nat} {ws : va_W} {H0 : Heap}
theorem R_copy {index n : Nat} {f g : Nat → Nat} {cI cZ cJ : ClassId} (X : Fx p m c cc nL s args own G (tyL cI cZ cJ) A) (hW : Wr G A H0 ws H locs) (h1 : Cond.methodLink own index arraycopyName ∈ TBL) (h2 : Cond.native arraycopyName ∈ TBL) (h3 : Cond.static arraycopyName ∈ TBL) (h4 : Cond.initialized "java/lang/System" ∈ TBL) (hml : c.maxLocals = ls.size) (q0 q1 : Nat) (ha0 : ws[q0]? = some (a0, .inl (cI, n, .inl (aE nI f)))) (ha1 : ws[q1]? = some (a, .inl (cI, n, .inl (aE nI g)))) (hn : n < 2 ^ 31) (hf : 1 ≤ R.frames) (hlo : (rest.map fun v => v.category).sum + (nativeFrameWords "java/lang/System" "arraycopy" 5 + 11) ≤ R.locals) (hdg : decode cc pc = .ok (.invokestatic index, 3))
    (kk : ∀ (H1 : Heap) (locs1 : List Loc), Wr G A H0 (ws.set q1 (a, .inl (cI, n, .inl (aE nI (cpyN n f g))))) H1 locs1 → W p l e R s m args below meth c H1 locs1 cells slots Q (F0 m (pc + 3) ls rest)) : W p l e R s m args below meth c H locs cells slots Q (F0 m pc ls (.int (nI n) :: .int (nI 0) :: .ref a :: .int (nI 0) :: .ref a0 :: rest)) := by
  have ht := X.1.2.2.2.2
  have z0 : (nI 0).toNatClampNeg = 0 := nI_clamp (by decide)
  have zn : (nI n).toNatClampNeg = n := nI_clamp hn
  refine va_copyi X.1.1 X.1.2.1 hml X.1.2.2.2.1 (ht _ h1) (ht _ h2) (ht _ h3) (ht _ h4) X.2.1 hW.1 hW.2.1 hW.2.2 q0 q1 0 0 ha0 ha1 rfl rfl rfl (nI_pos (by decide)) (nI_pos (by decide)) (nI_pos hn) (by rw [z0, zn]; omega) (by rw [z0, zn]; omega) (fun i _ => rfl) hf hlo hdg (fun H1 locs1 p1 p2 p3 => kk H1 locs1 ?_)
  rw [z0, zn, cpy_aE] at p1 p2
  exact ⟨p1, p2, p3⟩
end BASE3
end
section
/-! SPEC3: pairs told, bounds of twins -/
section SPEC3
def tlF (sp sq sec : Nat → Nat) (a b w : Nat) : Nat := if w = 0 then sp a else if w = 1 then sp b else if w = 2 then sq a else dst (sec a) (sec b)
theorem twG_lt (sp sq ans : Nat → Nat) (rt : Nat → Bool) (a : Nat) : ∀ (n i : Nat) (tw : Nat → Option Nat) (N : Nat), i + n ≤ N → (∀ x z, x < 20 → tw x = some z → z < N) → ∀ x z, x < 20 → twG sp sq ans rt a n i tw x = some z → z < N
  | 0, _, _, _, _, h => h
  | n + 1, i, tw, N, hN, h => by
    intro x z hx hz
    unfold twG at hz
    refine twG_lt sp sq ans rt a n (i + 1) _ N (by omega) ?_ x z hx hz
    intro x' z' hx' hz'
    split at hz'
    · by_cases q : x' = sp i
      · subst q; rw [va_up_self] at hz'; cases hz'; omega
      · rw [va_up_ne _ _ q] at hz'; exact h x' z' hx' hz'
    · exact h x' z' hx' hz'
theorem dst_le {x y : Nat} (hx : x ≤ 1000000) (hy : y ≤ 1000000) : dst x y ≤ 1000000 := by unfold dst; split <;> omega
theorem tk_eta (u : TkS) : (u.1, u.2.1, u.2.2.1, u.2.2.2.1, u.2.2.2.2.1, u.2.2.2.2.2) = u := rfl
end SPEC3
end
section
theorem d_Persons_init_0 : decode b_Persons_init 0 = .ok (.aload_n 0, 1) := by decide +kernel
theorem d_Persons_init_1 : decode b_Persons_init 1 = .ok (.invokespecial 3, 3) := by decide +kernel
theorem d_Persons_init_4 : decode b_Persons_init 4 = .ok (.aload_n 0, 1) := by decide +kernel
theorem d_Persons_init_5 : decode b_Persons_init 5 = .ok (.bipush 20, 2) := by decide +kernel
theorem d_Persons_init_7 : decode b_Persons_init 7 = .ok (.newarray .int, 2) := by decide +kernel
theorem d_Persons_init_9 : decode b_Persons_init 9 = .ok (.putfield 9, 3) := by decide +kernel
theorem d_Persons_init_12 : decode b_Persons_init 12 = .ok (.aload_n 0, 1) := by decide +kernel
theorem d_Persons_init_13 : decode b_Persons_init 13 = .ok (.bipush 20, 2) := by decide +kernel
theorem d_Persons_init_15 : decode b_Persons_init 15 = .ok (.newarray .long, 2) := by decide +kernel
theorem d_Persons_init_17 : decode b_Persons_init 17 = .ok (.putfield 15, 3) := by decide +kernel
theorem d_Persons_init_20 : decode b_Persons_init 20 = .ok (.aload_n 0, 1) := by decide +kernel
theorem d_Persons_init_21 : decode b_Persons_init 21 = .ok (.bipush 20, 2) := by decide +kernel
theorem d_Persons_init_23 : decode b_Persons_init 23 = .ok (.newarray .long, 2) := by decide +kernel
theorem d_Persons_init_25 : decode b_Persons_init 25 = .ok (.putfield 19, 3) := by decide +kernel
theorem d_Persons_init_28 : decode b_Persons_init 28 = .ok (.aload_n 0, 1) := by decide +kernel
theorem d_Persons_init_29 : decode b_Persons_init 29 = .ok (.bipush 20, 2) := by decide +kernel
theorem d_Persons_init_31 : decode b_Persons_init 31 = .ok (.newarray .int, 2) := by decide +kernel
theorem d_Persons_init_33 : decode b_Persons_init 33 = .ok (.putfield 22, 3) := by decide +kernel
theorem d_Persons_init_36 : decode b_Persons_init 36 = .ok (.return_, 1) := by decide +kernel
theorem d_Persons_has_0 : decode b_Persons_has 0 = .ok (.iload_n 1, 1) := by decide +kernel
theorem d_Persons_has_1 : decode b_Persons_has 1 = .ok (.ifCond .lt 15, 3) := by decide +kernel
theorem d_Persons_has_4 : decode b_Persons_has 4 = .ok (.iload_n 1, 1) := by decide +kernel
theorem d_Persons_has_5 : decode b_Persons_has 5 = .ok (.aload_n 0, 1) := by decide +kernel
theorem d_Persons_has_6 : decode b_Persons_has 6 = .ok (.getfield 25, 3) := by decide +kernel
theorem d_Persons_has_9 : decode b_Persons_has 9 = .ok (.if_icmp .ge 7, 3) := by decide +kernel
theorem d_Persons_has_12 : decode b_Persons_has 12 = .ok (.iconst 1, 1) := by decide +kernel
theorem d_Persons_has_13 : decode b_Persons_has 13 = .ok (.goto 4, 3) := by decide +kernel
theorem d_Persons_has_16 : decode b_Persons_has 16 = .ok (.iconst 0, 1) := by decide +kernel
theorem d_Persons_has_17 : decode b_Persons_has 17 = .ok (.ireturn, 1) := by decide +kernel
theorem d_Persons_add_0 : decode b_Persons_add 0 = .ok (.aload_n 0, 1) := by decide +kernel
theorem d_Persons_add_1 : decode b_Persons_add 1 = .ok (.getfield 25, 3) := by decide +kernel
theorem d_Persons_add_4 : decode b_Persons_add 4 = .ok (.bipush 20, 2) := by decide +kernel
theorem d_Persons_add_6 : decode b_Persons_add 6 = .ok (.if_icmp .lt 5, 3) := by decide +kernel
theorem d_Persons_add_9 : decode b_Persons_add 9 = .ok (.iconst (-1), 1) := by decide +kernel
theorem d_Persons_add_10 : decode b_Persons_add 10 = .ok (.ireturn, 1) := by decide +kernel
theorem d_Persons_add_11 : decode b_Persons_add 11 = .ok (.aload_n 0, 1) := by decide +kernel
theorem d_Persons_add_12 : decode b_Persons_add 12 = .ok (.getfield 9, 3) := by decide +kernel
theorem d_Persons_add_15 : decode b_Persons_add 15 = .ok (.aload_n 0, 1) := by decide +kernel
theorem d_Persons_add_16 : decode b_Persons_add 16 = .ok (.getfield 25, 3) := by decide +kernel
theorem d_Persons_add_19 : decode b_Persons_add 19 = .ok (.iconst (-1), 1) := by decide +kernel
theorem d_Persons_add_20 : decode b_Persons_add 20 = .ok (.iastore, 1) := by decide +kernel
theorem d_Persons_add_21 : decode b_Persons_add 21 = .ok (.aload_n 0, 1) := by decide +kernel
theorem d_Persons_add_22 : decode b_Persons_add 22 = .ok (.dup, 1) := by decide +kernel
theorem d_Persons_add_23 : decode b_Persons_add 23 = .ok (.getfield 25, 3) := by decide +kernel
theorem d_Persons_add_26 : decode b_Persons_add 26 = .ok (.iconst 1, 1) := by decide +kernel
theorem d_Persons_add_27 : decode b_Persons_add 27 = .ok (.iadd, 1) := by decide +kernel
theorem d_Persons_add_28 : decode b_Persons_add 28 = .ok (.putfield 25, 3) := by decide +kernel
theorem d_Persons_add_31 : decode b_Persons_add 31 = .ok (.aload_n 0, 1) := by decide +kernel
theorem d_Persons_add_32 : decode b_Persons_add 32 = .ok (.getfield 25, 3) := by decide +kernel
theorem d_Persons_add_35 : decode b_Persons_add 35 = .ok (.iconst 1, 1) := by decide +kernel
theorem d_Persons_add_36 : decode b_Persons_add 36 = .ok (.isub, 1) := by decide +kernel
theorem d_Persons_add_37 : decode b_Persons_add 37 = .ok (.ireturn, 1) := by decide +kernel
theorem d_Persons_clearSums_0 : decode b_Persons_clearSums 0 = .ok (.aload_n 0, 1) := by decide +kernel
theorem d_Persons_clearSums_1 : decode b_Persons_clearSums 1 = .ok (.getfield 15, 3) := by decide +kernel
theorem d_Persons_clearSums_4 : decode b_Persons_clearSums 4 = .ok (.iload_n 1, 1) := by decide +kernel
theorem d_Persons_clearSums_5 : decode b_Persons_clearSums 5 = .ok (.lconst 0, 1) := by decide +kernel
theorem d_Persons_clearSums_6 : decode b_Persons_clearSums 6 = .ok (.lastore, 1) := by decide +kernel
theorem d_Persons_clearSums_7 : decode b_Persons_clearSums 7 = .ok (.aload_n 0, 1) := by decide +kernel
theorem d_Persons_clearSums_8 : decode b_Persons_clearSums 8 = .ok (.getfield 19, 3) := by decide +kernel
theorem d_Persons_clearSums_11 : decode b_Persons_clearSums 11 = .ok (.iload_n 1, 1) := by decide +kernel
theorem d_Persons_clearSums_12 : decode b_Persons_clearSums 12 = .ok (.lconst 0, 1) := by decide +kernel
theorem d_Persons_clearSums_13 : decode b_Persons_clearSums 13 = .ok (.lastore, 1) := by decide +kernel
theorem d_Persons_clearSums_14 : decode b_Persons_clearSums 14 = .ok (.aload_n 0, 1) := by decide +kernel
theorem d_Persons_clearSums_15 : decode b_Persons_clearSums 15 = .ok (.getfield 22, 3) := by decide +kernel
theorem d_Persons_clearSums_18 : decode b_Persons_clearSums 18 = .ok (.iload_n 1, 1) := by decide +kernel
theorem d_Persons_clearSums_19 : decode b_Persons_clearSums 19 = .ok (.iconst 0, 1) := by decide +kernel
theorem d_Persons_clearSums_20 : decode b_Persons_clearSums 20 = .ok (.iastore, 1) := by decide +kernel
theorem d_Persons_clearSums_21 : decode b_Persons_clearSums 21 = .ok (.return_, 1) := by decide +kernel
theorem d_Persons_addToSums_0 : decode b_Persons_addToSums 0 = .ok (.aload_n 0, 1) := by decide +kernel
theorem d_Persons_addToSums_1 : decode b_Persons_addToSums 1 = .ok (.getfield 15, 3) := by decide +kernel
theorem d_Persons_addToSums_4 : decode b_Persons_addToSums 4 = .ok (.iload_n 1, 1) := by decide +kernel
theorem d_Persons_addToSums_5 : decode b_Persons_addToSums 5 = .ok (.dup2, 1) := by decide +kernel
theorem d_Persons_addToSums_6 : decode b_Persons_addToSums 6 = .ok (.laload, 1) := by decide +kernel
theorem d_Persons_addToSums_7 : decode b_Persons_addToSums 7 = .ok (.lload_n 2, 1) := by decide +kernel
theorem d_Persons_addToSums_8 : decode b_Persons_addToSums 8 = .ok (.ladd, 1) := by decide +kernel
theorem d_Persons_addToSums_9 : decode b_Persons_addToSums 9 = .ok (.lastore, 1) := by decide +kernel
theorem d_Persons_addToSums_10 : decode b_Persons_addToSums 10 = .ok (.aload_n 0, 1) := by decide +kernel
theorem d_Persons_addToSums_11 : decode b_Persons_addToSums 11 = .ok (.getfield 19, 3) := by decide +kernel
theorem d_Persons_addToSums_14 : decode b_Persons_addToSums 14 = .ok (.iload_n 1, 1) := by decide +kernel
theorem d_Persons_addToSums_15 : decode b_Persons_addToSums 15 = .ok (.dup2, 1) := by decide +kernel
theorem d_Persons_addToSums_16 : decode b_Persons_addToSums 16 = .ok (.laload, 1) := by decide +kernel
theorem d_Persons_addToSums_17 : decode b_Persons_addToSums 17 = .ok (.iload 4, 2) := by decide +kernel
theorem d_Persons_addToSums_19 : decode b_Persons_addToSums 19 = .ok (.i2l, 1) := by decide +kernel
theorem d_Persons_addToSums_20 : decode b_Persons_addToSums 20 = .ok (.ladd, 1) := by decide +kernel
theorem d_Persons_addToSums_21 : decode b_Persons_addToSums 21 = .ok (.lastore, 1) := by decide +kernel
theorem d_Persons_addToSums_22 : decode b_Persons_addToSums 22 = .ok (.aload_n 0, 1) := by decide +kernel
theorem d_Persons_addToSums_23 : decode b_Persons_addToSums 23 = .ok (.getfield 22, 3) := by decide +kernel
theorem d_Persons_addToSums_26 : decode b_Persons_addToSums 26 = .ok (.iload_n 1, 1) := by decide +kernel
theorem d_Persons_addToSums_27 : decode b_Persons_addToSums 27 = .ok (.dup2, 1) := by decide +kernel
theorem d_Persons_addToSums_28 : decode b_Persons_addToSums 28 = .ok (.iaload, 1) := by decide +kernel
theorem d_Persons_addToSums_29 : decode b_Persons_addToSums 29 = .ok (.iconst 1, 1) := by decide +kernel
theorem d_Persons_addToSums_30 : decode b_Persons_addToSums 30 = .ok (.iadd, 1) := by decide +kernel
theorem d_Persons_addToSums_31 : decode b_Persons_addToSums 31 = .ok (.iastore, 1) := by decide +kernel
theorem d_Persons_addToSums_32 : decode b_Persons_addToSums 32 = .ok (.return_, 1) := by decide +kernel
theorem d_Persons_alike_0 : decode b_Persons_alike 0 = .ok (.aload_n 0, 1) := by decide +kernel
theorem d_Persons_alike_1 : decode b_Persons_alike 1 = .ok (.getfield 15, 3) := by decide +kernel
theorem d_Persons_alike_4 : decode b_Persons_alike 4 = .ok (.iload_n 1, 1) := by decide +kernel
theorem d_Persons_alike_5 : decode b_Persons_alike 5 = .ok (.laload, 1) := by decide +kernel
theorem d_Persons_alike_6 : decode b_Persons_alike 6 = .ok (.aload_n 0, 1) := by decide +kernel
theorem d_Persons_alike_7 : decode b_Persons_alike 7 = .ok (.getfield 15, 3) := by decide +kernel
theorem d_Persons_alike_10 : decode b_Persons_alike 10 = .ok (.iload_n 2, 1) := by decide +kernel
theorem d_Persons_alike_11 : decode b_Persons_alike 11 = .ok (.laload, 1) := by decide +kernel
theorem d_Persons_alike_12 : decode b_Persons_alike 12 = .ok (.lcmp, 1) := by decide +kernel
theorem d_Persons_alike_13 : decode b_Persons_alike 13 = .ok (.ifCond .ne 27, 3) := by decide +kernel
theorem d_Persons_alike_16 : decode b_Persons_alike 16 = .ok (.iload_n 3, 1) := by decide +kernel
theorem d_Persons_alike_17 : decode b_Persons_alike 17 = .ok (.ifCond .eq 19, 3) := by decide +kernel
theorem d_Persons_alike_20 : decode b_Persons_alike 20 = .ok (.aload_n 0, 1) := by decide +kernel
theorem d_Persons_alike_21 : decode b_Persons_alike 21 = .ok (.getfield 19, 3) := by decide +kernel
theorem d_Persons_alike_24 : decode b_Persons_alike 24 = .ok (.iload_n 1, 1) := by decide +kernel
theorem d_Persons_alike_25 : decode b_Persons_alike 25 = .ok (.laload, 1) := by decide +kernel
theorem d_Persons_alike_26 : decode b_Persons_alike 26 = .ok (.aload_n 0, 1) := by decide +kernel
theorem d_Persons_alike_27 : decode b_Persons_alike 27 = .ok (.getfield 19, 3) := by decide +kernel
theorem d_Persons_alike_30 : decode b_Persons_alike 30 = .ok (.iload_n 2, 1) := by decide +kernel
theorem d_Persons_alike_31 : decode b_Persons_alike 31 = .ok (.laload, 1) := by decide +kernel
theorem d_Persons_alike_32 : decode b_Persons_alike 32 = .ok (.lcmp, 1) := by decide +kernel
theorem d_Persons_alike_33 : decode b_Persons_alike 33 = .ok (.ifCond .ne 7, 3) := by decide +kernel
theorem d_Persons_alike_36 : decode b_Persons_alike 36 = .ok (.iconst 1, 1) := by decide +kernel
theorem d_Persons_alike_37 : decode b_Persons_alike 37 = .ok (.goto 4, 3) := by decide +kernel
theorem d_Persons_alike_40 : decode b_Persons_alike 40 = .ok (.iconst 0, 1) := by decide +kernel
theorem d_Persons_alike_41 : decode b_Persons_alike 41 = .ok (.ireturn, 1) := by decide +kernel
theorem d_Persons_isAhead_0 : decode b_Persons_isAhead 0 = .ok (.aload_n 0, 1) := by decide +kernel
theorem d_Persons_isAhead_1 : decode b_Persons_isAhead 1 = .ok (.getfield 15, 3) := by decide +kernel
theorem d_Persons_isAhead_4 : decode b_Persons_isAhead 4 = .ok (.iload_n 1, 1) := by decide +kernel
theorem d_Persons_isAhead_5 : decode b_Persons_isAhead 5 = .ok (.laload, 1) := by decide +kernel
theorem d_Persons_isAhead_6 : decode b_Persons_isAhead 6 = .ok (.aload_n 0, 1) := by decide +kernel
theorem d_Persons_isAhead_7 : decode b_Persons_isAhead 7 = .ok (.getfield 15, 3) := by decide +kernel
theorem d_Persons_isAhead_10 : decode b_Persons_isAhead 10 = .ok (.iload_n 2, 1) := by decide +kernel
theorem d_Persons_isAhead_11 : decode b_Persons_isAhead 11 = .ok (.laload, 1) := by decide +kernel
theorem d_Persons_isAhead_12 : decode b_Persons_isAhead 12 = .ok (.lcmp, 1) := by decide +kernel
theorem d_Persons_isAhead_13 : decode b_Persons_isAhead 13 = .ok (.ifCond .eq 25, 3) := by decide +kernel
theorem d_Persons_isAhead_16 : decode b_Persons_isAhead 16 = .ok (.aload_n 0, 1) := by decide +kernel
theorem d_Persons_isAhead_17 : decode b_Persons_isAhead 17 = .ok (.getfield 15, 3) := by decide +kernel
theorem d_Persons_isAhead_20 : decode b_Persons_isAhead 20 = .ok (.iload_n 1, 1) := by decide +kernel
theorem d_Persons_isAhead_21 : decode b_Persons_isAhead 21 = .ok (.laload, 1) := by decide +kernel
theorem d_Persons_isAhead_22 : decode b_Persons_isAhead 22 = .ok (.aload_n 0, 1) := by decide +kernel
theorem d_Persons_isAhead_23 : decode b_Persons_isAhead 23 = .ok (.getfield 15, 3) := by decide +kernel
theorem d_Persons_isAhead_26 : decode b_Persons_isAhead 26 = .ok (.iload_n 2, 1) := by decide +kernel
theorem d_Persons_isAhead_27 : decode b_Persons_isAhead 27 = .ok (.laload, 1) := by decide +kernel
theorem d_Persons_isAhead_28 : decode b_Persons_isAhead 28 = .ok (.lcmp, 1) := by decide +kernel
theorem d_Persons_isAhead_29 : decode b_Persons_isAhead 29 = .ok (.ifCond .le 7, 3) := by decide +kernel
theorem d_Persons_isAhead_32 : decode b_Persons_isAhead 32 = .ok (.iconst 1, 1) := by decide +kernel
theorem d_Persons_isAhead_33 : decode b_Persons_isAhead 33 = .ok (.goto 4, 3) := by decide +kernel
theorem d_Persons_isAhead_36 : decode b_Persons_isAhead 36 = .ok (.iconst 0, 1) := by decide +kernel
theorem d_Persons_isAhead_37 : decode b_Persons_isAhead 37 = .ok (.ireturn, 1) := by decide +kernel
theorem d_Persons_isAhead_38 : decode b_Persons_isAhead 38 = .ok (.iload_n 3, 1) := by decide +kernel
theorem d_Persons_isAhead_39 : decode b_Persons_isAhead 39 = .ok (.ifCond .eq 23, 3) := by decide +kernel
theorem d_Persons_isAhead_42 : decode b_Persons_isAhead 42 = .ok (.aload_n 0, 1) := by decide +kernel
theorem d_Persons_isAhead_43 : decode b_Persons_isAhead 43 = .ok (.getfield 19, 3) := by decide +kernel
theorem d_Persons_isAhead_46 : decode b_Persons_isAhead 46 = .ok (.iload_n 1, 1) := by decide +kernel
theorem d_Persons_isAhead_47 : decode b_Persons_isAhead 47 = .ok (.laload, 1) := by decide +kernel
theorem d_Persons_isAhead_48 : decode b_Persons_isAhead 48 = .ok (.aload_n 0, 1) := by decide +kernel
theorem d_Persons_isAhead_49 : decode b_Persons_isAhead 49 = .ok (.getfield 19, 3) := by decide +kernel
theorem d_Persons_isAhead_52 : decode b_Persons_isAhead 52 = .ok (.iload_n 2, 1) := by decide +kernel
theorem d_Persons_isAhead_53 : decode b_Persons_isAhead 53 = .ok (.laload, 1) := by decide +kernel
theorem d_Persons_isAhead_54 : decode b_Persons_isAhead 54 = .ok (.lcmp, 1) := by decide +kernel
theorem d_Persons_isAhead_55 : decode b_Persons_isAhead 55 = .ok (.ifCond .ge 7, 3) := by decide +kernel
theorem d_Persons_isAhead_58 : decode b_Persons_isAhead 58 = .ok (.iconst 1, 1) := by decide +kernel
theorem d_Persons_isAhead_59 : decode b_Persons_isAhead 59 = .ok (.goto 4, 3) := by decide +kernel
theorem d_Persons_isAhead_62 : decode b_Persons_isAhead 62 = .ok (.iconst 0, 1) := by decide +kernel
theorem d_Persons_isAhead_63 : decode b_Persons_isAhead 63 = .ok (.ireturn, 1) := by decide +kernel
theorem d_Persons_rankOf_0 : decode b_Persons_rankOf 0 = .ok (.iconst 1, 1) := by decide +kernel
theorem d_Persons_rankOf_1 : decode b_Persons_rankOf 1 = .ok (.istore_n 3, 1) := by decide +kernel
theorem d_Persons_rankOf_2 : decode b_Persons_rankOf 2 = .ok (.iconst 0, 1) := by decide +kernel
theorem d_Persons_rankOf_3 : decode b_Persons_rankOf 3 = .ok (.istore 4, 2) := by decide +kernel
theorem d_Persons_rankOf_5 : decode b_Persons_rankOf 5 = .ok (.iload 4, 2) := by decide +kernel
theorem d_Persons_rankOf_7 : decode b_Persons_rankOf 7 = .ok (.aload_n 0, 1) := by decide +kernel
theorem d_Persons_rankOf_8 : decode b_Persons_rankOf 8 = .ok (.getfield 25, 3) := by decide +kernel
theorem d_Persons_rankOf_11 : decode b_Persons_rankOf 11 = .ok (.if_icmp .ge 23, 3) := by decide +kernel
theorem d_Persons_rankOf_14 : decode b_Persons_rankOf 14 = .ok (.aload_n 0, 1) := by decide +kernel
theorem d_Persons_rankOf_15 : decode b_Persons_rankOf 15 = .ok (.iload 4, 2) := by decide +kernel
theorem d_Persons_rankOf_17 : decode b_Persons_rankOf 17 = .ok (.iload_n 1, 1) := by decide +kernel
theorem d_Persons_rankOf_18 : decode b_Persons_rankOf 18 = .ok (.iload_n 2, 1) := by decide +kernel
theorem d_Persons_rankOf_19 : decode b_Persons_rankOf 19 = .ok (.invokevirtual 29, 3) := by decide +kernel
theorem d_Persons_rankOf_22 : decode b_Persons_rankOf 22 = .ok (.ifCond .eq 6, 3) := by decide +kernel
theorem d_Persons_rankOf_25 : decode b_Persons_rankOf 25 = .ok (.iinc 3 1, 3) := by decide +kernel
theorem d_Persons_rankOf_28 : decode b_Persons_rankOf 28 = .ok (.iinc 4 1, 3) := by decide +kernel
theorem d_Persons_rankOf_31 : decode b_Persons_rankOf 31 = .ok (.goto (-26), 3) := by decide +kernel
theorem d_Persons_rankOf_34 : decode b_Persons_rankOf 34 = .ok (.iload_n 3, 1) := by decide +kernel
theorem d_Persons_rankOf_35 : decode b_Persons_rankOf 35 = .ok (.ireturn, 1) := by decide +kernel
theorem d_Persons_inPlace_0 : decode b_Persons_inPlace 0 = .ok (.iconst 0, 1) := by decide +kernel
theorem d_Persons_inPlace_1 : decode b_Persons_inPlace 1 = .ok (.istore_n 3, 1) := by decide +kernel
theorem d_Persons_inPlace_2 : decode b_Persons_inPlace 2 = .ok (.iload_n 3, 1) := by decide +kernel
theorem d_Persons_inPlace_3 : decode b_Persons_inPlace 3 = .ok (.aload_n 0, 1) := by decide +kernel
theorem d_Persons_inPlace_4 : decode b_Persons_inPlace 4 = .ok (.getfield 25, 3) := by decide +kernel
theorem d_Persons_inPlace_7 : decode b_Persons_inPlace 7 = .ok (.if_icmp .ge 21, 3) := by decide +kernel
theorem d_Persons_inPlace_10 : decode b_Persons_inPlace 10 = .ok (.aload_n 0, 1) := by decide +kernel
theorem d_Persons_inPlace_11 : decode b_Persons_inPlace 11 = .ok (.iload_n 3, 1) := by decide +kernel
theorem d_Persons_inPlace_12 : decode b_Persons_inPlace 12 = .ok (.iload_n 2, 1) := by decide +kernel
theorem d_Persons_inPlace_13 : decode b_Persons_inPlace 13 = .ok (.invokevirtual 33, 3) := by decide +kernel
theorem d_Persons_inPlace_16 : decode b_Persons_inPlace 16 = .ok (.iload_n 1, 1) := by decide +kernel
theorem d_Persons_inPlace_17 : decode b_Persons_inPlace 17 = .ok (.if_icmp .ne 5, 3) := by decide +kernel
theorem d_Persons_inPlace_20 : decode b_Persons_inPlace 20 = .ok (.iload_n 3, 1) := by decide +kernel
theorem d_Persons_inPlace_21 : decode b_Persons_inPlace 21 = .ok (.ireturn, 1) := by decide +kernel
theorem d_Persons_inPlace_22 : decode b_Persons_inPlace 22 = .ok (.iinc 3 1, 3) := by decide +kernel
theorem d_Persons_inPlace_25 : decode b_Persons_inPlace 25 = .ok (.goto (-23), 3) := by decide +kernel
theorem d_Persons_inPlace_28 : decode b_Persons_inPlace 28 = .ok (.iconst (-1), 1) := by decide +kernel
theorem d_Persons_inPlace_29 : decode b_Persons_inPlace 29 = .ok (.ireturn, 1) := by decide +kernel
theorem d_Persons_howManyBefore_0 : decode b_Persons_howManyBefore 0 = .ok (.aload_n 0, 1) := by decide +kernel
theorem d_Persons_howManyBefore_1 : decode b_Persons_howManyBefore 1 = .ok (.iload_n 1, 1) := by decide +kernel
theorem d_Persons_howManyBefore_2 : decode b_Persons_howManyBefore 2 = .ok (.iload_n 2, 1) := by decide +kernel
theorem d_Persons_howManyBefore_3 : decode b_Persons_howManyBefore 3 = .ok (.invokevirtual 37, 3) := by decide +kernel
theorem d_Persons_howManyBefore_6 : decode b_Persons_howManyBefore 6 = .ok (.iconst 1, 1) := by decide +kernel
theorem d_Persons_howManyBefore_7 : decode b_Persons_howManyBefore 7 = .ok (.isub, 1) := by decide +kernel
theorem d_Persons_howManyBefore_8 : decode b_Persons_howManyBefore 8 = .ok (.istore_n 3, 1) := by decide +kernel
theorem d_Persons_howManyBefore_9 : decode b_Persons_howManyBefore 9 = .ok (.iconst 0, 1) := by decide +kernel
theorem d_Persons_howManyBefore_10 : decode b_Persons_howManyBefore 10 = .ok (.istore 4, 2) := by decide +kernel
theorem d_Persons_howManyBefore_12 : decode b_Persons_howManyBefore 12 = .ok (.iload 4, 2) := by decide +kernel
theorem d_Persons_howManyBefore_14 : decode b_Persons_howManyBefore 14 = .ok (.iload_n 1, 1) := by decide +kernel
theorem d_Persons_howManyBefore_15 : decode b_Persons_howManyBefore 15 = .ok (.if_icmp .ge 23, 3) := by decide +kernel
theorem d_Persons_howManyBefore_18 : decode b_Persons_howManyBefore 18 = .ok (.aload_n 0, 1) := by decide +kernel
theorem d_Persons_howManyBefore_19 : decode b_Persons_howManyBefore 19 = .ok (.iload 4, 2) := by decide +kernel
theorem d_Persons_howManyBefore_21 : decode b_Persons_howManyBefore 21 = .ok (.iload_n 1, 1) := by decide +kernel
theorem d_Persons_howManyBefore_22 : decode b_Persons_howManyBefore 22 = .ok (.iload_n 2, 1) := by decide +kernel
theorem d_Persons_howManyBefore_23 : decode b_Persons_howManyBefore 23 = .ok (.invokevirtual 40, 3) := by decide +kernel
theorem d_Persons_howManyBefore_26 : decode b_Persons_howManyBefore 26 = .ok (.ifCond .eq 6, 3) := by decide +kernel
theorem d_Persons_howManyBefore_29 : decode b_Persons_howManyBefore 29 = .ok (.iinc 3 1, 3) := by decide +kernel
theorem d_Persons_howManyBefore_32 : decode b_Persons_howManyBefore 32 = .ok (.iinc 4 1, 3) := by decide +kernel
theorem d_Persons_howManyBefore_35 : decode b_Persons_howManyBefore 35 = .ok (.goto (-23), 3) := by decide +kernel
theorem d_Persons_howManyBefore_38 : decode b_Persons_howManyBefore 38 = .ok (.iload_n 3, 1) := by decide +kernel
theorem d_Persons_howManyBefore_39 : decode b_Persons_howManyBefore 39 = .ok (.ireturn, 1) := by decide +kernel
end
section
theorem d_Puzzles_init_0 : decode b_Puzzles_init 0 = .ok (.aload_n 0, 1) := by decide +kernel
theorem d_Puzzles_init_1 : decode b_Puzzles_init 1 = .ok (.invokespecial 5, 3) := by decide +kernel
theorem d_Puzzles_init_4 : decode b_Puzzles_init 4 = .ok (.aload_n 0, 1) := by decide +kernel
theorem d_Puzzles_init_5 : decode b_Puzzles_init 5 = .ok (.bipush 20, 2) := by decide +kernel
theorem d_Puzzles_init_7 : decode b_Puzzles_init 7 = .ok (.newarray .int, 2) := by decide +kernel
theorem d_Puzzles_init_9 : decode b_Puzzles_init 9 = .ok (.putfield 11, 3) := by decide +kernel
theorem d_Puzzles_init_12 : decode b_Puzzles_init 12 = .ok (.aload_n 0, 1) := by decide +kernel
theorem d_Puzzles_init_13 : decode b_Puzzles_init 13 = .ok (.bipush 20, 2) := by decide +kernel
theorem d_Puzzles_init_15 : decode b_Puzzles_init 15 = .ok (.newarray .int, 2) := by decide +kernel
theorem d_Puzzles_init_17 : decode b_Puzzles_init 17 = .ok (.putfield 15, 3) := by decide +kernel
theorem d_Puzzles_init_20 : decode b_Puzzles_init 20 = .ok (.aload_n 0, 1) := by decide +kernel
theorem d_Puzzles_init_21 : decode b_Puzzles_init 21 = .ok (.sipush 1001, 3) := by decide +kernel
theorem d_Puzzles_init_24 : decode b_Puzzles_init 24 = .ok (.newarray .boolean, 2) := by decide +kernel
theorem d_Puzzles_init_26 : decode b_Puzzles_init 26 = .ok (.putfield 18, 3) := by decide +kernel
theorem d_Puzzles_init_29 : decode b_Puzzles_init 29 = .ok (.aload_n 0, 1) := by decide +kernel
theorem d_Puzzles_init_30 : decode b_Puzzles_init 30 = .ok (.bipush 6, 2) := by decide +kernel
theorem d_Puzzles_init_32 : decode b_Puzzles_init 32 = .ok (.newarray .int, 2) := by decide +kernel
theorem d_Puzzles_init_34 : decode b_Puzzles_init 34 = .ok (.putfield 22, 3) := by decide +kernel
theorem d_Puzzles_init_37 : decode b_Puzzles_init 37 = .ok (.aload_n 0, 1) := by decide +kernel
theorem d_Puzzles_init_38 : decode b_Puzzles_init 38 = .ok (.bipush 6, 2) := by decide +kernel
theorem d_Puzzles_init_40 : decode b_Puzzles_init 40 = .ok (.newarray .int, 2) := by decide +kernel
theorem d_Puzzles_init_42 : decode b_Puzzles_init 42 = .ok (.putfield 25, 3) := by decide +kernel
theorem d_Puzzles_init_45 : decode b_Puzzles_init 45 = .ok (.return_, 1) := by decide +kernel
theorem d_Puzzles_has_0 : decode b_Puzzles_has 0 = .ok (.iload_n 1, 1) := by decide +kernel
theorem d_Puzzles_has_1 : decode b_Puzzles_has 1 = .ok (.ifCond .lt 15, 3) := by decide +kernel
theorem d_Puzzles_has_4 : decode b_Puzzles_has 4 = .ok (.iload_n 1, 1) := by decide +kernel
theorem d_Puzzles_has_5 : decode b_Puzzles_has 5 = .ok (.aload_n 0, 1) := by decide +kernel
theorem d_Puzzles_has_6 : decode b_Puzzles_has 6 = .ok (.getfield 28, 3) := by decide +kernel
theorem d_Puzzles_has_9 : decode b_Puzzles_has 9 = .ok (.if_icmp .ge 7, 3) := by decide +kernel
theorem d_Puzzles_has_12 : decode b_Puzzles_has 12 = .ok (.iconst 1, 1) := by decide +kernel
theorem d_Puzzles_has_13 : decode b_Puzzles_has 13 = .ok (.goto 4, 3) := by decide +kernel
theorem d_Puzzles_has_16 : decode b_Puzzles_has 16 = .ok (.iconst 0, 1) := by decide +kernel
theorem d_Puzzles_has_17 : decode b_Puzzles_has 17 = .ok (.ireturn, 1) := by decide +kernel
theorem d_Puzzles_add_0 : decode b_Puzzles_add 0 = .ok (.iload_n 1, 1) := by decide +kernel
theorem d_Puzzles_add_1 : decode b_Puzzles_add 1 = .ok (.iconst 1, 1) := by decide +kernel
theorem d_Puzzles_add_2 : decode b_Puzzles_add 2 = .ok (.if_icmp .lt 18, 3) := by decide +kernel
theorem d_Puzzles_add_5 : decode b_Puzzles_add 5 = .ok (.iload_n 1, 1) := by decide +kernel
theorem d_Puzzles_add_6 : decode b_Puzzles_add 6 = .ok (.bipush 100, 2) := by decide +kernel
theorem d_Puzzles_add_8 : decode b_Puzzles_add 8 = .ok (.if_icmp .gt 12, 3) := by decide +kernel
theorem d_Puzzles_add_11 : decode b_Puzzles_add 11 = .ok (.aload_n 0, 1) := by decide +kernel
theorem d_Puzzles_add_12 : decode b_Puzzles_add 12 = .ok (.getfield 28, 3) := by decide +kernel
theorem d_Puzzles_add_15 : decode b_Puzzles_add 15 = .ok (.bipush 20, 2) := by decide +kernel
theorem d_Puzzles_add_17 : decode b_Puzzles_add 17 = .ok (.if_icmp .lt 5, 3) := by decide +kernel
theorem d_Puzzles_add_20 : decode b_Puzzles_add 20 = .ok (.iconst (-1), 1) := by decide +kernel
theorem d_Puzzles_add_21 : decode b_Puzzles_add 21 = .ok (.ireturn, 1) := by decide +kernel
theorem d_Puzzles_add_22 : decode b_Puzzles_add 22 = .ok (.aload_n 0, 1) := by decide +kernel
theorem d_Puzzles_add_23 : decode b_Puzzles_add 23 = .ok (.getfield 11, 3) := by decide +kernel
theorem d_Puzzles_add_26 : decode b_Puzzles_add 26 = .ok (.aload_n 0, 1) := by decide +kernel
theorem d_Puzzles_add_27 : decode b_Puzzles_add 27 = .ok (.getfield 28, 3) := by decide +kernel
theorem d_Puzzles_add_30 : decode b_Puzzles_add 30 = .ok (.iload_n 1, 1) := by decide +kernel
theorem d_Puzzles_add_31 : decode b_Puzzles_add 31 = .ok (.iastore, 1) := by decide +kernel
theorem d_Puzzles_add_32 : decode b_Puzzles_add 32 = .ok (.aload_n 0, 1) := by decide +kernel
theorem d_Puzzles_add_33 : decode b_Puzzles_add 33 = .ok (.aload_n 0, 1) := by decide +kernel
theorem d_Puzzles_add_34 : decode b_Puzzles_add 34 = .ok (.getfield 28, 3) := by decide +kernel
theorem d_Puzzles_add_37 : decode b_Puzzles_add 37 = .ok (.invokevirtual 32, 3) := by decide +kernel
theorem d_Puzzles_add_40 : decode b_Puzzles_add 40 = .ok (.aload_n 0, 1) := by decide +kernel
theorem d_Puzzles_add_41 : decode b_Puzzles_add 41 = .ok (.iload_n 1, 1) := by decide +kernel
theorem d_Puzzles_add_42 : decode b_Puzzles_add 42 = .ok (.invokevirtual 36, 3) := by decide +kernel
theorem d_Puzzles_add_45 : decode b_Puzzles_add 45 = .ok (.aload_n 0, 1) := by decide +kernel
theorem d_Puzzles_add_46 : decode b_Puzzles_add 46 = .ok (.dup, 1) := by decide +kernel
theorem d_Puzzles_add_47 : decode b_Puzzles_add 47 = .ok (.getfield 39, 3) := by decide +kernel
theorem d_Puzzles_add_50 : decode b_Puzzles_add 50 = .ok (.iload_n 1, 1) := by decide +kernel
theorem d_Puzzles_add_51 : decode b_Puzzles_add 51 = .ok (.iadd, 1) := by decide +kernel
theorem d_Puzzles_add_52 : decode b_Puzzles_add 52 = .ok (.putfield 39, 3) := by decide +kernel
theorem d_Puzzles_add_55 : decode b_Puzzles_add 55 = .ok (.aload_n 0, 1) := by decide +kernel
theorem d_Puzzles_add_56 : decode b_Puzzles_add 56 = .ok (.dup, 1) := by decide +kernel
theorem d_Puzzles_add_57 : decode b_Puzzles_add 57 = .ok (.getfield 28, 3) := by decide +kernel
theorem d_Puzzles_add_60 : decode b_Puzzles_add 60 = .ok (.iconst 1, 1) := by decide +kernel
theorem d_Puzzles_add_61 : decode b_Puzzles_add 61 = .ok (.iadd, 1) := by decide +kernel
theorem d_Puzzles_add_62 : decode b_Puzzles_add 62 = .ok (.putfield 28, 3) := by decide +kernel
theorem d_Puzzles_add_65 : decode b_Puzzles_add 65 = .ok (.aload_n 0, 1) := by decide +kernel
theorem d_Puzzles_add_66 : decode b_Puzzles_add 66 = .ok (.getfield 28, 3) := by decide +kernel
theorem d_Puzzles_add_69 : decode b_Puzzles_add 69 = .ok (.iconst 1, 1) := by decide +kernel
theorem d_Puzzles_add_70 : decode b_Puzzles_add 70 = .ok (.isub, 1) := by decide +kernel
theorem d_Puzzles_add_71 : decode b_Puzzles_add 71 = .ok (.ireturn, 1) := by decide +kernel
theorem d_Puzzles_putFalling_0 : decode b_Puzzles_putFalling 0 = .ok (.iload_n 1, 1) := by decide +kernel
theorem d_Puzzles_putFalling_1 : decode b_Puzzles_putFalling 1 = .ok (.istore_n 2, 1) := by decide +kernel
theorem d_Puzzles_putFalling_2 : decode b_Puzzles_putFalling 2 = .ok (.iload_n 2, 1) := by decide +kernel
theorem d_Puzzles_putFalling_3 : decode b_Puzzles_putFalling 3 = .ok (.ifCond .le 45, 3) := by decide +kernel
theorem d_Puzzles_putFalling_6 : decode b_Puzzles_putFalling 6 = .ok (.aload_n 0, 1) := by decide +kernel
theorem d_Puzzles_putFalling_7 : decode b_Puzzles_putFalling 7 = .ok (.getfield 11, 3) := by decide +kernel
theorem d_Puzzles_putFalling_10 : decode b_Puzzles_putFalling 10 = .ok (.aload_n 0, 1) := by decide +kernel
theorem d_Puzzles_putFalling_11 : decode b_Puzzles_putFalling 11 = .ok (.getfield 15, 3) := by decide +kernel
theorem d_Puzzles_putFalling_14 : decode b_Puzzles_putFalling 14 = .ok (.iload_n 2, 1) := by decide +kernel
theorem d_Puzzles_putFalling_15 : decode b_Puzzles_putFalling 15 = .ok (.iconst 1, 1) := by decide +kernel
theorem d_Puzzles_putFalling_16 : decode b_Puzzles_putFalling 16 = .ok (.isub, 1) := by decide +kernel
theorem d_Puzzles_putFalling_17 : decode b_Puzzles_putFalling 17 = .ok (.iaload, 1) := by decide +kernel
theorem d_Puzzles_putFalling_18 : decode b_Puzzles_putFalling 18 = .ok (.iaload, 1) := by decide +kernel
theorem d_Puzzles_putFalling_19 : decode b_Puzzles_putFalling 19 = .ok (.aload_n 0, 1) := by decide +kernel
theorem d_Puzzles_putFalling_20 : decode b_Puzzles_putFalling 20 = .ok (.getfield 11, 3) := by decide +kernel
theorem d_Puzzles_putFalling_23 : decode b_Puzzles_putFalling 23 = .ok (.iload_n 1, 1) := by decide +kernel
theorem d_Puzzles_putFalling_24 : decode b_Puzzles_putFalling 24 = .ok (.iaload, 1) := by decide +kernel
theorem d_Puzzles_putFalling_25 : decode b_Puzzles_putFalling 25 = .ok (.if_icmp .ge 23, 3) := by decide +kernel
theorem d_Puzzles_putFalling_28 : decode b_Puzzles_putFalling 28 = .ok (.aload_n 0, 1) := by decide +kernel
theorem d_Puzzles_putFalling_29 : decode b_Puzzles_putFalling 29 = .ok (.getfield 15, 3) := by decide +kernel
theorem d_Puzzles_putFalling_32 : decode b_Puzzles_putFalling 32 = .ok (.iload_n 2, 1) := by decide +kernel
theorem d_Puzzles_putFalling_33 : decode b_Puzzles_putFalling 33 = .ok (.aload_n 0, 1) := by decide +kernel
theorem d_Puzzles_putFalling_34 : decode b_Puzzles_putFalling 34 = .ok (.getfield 15, 3) := by decide +kernel
theorem d_Puzzles_putFalling_37 : decode b_Puzzles_putFalling 37 = .ok (.iload_n 2, 1) := by decide +kernel
theorem d_Puzzles_putFalling_38 : decode b_Puzzles_putFalling 38 = .ok (.iconst 1, 1) := by decide +kernel
theorem d_Puzzles_putFalling_39 : decode b_Puzzles_putFalling 39 = .ok (.isub, 1) := by decide +kernel
theorem d_Puzzles_putFalling_40 : decode b_Puzzles_putFalling 40 = .ok (.iaload, 1) := by decide +kernel
theorem d_Puzzles_putFalling_41 : decode b_Puzzles_putFalling 41 = .ok (.iastore, 1) := by decide +kernel
theorem d_Puzzles_putFalling_42 : decode b_Puzzles_putFalling 42 = .ok (.iinc 2 (-1), 3) := by decide +kernel
theorem d_Puzzles_putFalling_45 : decode b_Puzzles_putFalling 45 = .ok (.goto (-43), 3) := by decide +kernel
theorem d_Puzzles_putFalling_48 : decode b_Puzzles_putFalling 48 = .ok (.aload_n 0, 1) := by decide +kernel
theorem d_Puzzles_putFalling_49 : decode b_Puzzles_putFalling 49 = .ok (.getfield 15, 3) := by decide +kernel
theorem d_Puzzles_putFalling_52 : decode b_Puzzles_putFalling 52 = .ok (.iload_n 2, 1) := by decide +kernel
theorem d_Puzzles_putFalling_53 : decode b_Puzzles_putFalling 53 = .ok (.iload_n 1, 1) := by decide +kernel
theorem d_Puzzles_putFalling_54 : decode b_Puzzles_putFalling 54 = .ok (.iastore, 1) := by decide +kernel
theorem d_Puzzles_putFalling_55 : decode b_Puzzles_putFalling 55 = .ok (.return_, 1) := by decide +kernel
theorem d_Puzzles_reachWith_0 : decode b_Puzzles_reachWith 0 = .ok (.aload_n 0, 1) := by decide +kernel
theorem d_Puzzles_reachWith_1 : decode b_Puzzles_reachWith 1 = .ok (.getfield 18, 3) := by decide +kernel
theorem d_Puzzles_reachWith_4 : decode b_Puzzles_reachWith 4 = .ok (.iconst 0, 1) := by decide +kernel
theorem d_Puzzles_reachWith_5 : decode b_Puzzles_reachWith 5 = .ok (.iconst 1, 1) := by decide +kernel
theorem d_Puzzles_reachWith_6 : decode b_Puzzles_reachWith 6 = .ok (.bastore, 1) := by decide +kernel
theorem d_Puzzles_reachWith_7 : decode b_Puzzles_reachWith 7 = .ok (.sipush 1000, 3) := by decide +kernel
theorem d_Puzzles_reachWith_10 : decode b_Puzzles_reachWith 10 = .ok (.istore_n 2, 1) := by decide +kernel
theorem d_Puzzles_reachWith_11 : decode b_Puzzles_reachWith 11 = .ok (.iload_n 2, 1) := by decide +kernel
theorem d_Puzzles_reachWith_12 : decode b_Puzzles_reachWith 12 = .ok (.iload_n 1, 1) := by decide +kernel
theorem d_Puzzles_reachWith_13 : decode b_Puzzles_reachWith 13 = .ok (.if_icmp .lt 27, 3) := by decide +kernel
theorem d_Puzzles_reachWith_16 : decode b_Puzzles_reachWith 16 = .ok (.aload_n 0, 1) := by decide +kernel
theorem d_Puzzles_reachWith_17 : decode b_Puzzles_reachWith 17 = .ok (.getfield 18, 3) := by decide +kernel
theorem d_Puzzles_reachWith_20 : decode b_Puzzles_reachWith 20 = .ok (.iload_n 2, 1) := by decide +kernel
theorem d_Puzzles_reachWith_21 : decode b_Puzzles_reachWith 21 = .ok (.iload_n 1, 1) := by decide +kernel
theorem d_Puzzles_reachWith_22 : decode b_Puzzles_reachWith 22 = .ok (.isub, 1) := by decide +kernel
theorem d_Puzzles_reachWith_23 : decode b_Puzzles_reachWith 23 = .ok (.baload, 1) := by decide +kernel
theorem d_Puzzles_reachWith_24 : decode b_Puzzles_reachWith 24 = .ok (.ifCond .eq 10, 3) := by decide +kernel
theorem d_Puzzles_reachWith_27 : decode b_Puzzles_reachWith 27 = .ok (.aload_n 0, 1) := by decide +kernel
theorem d_Puzzles_reachWith_28 : decode b_Puzzles_reachWith 28 = .ok (.getfield 18, 3) := by decide +kernel
theorem d_Puzzles_reachWith_31 : decode b_Puzzles_reachWith 31 = .ok (.iload_n 2, 1) := by decide +kernel
theorem d_Puzzles_reachWith_32 : decode b_Puzzles_reachWith 32 = .ok (.iconst 1, 1) := by decide +kernel
theorem d_Puzzles_reachWith_33 : decode b_Puzzles_reachWith 33 = .ok (.bastore, 1) := by decide +kernel
theorem d_Puzzles_reachWith_34 : decode b_Puzzles_reachWith 34 = .ok (.iinc 2 (-1), 3) := by decide +kernel
theorem d_Puzzles_reachWith_37 : decode b_Puzzles_reachWith 37 = .ok (.goto (-26), 3) := by decide +kernel
theorem d_Puzzles_reachWith_40 : decode b_Puzzles_reachWith 40 = .ok (.return_, 1) := by decide +kernel
theorem d_Puzzles_leastDifference_0 : decode b_Puzzles_leastDifference 0 = .ok (.aload_n 0, 1) := by decide +kernel
theorem d_Puzzles_leastDifference_1 : decode b_Puzzles_leastDifference 1 = .ok (.getfield 28, 3) := by decide +kernel
theorem d_Puzzles_leastDifference_4 : decode b_Puzzles_leastDifference 4 = .ok (.ifCond .ne 5, 3) := by decide +kernel
theorem d_Puzzles_leastDifference_7 : decode b_Puzzles_leastDifference 7 = .ok (.iconst (-1), 1) := by decide +kernel
theorem d_Puzzles_leastDifference_8 : decode b_Puzzles_leastDifference 8 = .ok (.ireturn, 1) := by decide +kernel
theorem d_Puzzles_leastDifference_9 : decode b_Puzzles_leastDifference 9 = .ok (.aload_n 0, 1) := by decide +kernel
theorem d_Puzzles_leastDifference_10 : decode b_Puzzles_leastDifference 10 = .ok (.getfield 39, 3) := by decide +kernel
theorem d_Puzzles_leastDifference_13 : decode b_Puzzles_leastDifference 13 = .ok (.iconst 2, 1) := by decide +kernel
theorem d_Puzzles_leastDifference_14 : decode b_Puzzles_leastDifference 14 = .ok (.idiv, 1) := by decide +kernel
theorem d_Puzzles_leastDifference_15 : decode b_Puzzles_leastDifference 15 = .ok (.istore_n 1, 1) := by decide +kernel
theorem d_Puzzles_leastDifference_16 : decode b_Puzzles_leastDifference 16 = .ok (.iload_n 1, 1) := by decide +kernel
theorem d_Puzzles_leastDifference_17 : decode b_Puzzles_leastDifference 17 = .ok (.ifCond .le 18, 3) := by decide +kernel
theorem d_Puzzles_leastDifference_20 : decode b_Puzzles_leastDifference 20 = .ok (.aload_n 0, 1) := by decide +kernel
theorem d_Puzzles_leastDifference_21 : decode b_Puzzles_leastDifference 21 = .ok (.getfield 18, 3) := by decide +kernel
theorem d_Puzzles_leastDifference_24 : decode b_Puzzles_leastDifference 24 = .ok (.iload_n 1, 1) := by decide +kernel
theorem d_Puzzles_leastDifference_25 : decode b_Puzzles_leastDifference 25 = .ok (.baload, 1) := by decide +kernel
theorem d_Puzzles_leastDifference_26 : decode b_Puzzles_leastDifference 26 = .ok (.ifCond .ne 9, 3) := by decide +kernel
theorem d_Puzzles_leastDifference_29 : decode b_Puzzles_leastDifference 29 = .ok (.iinc 1 (-1), 3) := by decide +kernel
theorem d_Puzzles_leastDifference_32 : decode b_Puzzles_leastDifference 32 = .ok (.goto (-16), 3) := by decide +kernel
theorem d_Puzzles_leastDifference_35 : decode b_Puzzles_leastDifference 35 = .ok (.aload_n 0, 1) := by decide +kernel
theorem d_Puzzles_leastDifference_36 : decode b_Puzzles_leastDifference 36 = .ok (.getfield 39, 3) := by decide +kernel
theorem d_Puzzles_leastDifference_39 : decode b_Puzzles_leastDifference 39 = .ok (.iconst 2, 1) := by decide +kernel
theorem d_Puzzles_leastDifference_40 : decode b_Puzzles_leastDifference 40 = .ok (.iload_n 1, 1) := by decide +kernel
theorem d_Puzzles_leastDifference_41 : decode b_Puzzles_leastDifference 41 = .ok (.imul, 1) := by decide +kernel
theorem d_Puzzles_leastDifference_42 : decode b_Puzzles_leastDifference 42 = .ok (.isub, 1) := by decide +kernel
theorem d_Puzzles_leastDifference_43 : decode b_Puzzles_leastDifference 43 = .ok (.ireturn, 1) := by decide +kernel
theorem d_Puzzles_setOf_0 : decode b_Puzzles_setOf 0 = .ok (.iconst 0, 1) := by decide +kernel
theorem d_Puzzles_setOf_1 : decode b_Puzzles_setOf 1 = .ok (.istore_n 3, 1) := by decide +kernel
theorem d_Puzzles_setOf_2 : decode b_Puzzles_setOf 2 = .ok (.iload_n 3, 1) := by decide +kernel
theorem d_Puzzles_setOf_3 : decode b_Puzzles_setOf 3 = .ok (.bipush 6, 2) := by decide +kernel
theorem d_Puzzles_setOf_5 : decode b_Puzzles_setOf 5 = .ok (.if_icmp .ge 23, 3) := by decide +kernel
theorem d_Puzzles_setOf_8 : decode b_Puzzles_setOf 8 = .ok (.aload_n 0, 1) := by decide +kernel
theorem d_Puzzles_setOf_9 : decode b_Puzzles_setOf 9 = .ok (.getfield 22, 3) := by decide +kernel
theorem d_Puzzles_setOf_12 : decode b_Puzzles_setOf 12 = .ok (.iload_n 3, 1) := by decide +kernel
theorem d_Puzzles_setOf_13 : decode b_Puzzles_setOf 13 = .ok (.iconst 0, 1) := by decide +kernel
theorem d_Puzzles_setOf_14 : decode b_Puzzles_setOf 14 = .ok (.iastore, 1) := by decide +kernel
theorem d_Puzzles_setOf_15 : decode b_Puzzles_setOf 15 = .ok (.aload_n 0, 1) := by decide +kernel
theorem d_Puzzles_setOf_16 : decode b_Puzzles_setOf 16 = .ok (.getfield 25, 3) := by decide +kernel
theorem d_Puzzles_setOf_19 : decode b_Puzzles_setOf 19 = .ok (.iload_n 3, 1) := by decide +kernel
theorem d_Puzzles_setOf_20 : decode b_Puzzles_setOf 20 = .ok (.iconst 0, 1) := by decide +kernel
theorem d_Puzzles_setOf_21 : decode b_Puzzles_setOf 21 = .ok (.iastore, 1) := by decide +kernel
theorem d_Puzzles_setOf_22 : decode b_Puzzles_setOf 22 = .ok (.iinc 3 1, 3) := by decide +kernel
theorem d_Puzzles_setOf_25 : decode b_Puzzles_setOf 25 = .ok (.goto (-23), 3) := by decide +kernel
theorem d_Puzzles_setOf_28 : decode b_Puzzles_setOf 28 = .ok (.iconst 0, 1) := by decide +kernel
theorem d_Puzzles_setOf_29 : decode b_Puzzles_setOf 29 = .ok (.istore_n 3, 1) := by decide +kernel
theorem d_Puzzles_setOf_30 : decode b_Puzzles_setOf 30 = .ok (.iload_n 3, 1) := by decide +kernel
theorem d_Puzzles_setOf_31 : decode b_Puzzles_setOf 31 = .ok (.aload_n 0, 1) := by decide +kernel
theorem d_Puzzles_setOf_32 : decode b_Puzzles_setOf 32 = .ok (.getfield 28, 3) := by decide +kernel
theorem d_Puzzles_setOf_35 : decode b_Puzzles_setOf 35 = .ok (.if_icmp .ge 61, 3) := by decide +kernel
theorem d_Puzzles_setOf_38 : decode b_Puzzles_setOf 38 = .ok (.aload_n 0, 1) := by decide +kernel
theorem d_Puzzles_setOf_39 : decode b_Puzzles_setOf 39 = .ok (.getfield 15, 3) := by decide +kernel
theorem d_Puzzles_setOf_42 : decode b_Puzzles_setOf 42 = .ok (.iload_n 3, 1) := by decide +kernel
theorem d_Puzzles_setOf_43 : decode b_Puzzles_setOf 43 = .ok (.iaload, 1) := by decide +kernel
theorem d_Puzzles_setOf_44 : decode b_Puzzles_setOf 44 = .ok (.istore 4, 2) := by decide +kernel
theorem d_Puzzles_setOf_46 : decode b_Puzzles_setOf 46 = .ok (.aload_n 0, 1) := by decide +kernel
theorem d_Puzzles_setOf_47 : decode b_Puzzles_setOf 47 = .ok (.iload_n 2, 1) := by decide +kernel
theorem d_Puzzles_setOf_48 : decode b_Puzzles_setOf 48 = .ok (.invokevirtual 42, 3) := by decide +kernel
theorem d_Puzzles_setOf_51 : decode b_Puzzles_setOf 51 = .ok (.istore 5, 2) := by decide +kernel
theorem d_Puzzles_setOf_53 : decode b_Puzzles_setOf 53 = .ok (.iload 4, 2) := by decide +kernel
theorem d_Puzzles_setOf_55 : decode b_Puzzles_setOf 55 = .ok (.iload_n 1, 1) := by decide +kernel
theorem d_Puzzles_setOf_56 : decode b_Puzzles_setOf 56 = .ok (.if_icmp .ne 6, 3) := by decide +kernel
theorem d_Puzzles_setOf_59 : decode b_Puzzles_setOf 59 = .ok (.iload 5, 2) := by decide +kernel
theorem d_Puzzles_setOf_61 : decode b_Puzzles_setOf 61 = .ok (.ireturn, 1) := by decide +kernel
theorem d_Puzzles_setOf_62 : decode b_Puzzles_setOf 62 = .ok (.aload_n 0, 1) := by decide +kernel
theorem d_Puzzles_setOf_63 : decode b_Puzzles_setOf 63 = .ok (.getfield 22, 3) := by decide +kernel
theorem d_Puzzles_setOf_66 : decode b_Puzzles_setOf 66 = .ok (.iload 5, 2) := by decide +kernel
theorem d_Puzzles_setOf_68 : decode b_Puzzles_setOf 68 = .ok (.dup2, 1) := by decide +kernel
theorem d_Puzzles_setOf_69 : decode b_Puzzles_setOf 69 = .ok (.iaload, 1) := by decide +kernel
theorem d_Puzzles_setOf_70 : decode b_Puzzles_setOf 70 = .ok (.aload_n 0, 1) := by decide +kernel
theorem d_Puzzles_setOf_71 : decode b_Puzzles_setOf 71 = .ok (.getfield 11, 3) := by decide +kernel
theorem d_Puzzles_setOf_74 : decode b_Puzzles_setOf 74 = .ok (.iload 4, 2) := by decide +kernel
theorem d_Puzzles_setOf_76 : decode b_Puzzles_setOf 76 = .ok (.iaload, 1) := by decide +kernel
theorem d_Puzzles_setOf_77 : decode b_Puzzles_setOf 77 = .ok (.iadd, 1) := by decide +kernel
theorem d_Puzzles_setOf_78 : decode b_Puzzles_setOf 78 = .ok (.iastore, 1) := by decide +kernel
theorem d_Puzzles_setOf_79 : decode b_Puzzles_setOf 79 = .ok (.aload_n 0, 1) := by decide +kernel
theorem d_Puzzles_setOf_80 : decode b_Puzzles_setOf 80 = .ok (.getfield 25, 3) := by decide +kernel
theorem d_Puzzles_setOf_83 : decode b_Puzzles_setOf 83 = .ok (.iload 5, 2) := by decide +kernel
theorem d_Puzzles_setOf_85 : decode b_Puzzles_setOf 85 = .ok (.dup2, 1) := by decide +kernel
theorem d_Puzzles_setOf_86 : decode b_Puzzles_setOf 86 = .ok (.iaload, 1) := by decide +kernel
theorem d_Puzzles_setOf_87 : decode b_Puzzles_setOf 87 = .ok (.iconst 1, 1) := by decide +kernel
theorem d_Puzzles_setOf_88 : decode b_Puzzles_setOf 88 = .ok (.iadd, 1) := by decide +kernel
theorem d_Puzzles_setOf_89 : decode b_Puzzles_setOf 89 = .ok (.iastore, 1) := by decide +kernel
theorem d_Puzzles_setOf_90 : decode b_Puzzles_setOf 90 = .ok (.iinc 3 1, 3) := by decide +kernel
theorem d_Puzzles_setOf_93 : decode b_Puzzles_setOf 93 = .ok (.goto (-63), 3) := by decide +kernel
theorem d_Puzzles_setOf_96 : decode b_Puzzles_setOf 96 = .ok (.iconst (-1), 1) := by decide +kernel
theorem d_Puzzles_setOf_97 : decode b_Puzzles_setOf 97 = .ok (.ireturn, 1) := by decide +kernel
theorem d_Puzzles_leastSet_0 : decode b_Puzzles_leastSet 0 = .ok (.iconst 0, 1) := by decide +kernel
theorem d_Puzzles_leastSet_1 : decode b_Puzzles_leastSet 1 = .ok (.istore_n 2, 1) := by decide +kernel
theorem d_Puzzles_leastSet_2 : decode b_Puzzles_leastSet 2 = .ok (.iconst 1, 1) := by decide +kernel
theorem d_Puzzles_leastSet_3 : decode b_Puzzles_leastSet 3 = .ok (.istore_n 3, 1) := by decide +kernel
theorem d_Puzzles_leastSet_4 : decode b_Puzzles_leastSet 4 = .ok (.iload_n 3, 1) := by decide +kernel
theorem d_Puzzles_leastSet_5 : decode b_Puzzles_leastSet 5 = .ok (.iload_n 1, 1) := by decide +kernel
theorem d_Puzzles_leastSet_6 : decode b_Puzzles_leastSet 6 = .ok (.if_icmp .ge 80, 3) := by decide +kernel
theorem d_Puzzles_leastSet_9 : decode b_Puzzles_leastSet 9 = .ok (.aload_n 0, 1) := by decide +kernel
theorem d_Puzzles_leastSet_10 : decode b_Puzzles_leastSet 10 = .ok (.getfield 22, 3) := by decide +kernel
theorem d_Puzzles_leastSet_13 : decode b_Puzzles_leastSet 13 = .ok (.iload_n 3, 1) := by decide +kernel
theorem d_Puzzles_leastSet_14 : decode b_Puzzles_leastSet 14 = .ok (.iaload, 1) := by decide +kernel
theorem d_Puzzles_leastSet_15 : decode b_Puzzles_leastSet 15 = .ok (.aload_n 0, 1) := by decide +kernel
theorem d_Puzzles_leastSet_16 : decode b_Puzzles_leastSet 16 = .ok (.getfield 22, 3) := by decide +kernel
theorem d_Puzzles_leastSet_19 : decode b_Puzzles_leastSet 19 = .ok (.iload_n 2, 1) := by decide +kernel
theorem d_Puzzles_leastSet_20 : decode b_Puzzles_leastSet 20 = .ok (.iaload, 1) := by decide +kernel
theorem d_Puzzles_leastSet_21 : decode b_Puzzles_leastSet 21 = .ok (.if_icmp .ge 7, 3) := by decide +kernel
theorem d_Puzzles_leastSet_24 : decode b_Puzzles_leastSet 24 = .ok (.iconst 1, 1) := by decide +kernel
theorem d_Puzzles_leastSet_25 : decode b_Puzzles_leastSet 25 = .ok (.goto 4, 3) := by decide +kernel
theorem d_Puzzles_leastSet_28 : decode b_Puzzles_leastSet 28 = .ok (.iconst 0, 1) := by decide +kernel
theorem d_Puzzles_leastSet_29 : decode b_Puzzles_leastSet 29 = .ok (.istore 4, 2) := by decide +kernel
theorem d_Puzzles_leastSet_31 : decode b_Puzzles_leastSet 31 = .ok (.aload_n 0, 1) := by decide +kernel
theorem d_Puzzles_leastSet_32 : decode b_Puzzles_leastSet 32 = .ok (.getfield 22, 3) := by decide +kernel
theorem d_Puzzles_leastSet_35 : decode b_Puzzles_leastSet 35 = .ok (.iload_n 3, 1) := by decide +kernel
theorem d_Puzzles_leastSet_36 : decode b_Puzzles_leastSet 36 = .ok (.iaload, 1) := by decide +kernel
theorem d_Puzzles_leastSet_37 : decode b_Puzzles_leastSet 37 = .ok (.aload_n 0, 1) := by decide +kernel
theorem d_Puzzles_leastSet_38 : decode b_Puzzles_leastSet 38 = .ok (.getfield 22, 3) := by decide +kernel
theorem d_Puzzles_leastSet_41 : decode b_Puzzles_leastSet 41 = .ok (.iload_n 2, 1) := by decide +kernel
theorem d_Puzzles_leastSet_42 : decode b_Puzzles_leastSet 42 = .ok (.iaload, 1) := by decide +kernel
theorem d_Puzzles_leastSet_43 : decode b_Puzzles_leastSet 43 = .ok (.if_icmp .ne 7, 3) := by decide +kernel
theorem d_Puzzles_leastSet_46 : decode b_Puzzles_leastSet 46 = .ok (.iconst 1, 1) := by decide +kernel
theorem d_Puzzles_leastSet_47 : decode b_Puzzles_leastSet 47 = .ok (.goto 4, 3) := by decide +kernel
theorem d_Puzzles_leastSet_50 : decode b_Puzzles_leastSet 50 = .ok (.iconst 0, 1) := by decide +kernel
theorem d_Puzzles_leastSet_51 : decode b_Puzzles_leastSet 51 = .ok (.istore 5, 2) := by decide +kernel
theorem d_Puzzles_leastSet_53 : decode b_Puzzles_leastSet 53 = .ok (.iload 4, 2) := by decide +kernel
theorem d_Puzzles_leastSet_55 : decode b_Puzzles_leastSet 55 = .ok (.ifCond .ne 23, 3) := by decide +kernel
theorem d_Puzzles_leastSet_58 : decode b_Puzzles_leastSet 58 = .ok (.iload 5, 2) := by decide +kernel
theorem d_Puzzles_leastSet_60 : decode b_Puzzles_leastSet 60 = .ok (.ifCond .eq 20, 3) := by decide +kernel
theorem d_Puzzles_leastSet_63 : decode b_Puzzles_leastSet 63 = .ok (.aload_n 0, 1) := by decide +kernel
theorem d_Puzzles_leastSet_64 : decode b_Puzzles_leastSet 64 = .ok (.getfield 25, 3) := by decide +kernel
theorem d_Puzzles_leastSet_67 : decode b_Puzzles_leastSet 67 = .ok (.iload_n 3, 1) := by decide +kernel
theorem d_Puzzles_leastSet_68 : decode b_Puzzles_leastSet 68 = .ok (.iaload, 1) := by decide +kernel
theorem d_Puzzles_leastSet_69 : decode b_Puzzles_leastSet 69 = .ok (.aload_n 0, 1) := by decide +kernel
theorem d_Puzzles_leastSet_70 : decode b_Puzzles_leastSet 70 = .ok (.getfield 25, 3) := by decide +kernel
theorem d_Puzzles_leastSet_73 : decode b_Puzzles_leastSet 73 = .ok (.iload_n 2, 1) := by decide +kernel
theorem d_Puzzles_leastSet_74 : decode b_Puzzles_leastSet 74 = .ok (.iaload, 1) := by decide +kernel
theorem d_Puzzles_leastSet_75 : decode b_Puzzles_leastSet 75 = .ok (.if_icmp .ge 5, 3) := by decide +kernel
theorem d_Puzzles_leastSet_78 : decode b_Puzzles_leastSet 78 = .ok (.iload_n 3, 1) := by decide +kernel
theorem d_Puzzles_leastSet_79 : decode b_Puzzles_leastSet 79 = .ok (.istore_n 2, 1) := by decide +kernel
theorem d_Puzzles_leastSet_80 : decode b_Puzzles_leastSet 80 = .ok (.iinc 3 1, 3) := by decide +kernel
theorem d_Puzzles_leastSet_83 : decode b_Puzzles_leastSet 83 = .ok (.goto (-79), 3) := by decide +kernel
theorem d_Puzzles_leastSet_86 : decode b_Puzzles_leastSet 86 = .ok (.iload_n 2, 1) := by decide +kernel
theorem d_Puzzles_leastSet_87 : decode b_Puzzles_leastSet 87 = .ok (.ireturn, 1) := by decide +kernel
end
section
theorem d_RuleText_init_0 : decode b_RuleText_init 0 = .ok (.aload_n 0, 1) := by decide +kernel
theorem d_RuleText_init_1 : decode b_RuleText_init 1 = .ok (.invokespecial 1, 3) := by decide +kernel
theorem d_RuleText_init_4 : decode b_RuleText_init 4 = .ok (.aload_n 0, 1) := by decide +kernel
theorem d_RuleText_init_5 : decode b_RuleText_init 5 = .ok (.bipush 100, 2) := by decide +kernel
theorem d_RuleText_init_7 : decode b_RuleText_init 7 = .ok (.newarray .int, 2) := by decide +kernel
theorem d_RuleText_init_9 : decode b_RuleText_init 9 = .ok (.putfield 9, 3) := by decide +kernel
theorem d_RuleText_init_12 : decode b_RuleText_init 12 = .ok (.return_, 1) := by decide +kernel
theorem d_RuleText_add_0 : decode b_RuleText_add 0 = .ok (.iload_n 1, 1) := by decide +kernel
theorem d_RuleText_add_1 : decode b_RuleText_add 1 = .ok (.ifCond .lt 19, 3) := by decide +kernel
theorem d_RuleText_add_4 : decode b_RuleText_add 4 = .ok (.iload_n 1, 1) := by decide +kernel
theorem d_RuleText_add_5 : decode b_RuleText_add 5 = .ok (.sipush 255, 3) := by decide +kernel
theorem d_RuleText_add_8 : decode b_RuleText_add 8 = .ok (.if_icmp .gt 12, 3) := by decide +kernel
theorem d_RuleText_add_11 : decode b_RuleText_add 11 = .ok (.aload_n 0, 1) := by decide +kernel
theorem d_RuleText_add_12 : decode b_RuleText_add 12 = .ok (.getfield 13, 3) := by decide +kernel
theorem d_RuleText_add_15 : decode b_RuleText_add 15 = .ok (.bipush 100, 2) := by decide +kernel
theorem d_RuleText_add_17 : decode b_RuleText_add 17 = .ok (.if_icmp .lt 5, 3) := by decide +kernel
theorem d_RuleText_add_20 : decode b_RuleText_add 20 = .ok (.iconst 0, 1) := by decide +kernel
theorem d_RuleText_add_21 : decode b_RuleText_add 21 = .ok (.ireturn, 1) := by decide +kernel
theorem d_RuleText_add_22 : decode b_RuleText_add 22 = .ok (.aload_n 0, 1) := by decide +kernel
theorem d_RuleText_add_23 : decode b_RuleText_add 23 = .ok (.getfield 9, 3) := by decide +kernel
theorem d_RuleText_add_26 : decode b_RuleText_add 26 = .ok (.aload_n 0, 1) := by decide +kernel
theorem d_RuleText_add_27 : decode b_RuleText_add 27 = .ok (.getfield 13, 3) := by decide +kernel
theorem d_RuleText_add_30 : decode b_RuleText_add 30 = .ok (.iload_n 1, 1) := by decide +kernel
theorem d_RuleText_add_31 : decode b_RuleText_add 31 = .ok (.iastore, 1) := by decide +kernel
theorem d_RuleText_add_32 : decode b_RuleText_add 32 = .ok (.aload_n 0, 1) := by decide +kernel
theorem d_RuleText_add_33 : decode b_RuleText_add 33 = .ok (.dup, 1) := by decide +kernel
theorem d_RuleText_add_34 : decode b_RuleText_add 34 = .ok (.getfield 13, 3) := by decide +kernel
theorem d_RuleText_add_37 : decode b_RuleText_add 37 = .ok (.iconst 1, 1) := by decide +kernel
theorem d_RuleText_add_38 : decode b_RuleText_add 38 = .ok (.iadd, 1) := by decide +kernel
theorem d_RuleText_add_39 : decode b_RuleText_add 39 = .ok (.putfield 13, 3) := by decide +kernel
theorem d_RuleText_add_42 : decode b_RuleText_add 42 = .ok (.iconst 1, 1) := by decide +kernel
theorem d_RuleText_add_43 : decode b_RuleText_add 43 = .ok (.ireturn, 1) := by decide +kernel
theorem d_RuleText_clear_0 : decode b_RuleText_clear 0 = .ok (.aload_n 0, 1) := by decide +kernel
theorem d_RuleText_clear_1 : decode b_RuleText_clear 1 = .ok (.iconst 0, 1) := by decide +kernel
theorem d_RuleText_clear_2 : decode b_RuleText_clear 2 = .ok (.putfield 13, 3) := by decide +kernel
theorem d_RuleText_clear_5 : decode b_RuleText_clear 5 = .ok (.return_, 1) := by decide +kernel
theorem d_RuleText_read_0 : decode b_RuleText_read 0 = .ok (.aload_n 1, 1) := by decide +kernel
theorem d_RuleText_read_1 : decode b_RuleText_read 1 = .ok (.invokevirtual 17, 3) := by decide +kernel
theorem d_RuleText_read_4 : decode b_RuleText_read 4 = .ok (.iconst 0, 1) := by decide +kernel
theorem d_RuleText_read_5 : decode b_RuleText_read 5 = .ok (.istore_n 2, 1) := by decide +kernel
theorem d_RuleText_read_6 : decode b_RuleText_read 6 = .ok (.iconst 0, 1) := by decide +kernel
theorem d_RuleText_read_7 : decode b_RuleText_read 7 = .ok (.istore_n 3, 1) := by decide +kernel
theorem d_RuleText_read_8 : decode b_RuleText_read 8 = .ok (.iload_n 3, 1) := by decide +kernel
theorem d_RuleText_read_9 : decode b_RuleText_read 9 = .ok (.aload_n 0, 1) := by decide +kernel
theorem d_RuleText_read_10 : decode b_RuleText_read 10 = .ok (.getfield 13, 3) := by decide +kernel
theorem d_RuleText_read_13 : decode b_RuleText_read 13 = .ok (.if_icmp .ge 127, 3) := by decide +kernel
theorem d_RuleText_read_16 : decode b_RuleText_read 16 = .ok (.ldc 22, 2) := by decide +kernel
theorem d_RuleText_read_18 : decode b_RuleText_read 18 = .ok (.aload_n 0, 1) := by decide +kernel
theorem d_RuleText_read_19 : decode b_RuleText_read 19 = .ok (.getfield 9, 3) := by decide +kernel
theorem d_RuleText_read_22 : decode b_RuleText_read 22 = .ok (.iload_n 3, 1) := by decide +kernel
theorem d_RuleText_read_23 : decode b_RuleText_read 23 = .ok (.iaload, 1) := by decide +kernel
theorem d_RuleText_read_24 : decode b_RuleText_read 24 = .ok (.i2c, 1) := by decide +kernel
theorem d_RuleText_read_25 : decode b_RuleText_read 25 = .ok (.invokevirtual 24, 3) := by decide +kernel
theorem d_RuleText_read_28 : decode b_RuleText_read 28 = .ok (.istore 4, 2) := by decide +kernel
theorem d_RuleText_read_30 : decode b_RuleText_read 30 = .ok (.iload 4, 2) := by decide +kernel
theorem d_RuleText_read_32 : decode b_RuleText_read 32 = .ok (.ifCond .ge 8, 3) := by decide +kernel
theorem d_RuleText_read_35 : decode b_RuleText_read 35 = .ok (.iload_n 3, 1) := by decide +kernel
theorem d_RuleText_read_36 : decode b_RuleText_read 36 = .ok (.invokestatic 30, 3) := by decide +kernel
theorem d_RuleText_read_39 : decode b_RuleText_read 39 = .ok (.ireturn, 1) := by decide +kernel
theorem d_RuleText_read_40 : decode b_RuleText_read 40 = .ok (.aload_n 0, 1) := by decide +kernel
theorem d_RuleText_read_41 : decode b_RuleText_read 41 = .ok (.iload_n 3, 1) := by decide +kernel
theorem d_RuleText_read_42 : decode b_RuleText_read 42 = .ok (.iconst 1, 1) := by decide +kernel
theorem d_RuleText_read_43 : decode b_RuleText_read 43 = .ok (.iadd, 1) := by decide +kernel
theorem d_RuleText_read_44 : decode b_RuleText_read 44 = .ok (.invokevirtual 33, 3) := by decide +kernel
theorem d_RuleText_read_47 : decode b_RuleText_read 47 = .ok (.istore 5, 2) := by decide +kernel
theorem d_RuleText_read_49 : decode b_RuleText_read 49 = .ok (.iload 5, 2) := by decide +kernel
theorem d_RuleText_read_51 : decode b_RuleText_read 51 = .ok (.iload_n 3, 1) := by decide +kernel
theorem d_RuleText_read_52 : decode b_RuleText_read 52 = .ok (.iconst 1, 1) := by decide +kernel
theorem d_RuleText_read_53 : decode b_RuleText_read 53 = .ok (.iadd, 1) := by decide +kernel
theorem d_RuleText_read_54 : decode b_RuleText_read 54 = .ok (.if_icmp .ne 9, 3) := by decide +kernel
theorem d_RuleText_read_57 : decode b_RuleText_read 57 = .ok (.iload 5, 2) := by decide +kernel
theorem d_RuleText_read_59 : decode b_RuleText_read 59 = .ok (.invokestatic 30, 3) := by decide +kernel
theorem d_RuleText_read_62 : decode b_RuleText_read 62 = .ok (.ireturn, 1) := by decide +kernel
theorem d_RuleText_read_63 : decode b_RuleText_read 63 = .ok (.aload_n 0, 1) := by decide +kernel
theorem d_RuleText_read_64 : decode b_RuleText_read 64 = .ok (.iload_n 3, 1) := by decide +kernel
theorem d_RuleText_read_65 : decode b_RuleText_read 65 = .ok (.iconst 1, 1) := by decide +kernel
theorem d_RuleText_read_66 : decode b_RuleText_read 66 = .ok (.iadd, 1) := by decide +kernel
theorem d_RuleText_read_67 : decode b_RuleText_read 67 = .ok (.iload 5, 2) := by decide +kernel
theorem d_RuleText_read_69 : decode b_RuleText_read 69 = .ok (.invokevirtual 36, 3) := by decide +kernel
theorem d_RuleText_read_72 : decode b_RuleText_read 72 = .ok (.istore 6, 2) := by decide +kernel
theorem d_RuleText_read_74 : decode b_RuleText_read 74 = .ok (.iload 4, 2) := by decide +kernel
theorem d_RuleText_read_76 : decode b_RuleText_read 76 = .ok (.iconst 4, 1) := by decide +kernel
theorem d_RuleText_read_77 : decode b_RuleText_read 77 = .ok (.if_icmp .ne 17, 3) := by decide +kernel
theorem d_RuleText_read_80 : decode b_RuleText_read 80 = .ok (.iload 6, 2) := by decide +kernel
theorem d_RuleText_read_82 : decode b_RuleText_read 82 = .ok (.iconst 1, 1) := by decide +kernel
theorem d_RuleText_read_83 : decode b_RuleText_read 83 = .ok (.if_icmp .le 11, 3) := by decide +kernel
theorem d_RuleText_read_86 : decode b_RuleText_read 86 = .ok (.iload 5, 2) := by decide +kernel
theorem d_RuleText_read_88 : decode b_RuleText_read 88 = .ok (.iconst 1, 1) := by decide +kernel
theorem d_RuleText_read_89 : decode b_RuleText_read 89 = .ok (.isub, 1) := by decide +kernel
theorem d_RuleText_read_90 : decode b_RuleText_read 90 = .ok (.invokestatic 30, 3) := by decide +kernel
theorem d_RuleText_read_93 : decode b_RuleText_read 93 = .ok (.ireturn, 1) := by decide +kernel
theorem d_RuleText_read_94 : decode b_RuleText_read 94 = .ok (.iload 5, 2) := by decide +kernel
theorem d_RuleText_read_96 : decode b_RuleText_read 96 = .ok (.aload_n 0, 1) := by decide +kernel
theorem d_RuleText_read_97 : decode b_RuleText_read 97 = .ok (.getfield 13, 3) := by decide +kernel
theorem d_RuleText_read_100 : decode b_RuleText_read 100 = .ok (.if_icmp .ge 15, 3) := by decide +kernel
theorem d_RuleText_read_103 : decode b_RuleText_read 103 = .ok (.aload_n 0, 1) := by decide +kernel
theorem d_RuleText_read_104 : decode b_RuleText_read 104 = .ok (.getfield 9, 3) := by decide +kernel
theorem d_RuleText_read_107 : decode b_RuleText_read 107 = .ok (.iload 5, 2) := by decide +kernel
theorem d_RuleText_read_109 : decode b_RuleText_read 109 = .ok (.iaload, 1) := by decide +kernel
theorem d_RuleText_read_110 : decode b_RuleText_read 110 = .ok (.bipush 59, 2) := by decide +kernel
theorem d_RuleText_read_112 : decode b_RuleText_read 112 = .ok (.if_icmp .eq 9, 3) := by decide +kernel
theorem d_RuleText_read_115 : decode b_RuleText_read 115 = .ok (.iload 5, 2) := by decide +kernel
theorem d_RuleText_read_117 : decode b_RuleText_read 117 = .ok (.invokestatic 30, 3) := by decide +kernel
theorem d_RuleText_read_120 : decode b_RuleText_read 120 = .ok (.ireturn, 1) := by decide +kernel
theorem d_RuleText_read_121 : decode b_RuleText_read 121 = .ok (.aload_n 1, 1) := by decide +kernel
theorem d_RuleText_read_122 : decode b_RuleText_read 122 = .ok (.iload 4, 2) := by decide +kernel
theorem d_RuleText_read_124 : decode b_RuleText_read 124 = .ok (.iload 6, 2) := by decide +kernel
theorem d_RuleText_read_126 : decode b_RuleText_read 126 = .ok (.invokevirtual 40, 3) := by decide +kernel
theorem d_RuleText_read_129 : decode b_RuleText_read 129 = .ok (.iinc 2 1, 3) := by decide +kernel
theorem d_RuleText_read_132 : decode b_RuleText_read 132 = .ok (.iload 5, 2) := by decide +kernel
theorem d_RuleText_read_134 : decode b_RuleText_read 134 = .ok (.iconst 1, 1) := by decide +kernel
theorem d_RuleText_read_135 : decode b_RuleText_read 135 = .ok (.iadd, 1) := by decide +kernel
theorem d_RuleText_read_136 : decode b_RuleText_read 136 = .ok (.istore_n 3, 1) := by decide +kernel
theorem d_RuleText_read_137 : decode b_RuleText_read 137 = .ok (.goto (-129), 3) := by decide +kernel
theorem d_RuleText_read_140 : decode b_RuleText_read 140 = .ok (.aload_n 1, 1) := by decide +kernel
theorem d_RuleText_read_141 : decode b_RuleText_read 141 = .ok (.invokevirtual 44, 3) := by decide +kernel
theorem d_RuleText_read_144 : decode b_RuleText_read 144 = .ok (.iload_n 2, 1) := by decide +kernel
theorem d_RuleText_read_145 : decode b_RuleText_read 145 = .ok (.ireturn, 1) := by decide +kernel
theorem d_RuleText_refusal_0 : decode b_RuleText_refusal 0 = .ok (.iconst (-1), 1) := by decide +kernel
theorem d_RuleText_refusal_1 : decode b_RuleText_refusal 1 = .ok (.iload_n 0, 1) := by decide +kernel
theorem d_RuleText_refusal_2 : decode b_RuleText_refusal 2 = .ok (.isub, 1) := by decide +kernel
theorem d_RuleText_refusal_3 : decode b_RuleText_refusal 3 = .ok (.ireturn, 1) := by decide +kernel
theorem d_RuleText_endOfDigits_0 : decode b_RuleText_endOfDigits 0 = .ok (.iload_n 1, 1) := by decide +kernel
theorem d_RuleText_endOfDigits_1 : decode b_RuleText_endOfDigits 1 = .ok (.istore_n 2, 1) := by decide +kernel
theorem d_RuleText_endOfDigits_2 : decode b_RuleText_endOfDigits 2 = .ok (.iload_n 2, 1) := by decide +kernel
theorem d_RuleText_endOfDigits_3 : decode b_RuleText_endOfDigits 3 = .ok (.aload_n 0, 1) := by decide +kernel
theorem d_RuleText_endOfDigits_4 : decode b_RuleText_endOfDigits 4 = .ok (.getfield 13, 3) := by decide +kernel
theorem d_RuleText_endOfDigits_7 : decode b_RuleText_endOfDigits 7 = .ok (.if_icmp .ge 38, 3) := by decide +kernel
theorem d_RuleText_endOfDigits_10 : decode b_RuleText_endOfDigits 10 = .ok (.iload_n 2, 1) := by decide +kernel
theorem d_RuleText_endOfDigits_11 : decode b_RuleText_endOfDigits 11 = .ok (.iload_n 1, 1) := by decide +kernel
theorem d_RuleText_endOfDigits_12 : decode b_RuleText_endOfDigits 12 = .ok (.iconst 4, 1) := by decide +kernel
theorem d_RuleText_endOfDigits_13 : decode b_RuleText_endOfDigits 13 = .ok (.iadd, 1) := by decide +kernel
theorem d_RuleText_endOfDigits_14 : decode b_RuleText_endOfDigits 14 = .ok (.if_icmp .ge 31, 3) := by decide +kernel
theorem d_RuleText_endOfDigits_17 : decode b_RuleText_endOfDigits 17 = .ok (.aload_n 0, 1) := by decide +kernel
theorem d_RuleText_endOfDigits_18 : decode b_RuleText_endOfDigits 18 = .ok (.getfield 9, 3) := by decide +kernel
theorem d_RuleText_endOfDigits_21 : decode b_RuleText_endOfDigits 21 = .ok (.iload_n 2, 1) := by decide +kernel
theorem d_RuleText_endOfDigits_22 : decode b_RuleText_endOfDigits 22 = .ok (.iaload, 1) := by decide +kernel
theorem d_RuleText_endOfDigits_23 : decode b_RuleText_endOfDigits 23 = .ok (.bipush 48, 2) := by decide +kernel
theorem d_RuleText_endOfDigits_25 : decode b_RuleText_endOfDigits 25 = .ok (.if_icmp .lt 20, 3) := by decide +kernel
theorem d_RuleText_endOfDigits_28 : decode b_RuleText_endOfDigits 28 = .ok (.aload_n 0, 1) := by decide +kernel
theorem d_RuleText_endOfDigits_29 : decode b_RuleText_endOfDigits 29 = .ok (.getfield 9, 3) := by decide +kernel
theorem d_RuleText_endOfDigits_32 : decode b_RuleText_endOfDigits 32 = .ok (.iload_n 2, 1) := by decide +kernel
theorem d_RuleText_endOfDigits_33 : decode b_RuleText_endOfDigits 33 = .ok (.iaload, 1) := by decide +kernel
theorem d_RuleText_endOfDigits_34 : decode b_RuleText_endOfDigits 34 = .ok (.bipush 57, 2) := by decide +kernel
theorem d_RuleText_endOfDigits_36 : decode b_RuleText_endOfDigits 36 = .ok (.if_icmp .gt 9, 3) := by decide +kernel
theorem d_RuleText_endOfDigits_39 : decode b_RuleText_endOfDigits 39 = .ok (.iinc 2 1, 3) := by decide +kernel
theorem d_RuleText_endOfDigits_42 : decode b_RuleText_endOfDigits 42 = .ok (.goto (-40), 3) := by decide +kernel
theorem d_RuleText_endOfDigits_45 : decode b_RuleText_endOfDigits 45 = .ok (.iload_n 2, 1) := by decide +kernel
theorem d_RuleText_endOfDigits_46 : decode b_RuleText_endOfDigits 46 = .ok (.ireturn, 1) := by decide +kernel
theorem d_RuleText_number_0 : decode b_RuleText_number 0 = .ok (.iconst 0, 1) := by decide +kernel
theorem d_RuleText_number_1 : decode b_RuleText_number 1 = .ok (.istore_n 3, 1) := by decide +kernel
theorem d_RuleText_number_2 : decode b_RuleText_number 2 = .ok (.iload_n 1, 1) := by decide +kernel
theorem d_RuleText_number_3 : decode b_RuleText_number 3 = .ok (.istore 4, 2) := by decide +kernel
theorem d_RuleText_number_5 : decode b_RuleText_number 5 = .ok (.iload 4, 2) := by decide +kernel
theorem d_RuleText_number_7 : decode b_RuleText_number 7 = .ok (.iload_n 2, 1) := by decide +kernel
theorem d_RuleText_number_8 : decode b_RuleText_number 8 = .ok (.if_icmp .ge 25, 3) := by decide +kernel
theorem d_RuleText_number_11 : decode b_RuleText_number 11 = .ok (.iload_n 3, 1) := by decide +kernel
theorem d_RuleText_number_12 : decode b_RuleText_number 12 = .ok (.bipush 10, 2) := by decide +kernel
theorem d_RuleText_number_14 : decode b_RuleText_number 14 = .ok (.imul, 1) := by decide +kernel
theorem d_RuleText_number_15 : decode b_RuleText_number 15 = .ok (.aload_n 0, 1) := by decide +kernel
theorem d_RuleText_number_16 : decode b_RuleText_number 16 = .ok (.getfield 9, 3) := by decide +kernel
theorem d_RuleText_number_19 : decode b_RuleText_number 19 = .ok (.iload 4, 2) := by decide +kernel
theorem d_RuleText_number_21 : decode b_RuleText_number 21 = .ok (.iaload, 1) := by decide +kernel
theorem d_RuleText_number_22 : decode b_RuleText_number 22 = .ok (.bipush 48, 2) := by decide +kernel
theorem d_RuleText_number_24 : decode b_RuleText_number 24 = .ok (.isub, 1) := by decide +kernel
theorem d_RuleText_number_25 : decode b_RuleText_number 25 = .ok (.iadd, 1) := by decide +kernel
theorem d_RuleText_number_26 : decode b_RuleText_number 26 = .ok (.istore_n 3, 1) := by decide +kernel
theorem d_RuleText_number_27 : decode b_RuleText_number 27 = .ok (.iinc 4 1, 3) := by decide +kernel
theorem d_RuleText_number_30 : decode b_RuleText_number 30 = .ok (.goto (-25), 3) := by decide +kernel
theorem d_RuleText_number_33 : decode b_RuleText_number 33 = .ok (.iload_n 3, 1) := by decide +kernel
theorem d_RuleText_number_34 : decode b_RuleText_number 34 = .ok (.ireturn, 1) := by decide +kernel
end
section
theorem d_Rules_init_0 : decode b_Rules_init 0 = .ok (.aload_n 0, 1) := by decide +kernel
theorem d_Rules_init_1 : decode b_Rules_init 1 = .ok (.invokespecial 1, 3) := by decide +kernel
theorem d_Rules_init_4 : decode b_Rules_init 4 = .ok (.aload_n 0, 1) := by decide +kernel
theorem d_Rules_init_5 : decode b_Rules_init 5 = .ok (.iconst 5, 1) := by decide +kernel
theorem d_Rules_init_6 : decode b_Rules_init 6 = .ok (.newarray .int, 2) := by decide +kernel
theorem d_Rules_init_8 : decode b_Rules_init 8 = .ok (.dup, 1) := by decide +kernel
theorem d_Rules_init_9 : decode b_Rules_init 9 = .ok (.iconst 0, 1) := by decide +kernel
theorem d_Rules_init_10 : decode b_Rules_init 10 = .ok (.bipush 100, 2) := by decide +kernel
theorem d_Rules_init_12 : decode b_Rules_init 12 = .ok (.iastore, 1) := by decide +kernel
theorem d_Rules_init_13 : decode b_Rules_init 13 = .ok (.dup, 1) := by decide +kernel
theorem d_Rules_init_14 : decode b_Rules_init 14 = .ok (.iconst 1, 1) := by decide +kernel
theorem d_Rules_init_15 : decode b_Rules_init 15 = .ok (.iconst 0, 1) := by decide +kernel
theorem d_Rules_init_16 : decode b_Rules_init 16 = .ok (.iastore, 1) := by decide +kernel
theorem d_Rules_init_17 : decode b_Rules_init 17 = .ok (.dup, 1) := by decide +kernel
theorem d_Rules_init_18 : decode b_Rules_init 18 = .ok (.iconst 2, 1) := by decide +kernel
theorem d_Rules_init_19 : decode b_Rules_init 19 = .ok (.iconst 0, 1) := by decide +kernel
theorem d_Rules_init_20 : decode b_Rules_init 20 = .ok (.iastore, 1) := by decide +kernel
theorem d_Rules_init_21 : decode b_Rules_init 21 = .ok (.dup, 1) := by decide +kernel
theorem d_Rules_init_22 : decode b_Rules_init 22 = .ok (.iconst 3, 1) := by decide +kernel
theorem d_Rules_init_23 : decode b_Rules_init 23 = .ok (.sipush 3600, 3) := by decide +kernel
theorem d_Rules_init_26 : decode b_Rules_init 26 = .ok (.iastore, 1) := by decide +kernel
theorem d_Rules_init_27 : decode b_Rules_init 27 = .ok (.dup, 1) := by decide +kernel
theorem d_Rules_init_28 : decode b_Rules_init 28 = .ok (.iconst 4, 1) := by decide +kernel
theorem d_Rules_init_29 : decode b_Rules_init 29 = .ok (.iconst 1, 1) := by decide +kernel
theorem d_Rules_init_30 : decode b_Rules_init 30 = .ok (.iastore, 1) := by decide +kernel
theorem d_Rules_init_31 : decode b_Rules_init 31 = .ok (.putfield 7, 3) := by decide +kernel
theorem d_Rules_init_34 : decode b_Rules_init 34 = .ok (.aload_n 0, 1) := by decide +kernel
theorem d_Rules_init_35 : decode b_Rules_init 35 = .ok (.iconst 5, 1) := by decide +kernel
theorem d_Rules_init_36 : decode b_Rules_init 36 = .ok (.newarray .int, 2) := by decide +kernel
theorem d_Rules_init_38 : decode b_Rules_init 38 = .ok (.dup, 1) := by decide +kernel
theorem d_Rules_init_39 : decode b_Rules_init 39 = .ok (.iconst 0, 1) := by decide +kernel
theorem d_Rules_init_40 : decode b_Rules_init 40 = .ok (.bipush 100, 2) := by decide +kernel
theorem d_Rules_init_42 : decode b_Rules_init 42 = .ok (.iastore, 1) := by decide +kernel
theorem d_Rules_init_43 : decode b_Rules_init 43 = .ok (.dup, 1) := by decide +kernel
theorem d_Rules_init_44 : decode b_Rules_init 44 = .ok (.iconst 1, 1) := by decide +kernel
theorem d_Rules_init_45 : decode b_Rules_init 45 = .ok (.iconst 0, 1) := by decide +kernel
theorem d_Rules_init_46 : decode b_Rules_init 46 = .ok (.iastore, 1) := by decide +kernel
theorem d_Rules_init_47 : decode b_Rules_init 47 = .ok (.dup, 1) := by decide +kernel
theorem d_Rules_init_48 : decode b_Rules_init 48 = .ok (.iconst 2, 1) := by decide +kernel
theorem d_Rules_init_49 : decode b_Rules_init 49 = .ok (.iconst 0, 1) := by decide +kernel
theorem d_Rules_init_50 : decode b_Rules_init 50 = .ok (.iastore, 1) := by decide +kernel
theorem d_Rules_init_51 : decode b_Rules_init 51 = .ok (.dup, 1) := by decide +kernel
theorem d_Rules_init_52 : decode b_Rules_init 52 = .ok (.iconst 3, 1) := by decide +kernel
theorem d_Rules_init_53 : decode b_Rules_init 53 = .ok (.sipush 3600, 3) := by decide +kernel
theorem d_Rules_init_56 : decode b_Rules_init 56 = .ok (.iastore, 1) := by decide +kernel
theorem d_Rules_init_57 : decode b_Rules_init 57 = .ok (.dup, 1) := by decide +kernel
theorem d_Rules_init_58 : decode b_Rules_init 58 = .ok (.iconst 4, 1) := by decide +kernel
theorem d_Rules_init_59 : decode b_Rules_init 59 = .ok (.iconst 1, 1) := by decide +kernel
theorem d_Rules_init_60 : decode b_Rules_init 60 = .ok (.iastore, 1) := by decide +kernel
theorem d_Rules_init_61 : decode b_Rules_init 61 = .ok (.putfield 13, 3) := by decide +kernel
theorem d_Rules_init_64 : decode b_Rules_init 64 = .ok (.return_, 1) := by decide +kernel
theorem d_Rules_beginTelling_0 : decode b_Rules_beginTelling 0 = .ok (.aload_n 0, 1) := by decide +kernel
theorem d_Rules_beginTelling_1 : decode b_Rules_beginTelling 1 = .ok (.getfield 7, 3) := by decide +kernel
theorem d_Rules_beginTelling_4 : decode b_Rules_beginTelling 4 = .ok (.iconst 0, 1) := by decide +kernel
theorem d_Rules_beginTelling_5 : decode b_Rules_beginTelling 5 = .ok (.aload_n 0, 1) := by decide +kernel
theorem d_Rules_beginTelling_6 : decode b_Rules_beginTelling 6 = .ok (.getfield 13, 3) := by decide +kernel
theorem d_Rules_beginTelling_9 : decode b_Rules_beginTelling 9 = .ok (.iconst 0, 1) := by decide +kernel
theorem d_Rules_beginTelling_10 : decode b_Rules_beginTelling 10 = .ok (.aload_n 0, 1) := by decide +kernel
theorem d_Rules_beginTelling_11 : decode b_Rules_beginTelling 11 = .ok (.getfield 7, 3) := by decide +kernel
theorem d_Rules_beginTelling_14 : decode b_Rules_beginTelling 14 = .ok (.arraylength, 1) := by decide +kernel
theorem d_Rules_beginTelling_15 : decode b_Rules_beginTelling 15 = .ok (.invokestatic 16, 3) := by decide +kernel
theorem d_Rules_beginTelling_18 : decode b_Rules_beginTelling 18 = .ok (.return_, 1) := by decide +kernel
theorem d_Rules_tell_0 : decode b_Rules_tell 0 = .ok (.aload_n 0, 1) := by decide +kernel
theorem d_Rules_tell_1 : decode b_Rules_tell 1 = .ok (.getfield 13, 3) := by decide +kernel
theorem d_Rules_tell_4 : decode b_Rules_tell 4 = .ok (.iload_n 1, 1) := by decide +kernel
theorem d_Rules_tell_5 : decode b_Rules_tell 5 = .ok (.iload_n 2, 1) := by decide +kernel
theorem d_Rules_tell_6 : decode b_Rules_tell 6 = .ok (.iastore, 1) := by decide +kernel
theorem d_Rules_tell_7 : decode b_Rules_tell 7 = .ok (.return_, 1) := by decide +kernel
theorem d_Rules_endTelling_0 : decode b_Rules_endTelling 0 = .ok (.aload_n 0, 1) := by decide +kernel
theorem d_Rules_endTelling_1 : decode b_Rules_endTelling 1 = .ok (.getfield 13, 3) := by decide +kernel
theorem d_Rules_endTelling_4 : decode b_Rules_endTelling 4 = .ok (.iconst 0, 1) := by decide +kernel
theorem d_Rules_endTelling_5 : decode b_Rules_endTelling 5 = .ok (.aload_n 0, 1) := by decide +kernel
theorem d_Rules_endTelling_6 : decode b_Rules_endTelling 6 = .ok (.getfield 7, 3) := by decide +kernel
theorem d_Rules_endTelling_9 : decode b_Rules_endTelling 9 = .ok (.iconst 0, 1) := by decide +kernel
theorem d_Rules_endTelling_10 : decode b_Rules_endTelling 10 = .ok (.aload_n 0, 1) := by decide +kernel
theorem d_Rules_endTelling_11 : decode b_Rules_endTelling 11 = .ok (.getfield 7, 3) := by decide +kernel
theorem d_Rules_endTelling_14 : decode b_Rules_endTelling 14 = .ok (.arraylength, 1) := by decide +kernel
theorem d_Rules_endTelling_15 : decode b_Rules_endTelling 15 = .ok (.invokestatic 16, 3) := by decide +kernel
theorem d_Rules_endTelling_18 : decode b_Rules_endTelling 18 = .ok (.return_, 1) := by decide +kernel
theorem d_Rules_isLate_0 : decode b_Rules_isLate 0 = .ok (.iload_n 1, 1) := by decide +kernel
theorem d_Rules_isLate_1 : decode b_Rules_isLate 1 = .ok (.aload_n 0, 1) := by decide +kernel
theorem d_Rules_isLate_2 : decode b_Rules_isLate 2 = .ok (.getfield 7, 3) := by decide +kernel
theorem d_Rules_isLate_5 : decode b_Rules_isLate 5 = .ok (.iconst 3, 1) := by decide +kernel
theorem d_Rules_isLate_6 : decode b_Rules_isLate 6 = .ok (.iaload, 1) := by decide +kernel
theorem d_Rules_isLate_7 : decode b_Rules_isLate 7 = .ok (.if_icmp .le 7, 3) := by decide +kernel
theorem d_Rules_isLate_10 : decode b_Rules_isLate 10 = .ok (.iconst 1, 1) := by decide +kernel
theorem d_Rules_isLate_11 : decode b_Rules_isLate 11 = .ok (.goto 4, 3) := by decide +kernel
theorem d_Rules_isLate_14 : decode b_Rules_isLate 14 = .ok (.iconst 0, 1) := by decide +kernel
theorem d_Rules_isLate_15 : decode b_Rules_isLate 15 = .ok (.ireturn, 1) := by decide +kernel
theorem d_Rules_timesPart_0 : decode b_Rules_timesPart 0 = .ok (.aload_n 0, 1) := by decide +kernel
theorem d_Rules_timesPart_1 : decode b_Rules_timesPart 1 = .ok (.getfield 7, 3) := by decide +kernel
theorem d_Rules_timesPart_4 : decode b_Rules_timesPart 4 = .ok (.iconst 4, 1) := by decide +kernel
theorem d_Rules_timesPart_5 : decode b_Rules_timesPart 5 = .ok (.iaload, 1) := by decide +kernel
theorem d_Rules_timesPart_6 : decode b_Rules_timesPart 6 = .ok (.iconst 1, 1) := by decide +kernel
theorem d_Rules_timesPart_7 : decode b_Rules_timesPart 7 = .ok (.if_icmp .ne 7, 3) := by decide +kernel
theorem d_Rules_timesPart_10 : decode b_Rules_timesPart 10 = .ok (.iconst 1, 1) := by decide +kernel
theorem d_Rules_timesPart_11 : decode b_Rules_timesPart 11 = .ok (.goto 4, 3) := by decide +kernel
theorem d_Rules_timesPart_14 : decode b_Rules_timesPart 14 = .ok (.iconst 0, 1) := by decide +kernel
theorem d_Rules_timesPart_15 : decode b_Rules_timesPart 15 = .ok (.ireturn, 1) := by decide +kernel
theorem d_Rules_worth_0 : decode b_Rules_worth 0 = .ok (.iload_n 1, 1) := by decide +kernel
theorem d_Rules_worth_1 : decode b_Rules_worth 1 = .ok (.i2l, 1) := by decide +kernel
theorem d_Rules_worth_2 : decode b_Rules_worth 2 = .ok (.aload_n 0, 1) := by decide +kernel
theorem d_Rules_worth_3 : decode b_Rules_worth 3 = .ok (.getfield 7, 3) := by decide +kernel
theorem d_Rules_worth_6 : decode b_Rules_worth 6 = .ok (.iconst 0, 1) := by decide +kernel
theorem d_Rules_worth_7 : decode b_Rules_worth 7 = .ok (.iaload, 1) := by decide +kernel
theorem d_Rules_worth_8 : decode b_Rules_worth 8 = .ok (.i2l, 1) := by decide +kernel
theorem d_Rules_worth_9 : decode b_Rules_worth 9 = .ok (.lmul, 1) := by decide +kernel
theorem d_Rules_worth_10 : decode b_Rules_worth 10 = .ok (.lstore 4, 2) := by decide +kernel
theorem d_Rules_worth_12 : decode b_Rules_worth 12 = .ok (.iload_n 1, 1) := by decide +kernel
theorem d_Rules_worth_13 : decode b_Rules_worth 13 = .ok (.i2l, 1) := by decide +kernel
theorem d_Rules_worth_14 : decode b_Rules_worth 14 = .ok (.aload_n 0, 1) := by decide +kernel
theorem d_Rules_worth_15 : decode b_Rules_worth 15 = .ok (.getfield 7, 3) := by decide +kernel
theorem d_Rules_worth_18 : decode b_Rules_worth 18 = .ok (.iconst 1, 1) := by decide +kernel
theorem d_Rules_worth_19 : decode b_Rules_worth 19 = .ok (.iaload, 1) := by decide +kernel
theorem d_Rules_worth_20 : decode b_Rules_worth 20 = .ok (.i2l, 1) := by decide +kernel
theorem d_Rules_worth_21 : decode b_Rules_worth 21 = .ok (.lmul, 1) := by decide +kernel
theorem d_Rules_worth_22 : decode b_Rules_worth 22 = .ok (.iload_n 2, 1) := by decide +kernel
theorem d_Rules_worth_23 : decode b_Rules_worth 23 = .ok (.bipush 60, 2) := by decide +kernel
theorem d_Rules_worth_25 : decode b_Rules_worth 25 = .ok (.idiv, 1) := by decide +kernel
theorem d_Rules_worth_26 : decode b_Rules_worth 26 = .ok (.i2l, 1) := by decide +kernel
theorem d_Rules_worth_27 : decode b_Rules_worth 27 = .ok (.lmul, 1) := by decide +kernel
theorem d_Rules_worth_28 : decode b_Rules_worth 28 = .ok (.lstore 6, 2) := by decide +kernel
theorem d_Rules_worth_30 : decode b_Rules_worth 30 = .ok (.aload_n 0, 1) := by decide +kernel
theorem d_Rules_worth_31 : decode b_Rules_worth 31 = .ok (.getfield 7, 3) := by decide +kernel
theorem d_Rules_worth_34 : decode b_Rules_worth 34 = .ok (.iconst 2, 1) := by decide +kernel
theorem d_Rules_worth_35 : decode b_Rules_worth 35 = .ok (.iaload, 1) := by decide +kernel
theorem d_Rules_worth_36 : decode b_Rules_worth 36 = .ok (.i2l, 1) := by decide +kernel
theorem d_Rules_worth_37 : decode b_Rules_worth 37 = .ok (.iload_n 3, 1) := by decide +kernel
theorem d_Rules_worth_38 : decode b_Rules_worth 38 = .ok (.i2l, 1) := by decide +kernel
theorem d_Rules_worth_39 : decode b_Rules_worth 39 = .ok (.lmul, 1) := by decide +kernel
theorem d_Rules_worth_40 : decode b_Rules_worth 40 = .ok (.lstore 8, 2) := by decide +kernel
theorem d_Rules_worth_42 : decode b_Rules_worth 42 = .ok (.lconst 0, 1) := by decide +kernel
theorem d_Rules_worth_43 : decode b_Rules_worth 43 = .ok (.lload 4, 2) := by decide +kernel
theorem d_Rules_worth_45 : decode b_Rules_worth 45 = .ok (.lload 6, 2) := by decide +kernel
theorem d_Rules_worth_47 : decode b_Rules_worth 47 = .ok (.lsub, 1) := by decide +kernel
theorem d_Rules_worth_48 : decode b_Rules_worth 48 = .ok (.lload 8, 2) := by decide +kernel
theorem d_Rules_worth_50 : decode b_Rules_worth 50 = .ok (.lsub, 1) := by decide +kernel
theorem d_Rules_worth_51 : decode b_Rules_worth 51 = .ok (.invokestatic 22, 3) := by decide +kernel
theorem d_Rules_worth_54 : decode b_Rules_worth 54 = .ok (.lreturn, 1) := by decide +kernel
end
section
theorem d_Submissions_init_0 : decode b_Submissions_init 0 = .ok (.aload_n 0, 1) := by decide +kernel
theorem d_Submissions_init_1 : decode b_Submissions_init 1 = .ok (.invokespecial 3, 3) := by decide +kernel
theorem d_Submissions_init_4 : decode b_Submissions_init 4 = .ok (.aload_n 0, 1) := by decide +kernel
theorem d_Submissions_init_5 : decode b_Submissions_init 5 = .ok (.sipush 300, 3) := by decide +kernel
theorem d_Submissions_init_8 : decode b_Submissions_init 8 = .ok (.newarray .int, 2) := by decide +kernel
theorem d_Submissions_init_10 : decode b_Submissions_init 10 = .ok (.putfield 9, 3) := by decide +kernel
theorem d_Submissions_init_13 : decode b_Submissions_init 13 = .ok (.aload_n 0, 1) := by decide +kernel
theorem d_Submissions_init_14 : decode b_Submissions_init 14 = .ok (.sipush 300, 3) := by decide +kernel
theorem d_Submissions_init_17 : decode b_Submissions_init 17 = .ok (.newarray .int, 2) := by decide +kernel
theorem d_Submissions_init_19 : decode b_Submissions_init 19 = .ok (.putfield 15, 3) := by decide +kernel
theorem d_Submissions_init_22 : decode b_Submissions_init 22 = .ok (.aload_n 0, 1) := by decide +kernel
theorem d_Submissions_init_23 : decode b_Submissions_init 23 = .ok (.sipush 300, 3) := by decide +kernel
theorem d_Submissions_init_26 : decode b_Submissions_init 26 = .ok (.newarray .int, 2) := by decide +kernel
theorem d_Submissions_init_28 : decode b_Submissions_init 28 = .ok (.putfield 18, 3) := by decide +kernel
theorem d_Submissions_init_31 : decode b_Submissions_init 31 = .ok (.aload_n 0, 1) := by decide +kernel
theorem d_Submissions_init_32 : decode b_Submissions_init 32 = .ok (.sipush 300, 3) := by decide +kernel
theorem d_Submissions_init_35 : decode b_Submissions_init 35 = .ok (.newarray .boolean, 2) := by decide +kernel
theorem d_Submissions_init_37 : decode b_Submissions_init 37 = .ok (.putfield 21, 3) := by decide +kernel
theorem d_Submissions_init_40 : decode b_Submissions_init 40 = .ok (.aload_n 0, 1) := by decide +kernel
theorem d_Submissions_init_41 : decode b_Submissions_init 41 = .ok (.sipush 300, 3) := by decide +kernel
theorem d_Submissions_init_44 : decode b_Submissions_init 44 = .ok (.newarray .int, 2) := by decide +kernel
theorem d_Submissions_init_46 : decode b_Submissions_init 46 = .ok (.putfield 25, 3) := by decide +kernel
theorem d_Submissions_init_49 : decode b_Submissions_init 49 = .ok (.aload_n 0, 1) := by decide +kernel
theorem d_Submissions_init_50 : decode b_Submissions_init 50 = .ok (.sipush 300, 3) := by decide +kernel
theorem d_Submissions_init_53 : decode b_Submissions_init 53 = .ok (.newarray .int, 2) := by decide +kernel
theorem d_Submissions_init_55 : decode b_Submissions_init 55 = .ok (.putfield 28, 3) := by decide +kernel
theorem d_Submissions_init_58 : decode b_Submissions_init 58 = .ok (.return_, 1) := by decide +kernel
theorem d_Submissions_has_0 : decode b_Submissions_has 0 = .ok (.iload_n 1, 1) := by decide +kernel
theorem d_Submissions_has_1 : decode b_Submissions_has 1 = .ok (.ifCond .lt 15, 3) := by decide +kernel
theorem d_Submissions_has_4 : decode b_Submissions_has 4 = .ok (.iload_n 1, 1) := by decide +kernel
theorem d_Submissions_has_5 : decode b_Submissions_has 5 = .ok (.aload_n 0, 1) := by decide +kernel
theorem d_Submissions_has_6 : decode b_Submissions_has 6 = .ok (.getfield 31, 3) := by decide +kernel
theorem d_Submissions_has_9 : decode b_Submissions_has 9 = .ok (.if_icmp .ge 7, 3) := by decide +kernel
theorem d_Submissions_has_12 : decode b_Submissions_has 12 = .ok (.iconst 1, 1) := by decide +kernel
theorem d_Submissions_has_13 : decode b_Submissions_has 13 = .ok (.goto 4, 3) := by decide +kernel
theorem d_Submissions_has_16 : decode b_Submissions_has 16 = .ok (.iconst 0, 1) := by decide +kernel
theorem d_Submissions_has_17 : decode b_Submissions_has 17 = .ok (.ireturn, 1) := by decide +kernel
theorem d_Submissions_add_0 : decode b_Submissions_add 0 = .ok (.aload_n 0, 1) := by decide +kernel
theorem d_Submissions_add_1 : decode b_Submissions_add 1 = .ok (.getfield 31, 3) := by decide +kernel
theorem d_Submissions_add_4 : decode b_Submissions_add 4 = .ok (.sipush 300, 3) := by decide +kernel
theorem d_Submissions_add_7 : decode b_Submissions_add 7 = .ok (.if_icmp .lt 5, 3) := by decide +kernel
theorem d_Submissions_add_10 : decode b_Submissions_add 10 = .ok (.iconst (-1), 1) := by decide +kernel
theorem d_Submissions_add_11 : decode b_Submissions_add 11 = .ok (.ireturn, 1) := by decide +kernel
theorem d_Submissions_add_12 : decode b_Submissions_add 12 = .ok (.aload_n 0, 1) := by decide +kernel
theorem d_Submissions_add_13 : decode b_Submissions_add 13 = .ok (.getfield 9, 3) := by decide +kernel
theorem d_Submissions_add_16 : decode b_Submissions_add 16 = .ok (.aload_n 0, 1) := by decide +kernel
theorem d_Submissions_add_17 : decode b_Submissions_add 17 = .ok (.getfield 31, 3) := by decide +kernel
theorem d_Submissions_add_20 : decode b_Submissions_add 20 = .ok (.iload_n 1, 1) := by decide +kernel
theorem d_Submissions_add_21 : decode b_Submissions_add 21 = .ok (.iastore, 1) := by decide +kernel
theorem d_Submissions_add_22 : decode b_Submissions_add 22 = .ok (.aload_n 0, 1) := by decide +kernel
theorem d_Submissions_add_23 : decode b_Submissions_add 23 = .ok (.getfield 15, 3) := by decide +kernel
theorem d_Submissions_add_26 : decode b_Submissions_add 26 = .ok (.aload_n 0, 1) := by decide +kernel
theorem d_Submissions_add_27 : decode b_Submissions_add 27 = .ok (.getfield 31, 3) := by decide +kernel
theorem d_Submissions_add_30 : decode b_Submissions_add 30 = .ok (.iload_n 2, 1) := by decide +kernel
theorem d_Submissions_add_31 : decode b_Submissions_add 31 = .ok (.iastore, 1) := by decide +kernel
theorem d_Submissions_add_32 : decode b_Submissions_add 32 = .ok (.aload_n 0, 1) := by decide +kernel
theorem d_Submissions_add_33 : decode b_Submissions_add 33 = .ok (.getfield 18, 3) := by decide +kernel
theorem d_Submissions_add_36 : decode b_Submissions_add 36 = .ok (.aload_n 0, 1) := by decide +kernel
theorem d_Submissions_add_37 : decode b_Submissions_add 37 = .ok (.getfield 31, 3) := by decide +kernel
theorem d_Submissions_add_40 : decode b_Submissions_add 40 = .ok (.iload_n 3, 1) := by decide +kernel
theorem d_Submissions_add_41 : decode b_Submissions_add 41 = .ok (.iastore, 1) := by decide +kernel
theorem d_Submissions_add_42 : decode b_Submissions_add 42 = .ok (.aload_n 0, 1) := by decide +kernel
theorem d_Submissions_add_43 : decode b_Submissions_add 43 = .ok (.getfield 28, 3) := by decide +kernel
theorem d_Submissions_add_46 : decode b_Submissions_add 46 = .ok (.aload_n 0, 1) := by decide +kernel
theorem d_Submissions_add_47 : decode b_Submissions_add 47 = .ok (.getfield 31, 3) := by decide +kernel
theorem d_Submissions_add_50 : decode b_Submissions_add 50 = .ok (.iload 4, 2) := by decide +kernel
theorem d_Submissions_add_52 : decode b_Submissions_add 52 = .ok (.iastore, 1) := by decide +kernel
theorem d_Submissions_add_53 : decode b_Submissions_add 53 = .ok (.aload_n 0, 1) := by decide +kernel
theorem d_Submissions_add_54 : decode b_Submissions_add 54 = .ok (.getfield 21, 3) := by decide +kernel
theorem d_Submissions_add_57 : decode b_Submissions_add 57 = .ok (.aload_n 0, 1) := by decide +kernel
theorem d_Submissions_add_58 : decode b_Submissions_add 58 = .ok (.getfield 31, 3) := by decide +kernel
theorem d_Submissions_add_61 : decode b_Submissions_add 61 = .ok (.iload 5, 2) := by decide +kernel
theorem d_Submissions_add_63 : decode b_Submissions_add 63 = .ok (.bastore, 1) := by decide +kernel
theorem d_Submissions_add_64 : decode b_Submissions_add 64 = .ok (.aload_n 0, 1) := by decide +kernel
theorem d_Submissions_add_65 : decode b_Submissions_add 65 = .ok (.aload_n 0, 1) := by decide +kernel
theorem d_Submissions_add_66 : decode b_Submissions_add 66 = .ok (.getfield 31, 3) := by decide +kernel
theorem d_Submissions_add_69 : decode b_Submissions_add 69 = .ok (.invokevirtual 35, 3) := by decide +kernel
theorem d_Submissions_add_72 : decode b_Submissions_add 72 = .ok (.aload_n 0, 1) := by decide +kernel
theorem d_Submissions_add_73 : decode b_Submissions_add 73 = .ok (.dup, 1) := by decide +kernel
theorem d_Submissions_add_74 : decode b_Submissions_add 74 = .ok (.getfield 31, 3) := by decide +kernel
theorem d_Submissions_add_77 : decode b_Submissions_add 77 = .ok (.iconst 1, 1) := by decide +kernel
theorem d_Submissions_add_78 : decode b_Submissions_add 78 = .ok (.iadd, 1) := by decide +kernel
theorem d_Submissions_add_79 : decode b_Submissions_add 79 = .ok (.putfield 31, 3) := by decide +kernel
theorem d_Submissions_add_82 : decode b_Submissions_add 82 = .ok (.aload_n 0, 1) := by decide +kernel
theorem d_Submissions_add_83 : decode b_Submissions_add 83 = .ok (.getfield 31, 3) := by decide +kernel
theorem d_Submissions_add_86 : decode b_Submissions_add 86 = .ok (.iconst 1, 1) := by decide +kernel
theorem d_Submissions_add_87 : decode b_Submissions_add 87 = .ok (.isub, 1) := by decide +kernel
theorem d_Submissions_add_88 : decode b_Submissions_add 88 = .ok (.ireturn, 1) := by decide +kernel
theorem d_Submissions_putInTime_0 : decode b_Submissions_putInTime 0 = .ok (.iload_n 1, 1) := by decide +kernel
theorem d_Submissions_putInTime_1 : decode b_Submissions_putInTime 1 = .ok (.istore_n 2, 1) := by decide +kernel
theorem d_Submissions_putInTime_2 : decode b_Submissions_putInTime 2 = .ok (.iload_n 2, 1) := by decide +kernel
theorem d_Submissions_putInTime_3 : decode b_Submissions_putInTime 3 = .ok (.ifCond .le 45, 3) := by decide +kernel
theorem d_Submissions_putInTime_6 : decode b_Submissions_putInTime 6 = .ok (.aload_n 0, 1) := by decide +kernel
theorem d_Submissions_putInTime_7 : decode b_Submissions_putInTime 7 = .ok (.getfield 18, 3) := by decide +kernel
theorem d_Submissions_putInTime_10 : decode b_Submissions_putInTime 10 = .ok (.aload_n 0, 1) := by decide +kernel
theorem d_Submissions_putInTime_11 : decode b_Submissions_putInTime 11 = .ok (.getfield 25, 3) := by decide +kernel
theorem d_Submissions_putInTime_14 : decode b_Submissions_putInTime 14 = .ok (.iload_n 2, 1) := by decide +kernel
theorem d_Submissions_putInTime_15 : decode b_Submissions_putInTime 15 = .ok (.iconst 1, 1) := by decide +kernel
theorem d_Submissions_putInTime_16 : decode b_Submissions_putInTime 16 = .ok (.isub, 1) := by decide +kernel
theorem d_Submissions_putInTime_17 : decode b_Submissions_putInTime 17 = .ok (.iaload, 1) := by decide +kernel
theorem d_Submissions_putInTime_18 : decode b_Submissions_putInTime 18 = .ok (.iaload, 1) := by decide +kernel
theorem d_Submissions_putInTime_19 : decode b_Submissions_putInTime 19 = .ok (.aload_n 0, 1) := by decide +kernel
theorem d_Submissions_putInTime_20 : decode b_Submissions_putInTime 20 = .ok (.getfield 18, 3) := by decide +kernel
theorem d_Submissions_putInTime_23 : decode b_Submissions_putInTime 23 = .ok (.iload_n 1, 1) := by decide +kernel
theorem d_Submissions_putInTime_24 : decode b_Submissions_putInTime 24 = .ok (.iaload, 1) := by decide +kernel
theorem d_Submissions_putInTime_25 : decode b_Submissions_putInTime 25 = .ok (.if_icmp .le 23, 3) := by decide +kernel
theorem d_Submissions_putInTime_28 : decode b_Submissions_putInTime 28 = .ok (.aload_n 0, 1) := by decide +kernel
theorem d_Submissions_putInTime_29 : decode b_Submissions_putInTime 29 = .ok (.getfield 25, 3) := by decide +kernel
theorem d_Submissions_putInTime_32 : decode b_Submissions_putInTime 32 = .ok (.iload_n 2, 1) := by decide +kernel
theorem d_Submissions_putInTime_33 : decode b_Submissions_putInTime 33 = .ok (.aload_n 0, 1) := by decide +kernel
theorem d_Submissions_putInTime_34 : decode b_Submissions_putInTime 34 = .ok (.getfield 25, 3) := by decide +kernel
theorem d_Submissions_putInTime_37 : decode b_Submissions_putInTime 37 = .ok (.iload_n 2, 1) := by decide +kernel
theorem d_Submissions_putInTime_38 : decode b_Submissions_putInTime 38 = .ok (.iconst 1, 1) := by decide +kernel
theorem d_Submissions_putInTime_39 : decode b_Submissions_putInTime 39 = .ok (.isub, 1) := by decide +kernel
theorem d_Submissions_putInTime_40 : decode b_Submissions_putInTime 40 = .ok (.iaload, 1) := by decide +kernel
theorem d_Submissions_putInTime_41 : decode b_Submissions_putInTime 41 = .ok (.iastore, 1) := by decide +kernel
theorem d_Submissions_putInTime_42 : decode b_Submissions_putInTime 42 = .ok (.iinc 2 (-1), 3) := by decide +kernel
theorem d_Submissions_putInTime_45 : decode b_Submissions_putInTime 45 = .ok (.goto (-43), 3) := by decide +kernel
theorem d_Submissions_putInTime_48 : decode b_Submissions_putInTime 48 = .ok (.aload_n 0, 1) := by decide +kernel
theorem d_Submissions_putInTime_49 : decode b_Submissions_putInTime 49 = .ok (.getfield 25, 3) := by decide +kernel
theorem d_Submissions_putInTime_52 : decode b_Submissions_putInTime 52 = .ok (.iload_n 2, 1) := by decide +kernel
theorem d_Submissions_putInTime_53 : decode b_Submissions_putInTime 53 = .ok (.iload_n 1, 1) := by decide +kernel
theorem d_Submissions_putInTime_54 : decode b_Submissions_putInTime 54 = .ok (.iastore, 1) := by decide +kernel
theorem d_Submissions_putInTime_55 : decode b_Submissions_putInTime 55 = .ok (.return_, 1) := by decide +kernel
theorem d_Submissions_anyEarlier_0 : decode b_Submissions_anyEarlier 0 = .ok (.iconst 0, 1) := by decide +kernel
theorem d_Submissions_anyEarlier_1 : decode b_Submissions_anyEarlier 1 = .ok (.istore_n 3, 1) := by decide +kernel
theorem d_Submissions_anyEarlier_2 : decode b_Submissions_anyEarlier 2 = .ok (.iload_n 3, 1) := by decide +kernel
theorem d_Submissions_anyEarlier_3 : decode b_Submissions_anyEarlier 3 = .ok (.aload_n 0, 1) := by decide +kernel
theorem d_Submissions_anyEarlier_4 : decode b_Submissions_anyEarlier 4 = .ok (.getfield 31, 3) := by decide +kernel
theorem d_Submissions_anyEarlier_7 : decode b_Submissions_anyEarlier 7 = .ok (.if_icmp .ge 31, 3) := by decide +kernel
theorem d_Submissions_anyEarlier_10 : decode b_Submissions_anyEarlier 10 = .ok (.aload_n 0, 1) := by decide +kernel
theorem d_Submissions_anyEarlier_11 : decode b_Submissions_anyEarlier 11 = .ok (.getfield 9, 3) := by decide +kernel
theorem d_Submissions_anyEarlier_14 : decode b_Submissions_anyEarlier 14 = .ok (.iload_n 3, 1) := by decide +kernel
theorem d_Submissions_anyEarlier_15 : decode b_Submissions_anyEarlier 15 = .ok (.iaload, 1) := by decide +kernel
theorem d_Submissions_anyEarlier_16 : decode b_Submissions_anyEarlier 16 = .ok (.iload_n 1, 1) := by decide +kernel
theorem d_Submissions_anyEarlier_17 : decode b_Submissions_anyEarlier 17 = .ok (.if_icmp .ne 15, 3) := by decide +kernel
theorem d_Submissions_anyEarlier_20 : decode b_Submissions_anyEarlier 20 = .ok (.aload_n 0, 1) := by decide +kernel
theorem d_Submissions_anyEarlier_21 : decode b_Submissions_anyEarlier 21 = .ok (.getfield 18, 3) := by decide +kernel
theorem d_Submissions_anyEarlier_24 : decode b_Submissions_anyEarlier 24 = .ok (.iload_n 3, 1) := by decide +kernel
theorem d_Submissions_anyEarlier_25 : decode b_Submissions_anyEarlier 25 = .ok (.iaload, 1) := by decide +kernel
theorem d_Submissions_anyEarlier_26 : decode b_Submissions_anyEarlier 26 = .ok (.iload_n 2, 1) := by decide +kernel
theorem d_Submissions_anyEarlier_27 : decode b_Submissions_anyEarlier 27 = .ok (.if_icmp .ge 5, 3) := by decide +kernel
theorem d_Submissions_anyEarlier_30 : decode b_Submissions_anyEarlier 30 = .ok (.iconst 1, 1) := by decide +kernel
theorem d_Submissions_anyEarlier_31 : decode b_Submissions_anyEarlier 31 = .ok (.ireturn, 1) := by decide +kernel
theorem d_Submissions_anyEarlier_32 : decode b_Submissions_anyEarlier 32 = .ok (.iinc 3 1, 3) := by decide +kernel
theorem d_Submissions_anyEarlier_35 : decode b_Submissions_anyEarlier 35 = .ok (.goto (-33), 3) := by decide +kernel
theorem d_Submissions_anyEarlier_38 : decode b_Submissions_anyEarlier 38 = .ok (.iconst 0, 1) := by decide +kernel
theorem d_Submissions_anyEarlier_39 : decode b_Submissions_anyEarlier 39 = .ok (.ireturn, 1) := by decide +kernel
theorem d_Submissions_findTwins_0 : decode b_Submissions_findTwins 0 = .ok (.iconst 0, 1) := by decide +kernel
theorem d_Submissions_findTwins_1 : decode b_Submissions_findTwins 1 = .ok (.istore_n 3, 1) := by decide +kernel
theorem d_Submissions_findTwins_2 : decode b_Submissions_findTwins 2 = .ok (.iload_n 3, 1) := by decide +kernel
theorem d_Submissions_findTwins_3 : decode b_Submissions_findTwins 3 = .ok (.bipush 20, 2) := by decide +kernel
theorem d_Submissions_findTwins_5 : decode b_Submissions_findTwins 5 = .ok (.if_icmp .ge 13, 3) := by decide +kernel
theorem d_Submissions_findTwins_8 : decode b_Submissions_findTwins 8 = .ok (.aload_n 2, 1) := by decide +kernel
theorem d_Submissions_findTwins_9 : decode b_Submissions_findTwins 9 = .ok (.iload_n 3, 1) := by decide +kernel
theorem d_Submissions_findTwins_10 : decode b_Submissions_findTwins 10 = .ok (.iconst (-1), 1) := by decide +kernel
theorem d_Submissions_findTwins_11 : decode b_Submissions_findTwins 11 = .ok (.iastore, 1) := by decide +kernel
theorem d_Submissions_findTwins_12 : decode b_Submissions_findTwins 12 = .ok (.iinc 3 1, 3) := by decide +kernel
theorem d_Submissions_findTwins_15 : decode b_Submissions_findTwins 15 = .ok (.goto (-13), 3) := by decide +kernel
theorem d_Submissions_findTwins_18 : decode b_Submissions_findTwins 18 = .ok (.iconst 0, 1) := by decide +kernel
theorem d_Submissions_findTwins_19 : decode b_Submissions_findTwins 19 = .ok (.istore_n 3, 1) := by decide +kernel
theorem d_Submissions_findTwins_20 : decode b_Submissions_findTwins 20 = .ok (.iload_n 3, 1) := by decide +kernel
theorem d_Submissions_findTwins_21 : decode b_Submissions_findTwins 21 = .ok (.aload_n 0, 1) := by decide +kernel
theorem d_Submissions_findTwins_22 : decode b_Submissions_findTwins 22 = .ok (.getfield 31, 3) := by decide +kernel
theorem d_Submissions_findTwins_25 : decode b_Submissions_findTwins 25 = .ok (.if_icmp .ge 39, 3) := by decide +kernel
theorem d_Submissions_findTwins_28 : decode b_Submissions_findTwins 28 = .ok (.aload_n 2, 1) := by decide +kernel
theorem d_Submissions_findTwins_29 : decode b_Submissions_findTwins 29 = .ok (.aload_n 0, 1) := by decide +kernel
theorem d_Submissions_findTwins_30 : decode b_Submissions_findTwins 30 = .ok (.getfield 9, 3) := by decide +kernel
theorem d_Submissions_findTwins_33 : decode b_Submissions_findTwins 33 = .ok (.iload_n 3, 1) := by decide +kernel
theorem d_Submissions_findTwins_34 : decode b_Submissions_findTwins 34 = .ok (.iaload, 1) := by decide +kernel
theorem d_Submissions_findTwins_35 : decode b_Submissions_findTwins 35 = .ok (.iaload, 1) := by decide +kernel
theorem d_Submissions_findTwins_36 : decode b_Submissions_findTwins 36 = .ok (.iconst (-1), 1) := by decide +kernel
theorem d_Submissions_findTwins_37 : decode b_Submissions_findTwins 37 = .ok (.if_icmp .ne 21, 3) := by decide +kernel
theorem d_Submissions_findTwins_40 : decode b_Submissions_findTwins 40 = .ok (.aload_n 0, 1) := by decide +kernel
theorem d_Submissions_findTwins_41 : decode b_Submissions_findTwins 41 = .ok (.iload_n 1, 1) := by decide +kernel
theorem d_Submissions_findTwins_42 : decode b_Submissions_findTwins 42 = .ok (.iload_n 3, 1) := by decide +kernel
theorem d_Submissions_findTwins_43 : decode b_Submissions_findTwins 43 = .ok (.invokevirtual 39, 3) := by decide +kernel
theorem d_Submissions_findTwins_46 : decode b_Submissions_findTwins 46 = .ok (.ifCond .eq 12, 3) := by decide +kernel
theorem d_Submissions_findTwins_49 : decode b_Submissions_findTwins 49 = .ok (.aload_n 2, 1) := by decide +kernel
theorem d_Submissions_findTwins_50 : decode b_Submissions_findTwins 50 = .ok (.aload_n 0, 1) := by decide +kernel
theorem d_Submissions_findTwins_51 : decode b_Submissions_findTwins 51 = .ok (.getfield 9, 3) := by decide +kernel
theorem d_Submissions_findTwins_54 : decode b_Submissions_findTwins 54 = .ok (.iload_n 3, 1) := by decide +kernel
theorem d_Submissions_findTwins_55 : decode b_Submissions_findTwins 55 = .ok (.iaload, 1) := by decide +kernel
theorem d_Submissions_findTwins_56 : decode b_Submissions_findTwins 56 = .ok (.iload_n 3, 1) := by decide +kernel
theorem d_Submissions_findTwins_57 : decode b_Submissions_findTwins 57 = .ok (.iastore, 1) := by decide +kernel
theorem d_Submissions_findTwins_58 : decode b_Submissions_findTwins 58 = .ok (.iinc 3 1, 3) := by decide +kernel
theorem d_Submissions_findTwins_61 : decode b_Submissions_findTwins 61 = .ok (.goto (-41), 3) := by decide +kernel
theorem d_Submissions_findTwins_64 : decode b_Submissions_findTwins 64 = .ok (.return_, 1) := by decide +kernel
theorem d_Submissions_isTwin_0 : decode b_Submissions_isTwin 0 = .ok (.aload_n 0, 1) := by decide +kernel
theorem d_Submissions_isTwin_1 : decode b_Submissions_isTwin 1 = .ok (.getfield 21, 3) := by decide +kernel
theorem d_Submissions_isTwin_4 : decode b_Submissions_isTwin 4 = .ok (.iload_n 2, 1) := by decide +kernel
theorem d_Submissions_isTwin_5 : decode b_Submissions_isTwin 5 = .ok (.baload, 1) := by decide +kernel
theorem d_Submissions_isTwin_6 : decode b_Submissions_isTwin 6 = .ok (.ifCond .ne 37, 3) := by decide +kernel
theorem d_Submissions_isTwin_9 : decode b_Submissions_isTwin 9 = .ok (.aload_n 0, 1) := by decide +kernel
theorem d_Submissions_isTwin_10 : decode b_Submissions_isTwin 10 = .ok (.getfield 15, 3) := by decide +kernel
theorem d_Submissions_isTwin_13 : decode b_Submissions_isTwin 13 = .ok (.iload_n 2, 1) := by decide +kernel
theorem d_Submissions_isTwin_14 : decode b_Submissions_isTwin 14 = .ok (.iaload, 1) := by decide +kernel
theorem d_Submissions_isTwin_15 : decode b_Submissions_isTwin 15 = .ok (.aload_n 0, 1) := by decide +kernel
theorem d_Submissions_isTwin_16 : decode b_Submissions_isTwin 16 = .ok (.getfield 15, 3) := by decide +kernel
theorem d_Submissions_isTwin_19 : decode b_Submissions_isTwin 19 = .ok (.iload_n 1, 1) := by decide +kernel
theorem d_Submissions_isTwin_20 : decode b_Submissions_isTwin 20 = .ok (.iaload, 1) := by decide +kernel
theorem d_Submissions_isTwin_21 : decode b_Submissions_isTwin 21 = .ok (.if_icmp .ne 22, 3) := by decide +kernel
theorem d_Submissions_isTwin_24 : decode b_Submissions_isTwin 24 = .ok (.aload_n 0, 1) := by decide +kernel
theorem d_Submissions_isTwin_25 : decode b_Submissions_isTwin 25 = .ok (.getfield 28, 3) := by decide +kernel
theorem d_Submissions_isTwin_28 : decode b_Submissions_isTwin 28 = .ok (.iload_n 2, 1) := by decide +kernel
theorem d_Submissions_isTwin_29 : decode b_Submissions_isTwin 29 = .ok (.iaload, 1) := by decide +kernel
theorem d_Submissions_isTwin_30 : decode b_Submissions_isTwin 30 = .ok (.aload_n 0, 1) := by decide +kernel
theorem d_Submissions_isTwin_31 : decode b_Submissions_isTwin 31 = .ok (.getfield 28, 3) := by decide +kernel
theorem d_Submissions_isTwin_34 : decode b_Submissions_isTwin 34 = .ok (.iload_n 1, 1) := by decide +kernel
theorem d_Submissions_isTwin_35 : decode b_Submissions_isTwin 35 = .ok (.iaload, 1) := by decide +kernel
theorem d_Submissions_isTwin_36 : decode b_Submissions_isTwin 36 = .ok (.if_icmp .ne 7, 3) := by decide +kernel
theorem d_Submissions_isTwin_39 : decode b_Submissions_isTwin 39 = .ok (.iconst 1, 1) := by decide +kernel
theorem d_Submissions_isTwin_40 : decode b_Submissions_isTwin 40 = .ok (.goto 4, 3) := by decide +kernel
theorem d_Submissions_isTwin_43 : decode b_Submissions_isTwin 43 = .ok (.iconst 0, 1) := by decide +kernel
theorem d_Submissions_isTwin_44 : decode b_Submissions_isTwin 44 = .ok (.ireturn, 1) := by decide +kernel
theorem d_Submissions_secondsBetween_0 : decode b_Submissions_secondsBetween 0 = .ok (.aload_n 0, 1) := by decide +kernel
theorem d_Submissions_secondsBetween_1 : decode b_Submissions_secondsBetween 1 = .ok (.getfield 18, 3) := by decide +kernel
theorem d_Submissions_secondsBetween_4 : decode b_Submissions_secondsBetween 4 = .ok (.iload_n 1, 1) := by decide +kernel
theorem d_Submissions_secondsBetween_5 : decode b_Submissions_secondsBetween 5 = .ok (.iaload, 1) := by decide +kernel
theorem d_Submissions_secondsBetween_6 : decode b_Submissions_secondsBetween 6 = .ok (.aload_n 0, 1) := by decide +kernel
theorem d_Submissions_secondsBetween_7 : decode b_Submissions_secondsBetween 7 = .ok (.getfield 18, 3) := by decide +kernel
theorem d_Submissions_secondsBetween_10 : decode b_Submissions_secondsBetween 10 = .ok (.iload_n 2, 1) := by decide +kernel
theorem d_Submissions_secondsBetween_11 : decode b_Submissions_secondsBetween 11 = .ok (.iaload, 1) := by decide +kernel
theorem d_Submissions_secondsBetween_12 : decode b_Submissions_secondsBetween 12 = .ok (.isub, 1) := by decide +kernel
theorem d_Submissions_secondsBetween_13 : decode b_Submissions_secondsBetween 13 = .ok (.invokestatic 43, 3) := by decide +kernel
theorem d_Submissions_secondsBetween_16 : decode b_Submissions_secondsBetween 16 = .ok (.ireturn, 1) := by decide +kernel
theorem d_Submissions_tellPair_0 : decode b_Submissions_tellPair 0 = .ok (.iload_n 3, 1) := by decide +kernel
theorem d_Submissions_tellPair_1 : decode b_Submissions_tellPair 1 = .ok (.tableswitch 48 0 2 #[27, 34, 41], 27) := by decide +kernel
theorem d_Submissions_tellPair_28 : decode b_Submissions_tellPair 28 = .ok (.aload_n 0, 1) := by decide +kernel
theorem d_Submissions_tellPair_29 : decode b_Submissions_tellPair 29 = .ok (.getfield 9, 3) := by decide +kernel
theorem d_Submissions_tellPair_32 : decode b_Submissions_tellPair 32 = .ok (.iload_n 1, 1) := by decide +kernel
theorem d_Submissions_tellPair_33 : decode b_Submissions_tellPair 33 = .ok (.iaload, 1) := by decide +kernel
theorem d_Submissions_tellPair_34 : decode b_Submissions_tellPair 34 = .ok (.ireturn, 1) := by decide +kernel
theorem d_Submissions_tellPair_35 : decode b_Submissions_tellPair 35 = .ok (.aload_n 0, 1) := by decide +kernel
theorem d_Submissions_tellPair_36 : decode b_Submissions_tellPair 36 = .ok (.getfield 9, 3) := by decide +kernel
theorem d_Submissions_tellPair_39 : decode b_Submissions_tellPair 39 = .ok (.iload_n 2, 1) := by decide +kernel
theorem d_Submissions_tellPair_40 : decode b_Submissions_tellPair 40 = .ok (.iaload, 1) := by decide +kernel
theorem d_Submissions_tellPair_41 : decode b_Submissions_tellPair 41 = .ok (.ireturn, 1) := by decide +kernel
theorem d_Submissions_tellPair_42 : decode b_Submissions_tellPair 42 = .ok (.aload_n 0, 1) := by decide +kernel
theorem d_Submissions_tellPair_43 : decode b_Submissions_tellPair 43 = .ok (.getfield 15, 3) := by decide +kernel
theorem d_Submissions_tellPair_46 : decode b_Submissions_tellPair 46 = .ok (.iload_n 1, 1) := by decide +kernel
theorem d_Submissions_tellPair_47 : decode b_Submissions_tellPair 47 = .ok (.iaload, 1) := by decide +kernel
theorem d_Submissions_tellPair_48 : decode b_Submissions_tellPair 48 = .ok (.ireturn, 1) := by decide +kernel
theorem d_Submissions_tellPair_49 : decode b_Submissions_tellPair 49 = .ok (.aload_n 0, 1) := by decide +kernel
theorem d_Submissions_tellPair_50 : decode b_Submissions_tellPair 50 = .ok (.iload_n 1, 1) := by decide +kernel
theorem d_Submissions_tellPair_51 : decode b_Submissions_tellPair 51 = .ok (.iload_n 2, 1) := by decide +kernel
theorem d_Submissions_tellPair_52 : decode b_Submissions_tellPair 52 = .ok (.invokevirtual 49, 3) := by decide +kernel
theorem d_Submissions_tellPair_55 : decode b_Submissions_tellPair 55 = .ok (.ireturn, 1) := by decide +kernel
end
section
theorem d_Top_init_0 : decode b_Top_init 0 = .ok (.aload_n 0, 1) := by decide +kernel
theorem d_Top_init_1 : decode b_Top_init 1 = .ok (.invokespecial 1, 3) := by decide +kernel
theorem d_Top_init_4 : decode b_Top_init 4 = .ok (.aload_n 0, 1) := by decide +kernel
theorem d_Top_init_5 : decode b_Top_init 5 = .ok (.new 7, 3) := by decide +kernel
theorem d_Top_init_8 : decode b_Top_init 8 = .ok (.dup, 1) := by decide +kernel
theorem d_Top_init_9 : decode b_Top_init 9 = .ok (.invokespecial 9, 3) := by decide +kernel
theorem d_Top_init_12 : decode b_Top_init 12 = .ok (.putfield 10, 3) := by decide +kernel
theorem d_Top_init_15 : decode b_Top_init 15 = .ok (.aload_n 0, 1) := by decide +kernel
theorem d_Top_init_16 : decode b_Top_init 16 = .ok (.new 16, 3) := by decide +kernel
theorem d_Top_init_19 : decode b_Top_init 19 = .ok (.dup, 1) := by decide +kernel
theorem d_Top_init_20 : decode b_Top_init 20 = .ok (.invokespecial 18, 3) := by decide +kernel
theorem d_Top_init_23 : decode b_Top_init 23 = .ok (.putfield 19, 3) := by decide +kernel
theorem d_Top_init_26 : decode b_Top_init 26 = .ok (.aload_n 0, 1) := by decide +kernel
theorem d_Top_init_27 : decode b_Top_init 27 = .ok (.new 23, 3) := by decide +kernel
theorem d_Top_init_30 : decode b_Top_init 30 = .ok (.dup, 1) := by decide +kernel
theorem d_Top_init_31 : decode b_Top_init 31 = .ok (.invokespecial 25, 3) := by decide +kernel
theorem d_Top_init_34 : decode b_Top_init 34 = .ok (.putfield 26, 3) := by decide +kernel
theorem d_Top_init_37 : decode b_Top_init 37 = .ok (.aload_n 0, 1) := by decide +kernel
theorem d_Top_init_38 : decode b_Top_init 38 = .ok (.new 30, 3) := by decide +kernel
theorem d_Top_init_41 : decode b_Top_init 41 = .ok (.dup, 1) := by decide +kernel
theorem d_Top_init_42 : decode b_Top_init 42 = .ok (.invokespecial 32, 3) := by decide +kernel
theorem d_Top_init_45 : decode b_Top_init 45 = .ok (.putfield 33, 3) := by decide +kernel
theorem d_Top_init_48 : decode b_Top_init 48 = .ok (.aload_n 0, 1) := by decide +kernel
theorem d_Top_init_49 : decode b_Top_init 49 = .ok (.new 37, 3) := by decide +kernel
theorem d_Top_init_52 : decode b_Top_init 52 = .ok (.dup, 1) := by decide +kernel
theorem d_Top_init_53 : decode b_Top_init 53 = .ok (.invokespecial 39, 3) := by decide +kernel
theorem d_Top_init_56 : decode b_Top_init 56 = .ok (.putfield 40, 3) := by decide +kernel
theorem d_Top_init_59 : decode b_Top_init 59 = .ok (.aload_n 0, 1) := by decide +kernel
theorem d_Top_init_60 : decode b_Top_init 60 = .ok (.bipush 20, 2) := by decide +kernel
theorem d_Top_init_62 : decode b_Top_init 62 = .ok (.newarray .int, 2) := by decide +kernel
theorem d_Top_init_64 : decode b_Top_init 64 = .ok (.putfield 44, 3) := by decide +kernel
theorem d_Top_init_67 : decode b_Top_init 67 = .ok (.aload_n 0, 1) := by decide +kernel
theorem d_Top_init_68 : decode b_Top_init 68 = .ok (.bipush 20, 2) := by decide +kernel
theorem d_Top_init_70 : decode b_Top_init 70 = .ok (.newarray .boolean, 2) := by decide +kernel
theorem d_Top_init_72 : decode b_Top_init 72 = .ok (.putfield 48, 3) := by decide +kernel
theorem d_Top_init_75 : decode b_Top_init 75 = .ok (.aload_n 0, 1) := by decide +kernel
theorem d_Top_init_76 : decode b_Top_init 76 = .ok (.bipush 20, 2) := by decide +kernel
theorem d_Top_init_78 : decode b_Top_init 78 = .ok (.newarray .long, 2) := by decide +kernel
theorem d_Top_init_80 : decode b_Top_init 80 = .ok (.putfield 52, 3) := by decide +kernel
theorem d_Top_init_83 : decode b_Top_init 83 = .ok (.aload_n 0, 1) := by decide +kernel
theorem d_Top_init_84 : decode b_Top_init 84 = .ok (.bipush 20, 2) := by decide +kernel
theorem d_Top_init_86 : decode b_Top_init 86 = .ok (.newarray .int, 2) := by decide +kernel
theorem d_Top_init_88 : decode b_Top_init 88 = .ok (.putfield 56, 3) := by decide +kernel
theorem d_Top_init_91 : decode b_Top_init 91 = .ok (.return_, 1) := by decide +kernel
theorem d_Top_puzzle_0 : decode b_Top_puzzle 0 = .ok (.aload_n 0, 1) := by decide +kernel
theorem d_Top_puzzle_1 : decode b_Top_puzzle 1 = .ok (.getfield 10, 3) := by decide +kernel
theorem d_Top_puzzle_4 : decode b_Top_puzzle 4 = .ok (.iload_n 1, 1) := by decide +kernel
theorem d_Top_puzzle_5 : decode b_Top_puzzle 5 = .ok (.invokevirtual 59, 3) := by decide +kernel
theorem d_Top_puzzle_8 : decode b_Top_puzzle 8 = .ok (.ireturn, 1) := by decide +kernel
theorem d_Top_person_0 : decode b_Top_person 0 = .ok (.aload_n 0, 1) := by decide +kernel
theorem d_Top_person_1 : decode b_Top_person 1 = .ok (.getfield 19, 3) := by decide +kernel
theorem d_Top_person_4 : decode b_Top_person 4 = .ok (.invokevirtual 63, 3) := by decide +kernel
theorem d_Top_person_7 : decode b_Top_person 7 = .ok (.ireturn, 1) := by decide +kernel
theorem d_Top_unit_0 : decode b_Top_unit 0 = .ok (.aload_n 0, 1) := by decide +kernel
theorem d_Top_unit_1 : decode b_Top_unit 1 = .ok (.getfield 33, 3) := by decide +kernel
theorem d_Top_unit_4 : decode b_Top_unit 4 = .ok (.iload_n 1, 1) := by decide +kernel
theorem d_Top_unit_5 : decode b_Top_unit 5 = .ok (.invokevirtual 66, 3) := by decide +kernel
theorem d_Top_unit_8 : decode b_Top_unit 8 = .ok (.ireturn, 1) := by decide +kernel
theorem d_Top_rules_0 : decode b_Top_rules 0 = .ok (.aload_n 0, 1) := by decide +kernel
theorem d_Top_rules_1 : decode b_Top_rules 1 = .ok (.getfield 33, 3) := by decide +kernel
theorem d_Top_rules_4 : decode b_Top_rules 4 = .ok (.aload_n 0, 1) := by decide +kernel
theorem d_Top_rules_5 : decode b_Top_rules 5 = .ok (.getfield 40, 3) := by decide +kernel
theorem d_Top_rules_8 : decode b_Top_rules 8 = .ok (.invokevirtual 69, 3) := by decide +kernel
theorem d_Top_rules_11 : decode b_Top_rules 11 = .ok (.istore_n 1, 1) := by decide +kernel
theorem d_Top_rules_12 : decode b_Top_rules 12 = .ok (.aload_n 0, 1) := by decide +kernel
theorem d_Top_rules_13 : decode b_Top_rules 13 = .ok (.getfield 33, 3) := by decide +kernel
theorem d_Top_rules_16 : decode b_Top_rules 16 = .ok (.invokevirtual 73, 3) := by decide +kernel
theorem d_Top_rules_19 : decode b_Top_rules 19 = .ok (.iload_n 1, 1) := by decide +kernel
theorem d_Top_rules_20 : decode b_Top_rules 20 = .ok (.ireturn, 1) := by decide +kernel
theorem d_Top_start_0 : decode b_Top_start 0 = .ok (.aload_n 0, 1) := by decide +kernel
theorem d_Top_start_1 : decode b_Top_start 1 = .ok (.getfield 19, 3) := by decide +kernel
theorem d_Top_start_4 : decode b_Top_start 4 = .ok (.iload_n 1, 1) := by decide +kernel
theorem d_Top_start_5 : decode b_Top_start 5 = .ok (.invokevirtual 76, 3) := by decide +kernel
theorem d_Top_start_8 : decode b_Top_start 8 = .ok (.ifCond .eq 13, 3) := by decide +kernel
theorem d_Top_start_11 : decode b_Top_start 11 = .ok (.iload_n 2, 1) := by decide +kernel
theorem d_Top_start_12 : decode b_Top_start 12 = .ok (.ifCond .lt 9, 3) := by decide +kernel
theorem d_Top_start_15 : decode b_Top_start 15 = .ok (.iload_n 2, 1) := by decide +kernel
theorem d_Top_start_16 : decode b_Top_start 16 = .ok (.ldc 79, 2) := by decide +kernel
theorem d_Top_start_18 : decode b_Top_start 18 = .ok (.if_icmp .le 5, 3) := by decide +kernel
theorem d_Top_start_21 : decode b_Top_start 21 = .ok (.iconst 0, 1) := by decide +kernel
theorem d_Top_start_22 : decode b_Top_start 22 = .ok (.ireturn, 1) := by decide +kernel
theorem d_Top_start_23 : decode b_Top_start 23 = .ok (.aload_n 0, 1) := by decide +kernel
theorem d_Top_start_24 : decode b_Top_start 24 = .ok (.getfield 26, 3) := by decide +kernel
theorem d_Top_start_27 : decode b_Top_start 27 = .ok (.iload_n 1, 1) := by decide +kernel
theorem d_Top_start_28 : decode b_Top_start 28 = .ok (.iload_n 2, 1) := by decide +kernel
theorem d_Top_start_29 : decode b_Top_start 29 = .ok (.invokevirtual 80, 3) := by decide +kernel
theorem d_Top_start_32 : decode b_Top_start 32 = .ok (.ifCond .eq 5, 3) := by decide +kernel
theorem d_Top_start_35 : decode b_Top_start 35 = .ok (.iconst 0, 1) := by decide +kernel
theorem d_Top_start_36 : decode b_Top_start 36 = .ok (.ireturn, 1) := by decide +kernel
theorem d_Top_start_37 : decode b_Top_start 37 = .ok (.aload_n 0, 1) := by decide +kernel
theorem d_Top_start_38 : decode b_Top_start 38 = .ok (.getfield 19, 3) := by decide +kernel
theorem d_Top_start_41 : decode b_Top_start 41 = .ok (.getfield 84, 3) := by decide +kernel
theorem d_Top_start_44 : decode b_Top_start 44 = .ok (.iload_n 1, 1) := by decide +kernel
theorem d_Top_start_45 : decode b_Top_start 45 = .ok (.iload_n 2, 1) := by decide +kernel
theorem d_Top_start_46 : decode b_Top_start 46 = .ok (.iastore, 1) := by decide +kernel
theorem d_Top_start_47 : decode b_Top_start 47 = .ok (.iconst 1, 1) := by decide +kernel
theorem d_Top_start_48 : decode b_Top_start 48 = .ok (.ireturn, 1) := by decide +kernel
theorem d_Top_submit_0 : decode b_Top_submit 0 = .ok (.aload_n 0, 1) := by decide +kernel
theorem d_Top_submit_1 : decode b_Top_submit 1 = .ok (.getfield 19, 3) := by decide +kernel
theorem d_Top_submit_4 : decode b_Top_submit 4 = .ok (.iload_n 1, 1) := by decide +kernel
theorem d_Top_submit_5 : decode b_Top_submit 5 = .ok (.invokevirtual 76, 3) := by decide +kernel
theorem d_Top_submit_8 : decode b_Top_submit 8 = .ok (.ifCond .eq 19, 3) := by decide +kernel
theorem d_Top_submit_11 : decode b_Top_submit 11 = .ok (.aload_n 0, 1) := by decide +kernel
theorem d_Top_submit_12 : decode b_Top_submit 12 = .ok (.getfield 10, 3) := by decide +kernel
theorem d_Top_submit_15 : decode b_Top_submit 15 = .ok (.iload_n 2, 1) := by decide +kernel
theorem d_Top_submit_16 : decode b_Top_submit 16 = .ok (.invokevirtual 87, 3) := by decide +kernel
theorem d_Top_submit_19 : decode b_Top_submit 19 = .ok (.ifCond .eq 8, 3) := by decide +kernel
theorem d_Top_submit_22 : decode b_Top_submit 22 = .ok (.iload 4, 2) := by decide +kernel
theorem d_Top_submit_24 : decode b_Top_submit 24 = .ok (.ifCond .ge 5, 3) := by decide +kernel
theorem d_Top_submit_27 : decode b_Top_submit 27 = .ok (.iconst (-1), 1) := by decide +kernel
theorem d_Top_submit_28 : decode b_Top_submit 28 = .ok (.ireturn, 1) := by decide +kernel
theorem d_Top_submit_29 : decode b_Top_submit 29 = .ok (.aload_n 0, 1) := by decide +kernel
theorem d_Top_submit_30 : decode b_Top_submit 30 = .ok (.getfield 19, 3) := by decide +kernel
theorem d_Top_submit_33 : decode b_Top_submit 33 = .ok (.getfield 84, 3) := by decide +kernel
theorem d_Top_submit_36 : decode b_Top_submit 36 = .ok (.iload_n 1, 1) := by decide +kernel
theorem d_Top_submit_37 : decode b_Top_submit 37 = .ok (.iaload, 1) := by decide +kernel
theorem d_Top_submit_38 : decode b_Top_submit 38 = .ok (.istore 6, 2) := by decide +kernel
theorem d_Top_submit_40 : decode b_Top_submit 40 = .ok (.iload 6, 2) := by decide +kernel
theorem d_Top_submit_42 : decode b_Top_submit 42 = .ok (.iconst (-1), 1) := by decide +kernel
theorem d_Top_submit_43 : decode b_Top_submit 43 = .ok (.if_icmp .eq 15, 3) := by decide +kernel
theorem d_Top_submit_46 : decode b_Top_submit 46 = .ok (.iload_n 3, 1) := by decide +kernel
theorem d_Top_submit_47 : decode b_Top_submit 47 = .ok (.iload 6, 2) := by decide +kernel
theorem d_Top_submit_49 : decode b_Top_submit 49 = .ok (.if_icmp .lt 9, 3) := by decide +kernel
theorem d_Top_submit_52 : decode b_Top_submit 52 = .ok (.iload_n 3, 1) := by decide +kernel
theorem d_Top_submit_53 : decode b_Top_submit 53 = .ok (.ldc 79, 2) := by decide +kernel
theorem d_Top_submit_55 : decode b_Top_submit 55 = .ok (.if_icmp .le 5, 3) := by decide +kernel
theorem d_Top_submit_58 : decode b_Top_submit 58 = .ok (.iconst (-1), 1) := by decide +kernel
theorem d_Top_submit_59 : decode b_Top_submit 59 = .ok (.ireturn, 1) := by decide +kernel
theorem d_Top_submit_60 : decode b_Top_submit 60 = .ok (.aload_n 0, 1) := by decide +kernel
theorem d_Top_submit_61 : decode b_Top_submit 61 = .ok (.getfield 26, 3) := by decide +kernel
theorem d_Top_submit_64 : decode b_Top_submit 64 = .ok (.iload_n 1, 1) := by decide +kernel
theorem d_Top_submit_65 : decode b_Top_submit 65 = .ok (.iload_n 2, 1) := by decide +kernel
theorem d_Top_submit_66 : decode b_Top_submit 66 = .ok (.iload_n 3, 1) := by decide +kernel
theorem d_Top_submit_67 : decode b_Top_submit 67 = .ok (.iload 4, 2) := by decide +kernel
theorem d_Top_submit_69 : decode b_Top_submit 69 = .ok (.iload 5, 2) := by decide +kernel
theorem d_Top_submit_71 : decode b_Top_submit 71 = .ok (.invokevirtual 88, 3) := by decide +kernel
theorem d_Top_submit_74 : decode b_Top_submit 74 = .ok (.ireturn, 1) := by decide +kernel
theorem d_Top_correct_0 : decode b_Top_correct 0 = .ok (.aload_n 0, 1) := by decide +kernel
theorem d_Top_correct_1 : decode b_Top_correct 1 = .ok (.getfield 26, 3) := by decide +kernel
theorem d_Top_correct_4 : decode b_Top_correct 4 = .ok (.iload_n 1, 1) := by decide +kernel
theorem d_Top_correct_5 : decode b_Top_correct 5 = .ok (.invokevirtual 91, 3) := by decide +kernel
theorem d_Top_correct_8 : decode b_Top_correct 8 = .ok (.ifCond .eq 16, 3) := by decide +kernel
theorem d_Top_correct_11 : decode b_Top_correct 11 = .ok (.aload_n 0, 1) := by decide +kernel
theorem d_Top_correct_12 : decode b_Top_correct 12 = .ok (.getfield 26, 3) := by decide +kernel
theorem d_Top_correct_15 : decode b_Top_correct 15 = .ok (.getfield 92, 3) := by decide +kernel
theorem d_Top_correct_18 : decode b_Top_correct 18 = .ok (.iload_n 1, 1) := by decide +kernel
theorem d_Top_correct_19 : decode b_Top_correct 19 = .ok (.baload, 1) := by decide +kernel
theorem d_Top_correct_20 : decode b_Top_correct 20 = .ok (.iload_n 2, 1) := by decide +kernel
theorem d_Top_correct_21 : decode b_Top_correct 21 = .ok (.if_icmp .ne 5, 3) := by decide +kernel
theorem d_Top_correct_24 : decode b_Top_correct 24 = .ok (.iconst 0, 1) := by decide +kernel
theorem d_Top_correct_25 : decode b_Top_correct 25 = .ok (.ireturn, 1) := by decide +kernel
theorem d_Top_correct_26 : decode b_Top_correct 26 = .ok (.aload_n 0, 1) := by decide +kernel
theorem d_Top_correct_27 : decode b_Top_correct 27 = .ok (.getfield 26, 3) := by decide +kernel
theorem d_Top_correct_30 : decode b_Top_correct 30 = .ok (.getfield 92, 3) := by decide +kernel
theorem d_Top_correct_33 : decode b_Top_correct 33 = .ok (.iload_n 1, 1) := by decide +kernel
theorem d_Top_correct_34 : decode b_Top_correct 34 = .ok (.iload_n 2, 1) := by decide +kernel
theorem d_Top_correct_35 : decode b_Top_correct 35 = .ok (.bastore, 1) := by decide +kernel
theorem d_Top_correct_36 : decode b_Top_correct 36 = .ok (.iconst 1, 1) := by decide +kernel
theorem d_Top_correct_37 : decode b_Top_correct 37 = .ok (.ireturn, 1) := by decide +kernel
theorem d_Top_late_0 : decode b_Top_late 0 = .ok (.aload_n 0, 1) := by decide +kernel
theorem d_Top_late_1 : decode b_Top_late 1 = .ok (.getfield 26, 3) := by decide +kernel
theorem d_Top_late_4 : decode b_Top_late 4 = .ok (.iload_n 1, 1) := by decide +kernel
theorem d_Top_late_5 : decode b_Top_late 5 = .ok (.invokevirtual 91, 3) := by decide +kernel
theorem d_Top_late_8 : decode b_Top_late 8 = .ok (.ifCond .eq 22, 3) := by decide +kernel
theorem d_Top_late_11 : decode b_Top_late 11 = .ok (.aload_n 0, 1) := by decide +kernel
theorem d_Top_late_12 : decode b_Top_late 12 = .ok (.getfield 40, 3) := by decide +kernel
theorem d_Top_late_15 : decode b_Top_late 15 = .ok (.aload_n 0, 1) := by decide +kernel
theorem d_Top_late_16 : decode b_Top_late 16 = .ok (.iload_n 1, 1) := by decide +kernel
theorem d_Top_late_17 : decode b_Top_late 17 = .ok (.invokevirtual 95, 3) := by decide +kernel
theorem d_Top_late_20 : decode b_Top_late 20 = .ok (.invokevirtual 98, 3) := by decide +kernel
theorem d_Top_late_23 : decode b_Top_late 23 = .ok (.ifCond .eq 7, 3) := by decide +kernel
theorem d_Top_late_26 : decode b_Top_late 26 = .ok (.iconst 1, 1) := by decide +kernel
theorem d_Top_late_27 : decode b_Top_late 27 = .ok (.goto 4, 3) := by decide +kernel
theorem d_Top_late_30 : decode b_Top_late 30 = .ok (.iconst 0, 1) := by decide +kernel
theorem d_Top_late_31 : decode b_Top_late 31 = .ok (.ireturn, 1) := by decide +kernel
theorem d_Top_score_0 : decode b_Top_score 0 = .ok (.aload_n 0, 1) := by decide +kernel
theorem d_Top_score_1 : decode b_Top_score 1 = .ok (.getfield 19, 3) := by decide +kernel
theorem d_Top_score_4 : decode b_Top_score 4 = .ok (.iload_n 1, 1) := by decide +kernel
theorem d_Top_score_5 : decode b_Top_score 5 = .ok (.invokevirtual 76, 3) := by decide +kernel
theorem d_Top_score_8 : decode b_Top_score 8 = .ok (.ifCond .eq 12, 3) := by decide +kernel
theorem d_Top_score_11 : decode b_Top_score 11 = .ok (.iload_n 2, 1) := by decide +kernel
theorem d_Top_score_12 : decode b_Top_score 12 = .ok (.ifCond .lt 8, 3) := by decide +kernel
theorem d_Top_score_15 : decode b_Top_score 15 = .ok (.iload_n 2, 1) := by decide +kernel
theorem d_Top_score_16 : decode b_Top_score 16 = .ok (.iconst 3, 1) := by decide +kernel
theorem d_Top_score_17 : decode b_Top_score 17 = .ok (.if_icmp .le 7, 3) := by decide +kernel
theorem d_Top_score_20 : decode b_Top_score 20 = .ok (.ldc2_w 101, 3) := by decide +kernel
theorem d_Top_score_23 : decode b_Top_score 23 = .ok (.lreturn, 1) := by decide +kernel
theorem d_Top_score_24 : decode b_Top_score 24 = .ok (.iload_n 2, 1) := by decide +kernel
theorem d_Top_score_25 : decode b_Top_score 25 = .ok (.iconst 3, 1) := by decide +kernel
theorem d_Top_score_26 : decode b_Top_score 26 = .ok (.if_icmp .ne 24, 3) := by decide +kernel
theorem d_Top_score_29 : decode b_Top_score 29 = .ok (.aload_n 0, 1) := by decide +kernel
theorem d_Top_score_30 : decode b_Top_score 30 = .ok (.invokevirtual 103, 3) := by decide +kernel
theorem d_Top_score_33 : decode b_Top_score 33 = .ok (.aload_n 0, 1) := by decide +kernel
theorem d_Top_score_34 : decode b_Top_score 34 = .ok (.getfield 19, 3) := by decide +kernel
theorem d_Top_score_37 : decode b_Top_score 37 = .ok (.iload_n 1, 1) := by decide +kernel
theorem d_Top_score_38 : decode b_Top_score 38 = .ok (.aload_n 0, 1) := by decide +kernel
theorem d_Top_score_39 : decode b_Top_score 39 = .ok (.getfield 40, 3) := by decide +kernel
theorem d_Top_score_42 : decode b_Top_score 42 = .ok (.invokevirtual 106, 3) := by decide +kernel
theorem d_Top_score_45 : decode b_Top_score 45 = .ok (.invokevirtual 110, 3) := by decide +kernel
theorem d_Top_score_48 : decode b_Top_score 48 = .ok (.i2l, 1) := by decide +kernel
theorem d_Top_score_49 : decode b_Top_score 49 = .ok (.lreturn, 1) := by decide +kernel
theorem d_Top_score_50 : decode b_Top_score 50 = .ok (.aload_n 0, 1) := by decide +kernel
theorem d_Top_score_51 : decode b_Top_score 51 = .ok (.iload_n 1, 1) := by decide +kernel
theorem d_Top_score_52 : decode b_Top_score 52 = .ok (.invokevirtual 114, 3) := by decide +kernel
theorem d_Top_score_55 : decode b_Top_score 55 = .ok (.iload_n 2, 1) := by decide +kernel
theorem d_Top_score_56 : decode b_Top_score 56 = .ok (.ifCond .ne 13, 3) := by decide +kernel
theorem d_Top_score_59 : decode b_Top_score 59 = .ok (.aload_n 0, 1) := by decide +kernel
theorem d_Top_score_60 : decode b_Top_score 60 = .ok (.getfield 19, 3) := by decide +kernel
theorem d_Top_score_63 : decode b_Top_score 63 = .ok (.getfield 118, 3) := by decide +kernel
theorem d_Top_score_66 : decode b_Top_score 66 = .ok (.iload_n 1, 1) := by decide +kernel
theorem d_Top_score_67 : decode b_Top_score 67 = .ok (.laload, 1) := by decide +kernel
theorem d_Top_score_68 : decode b_Top_score 68 = .ok (.lreturn, 1) := by decide +kernel
theorem d_Top_score_69 : decode b_Top_score 69 = .ok (.iload_n 2, 1) := by decide +kernel
theorem d_Top_score_70 : decode b_Top_score 70 = .ok (.iconst 1, 1) := by decide +kernel
theorem d_Top_score_71 : decode b_Top_score 71 = .ok (.if_icmp .ne 15, 3) := by decide +kernel
theorem d_Top_score_74 : decode b_Top_score 74 = .ok (.aload_n 0, 1) := by decide +kernel
theorem d_Top_score_75 : decode b_Top_score 75 = .ok (.getfield 19, 3) := by decide +kernel
theorem d_Top_score_78 : decode b_Top_score 78 = .ok (.getfield 121, 3) := by decide +kernel
theorem d_Top_score_81 : decode b_Top_score 81 = .ok (.iload_n 1, 1) := by decide +kernel
theorem d_Top_score_82 : decode b_Top_score 82 = .ok (.laload, 1) := by decide +kernel
theorem d_Top_score_83 : decode b_Top_score 83 = .ok (.goto 13, 3) := by decide +kernel
theorem d_Top_score_86 : decode b_Top_score 86 = .ok (.aload_n 0, 1) := by decide +kernel
theorem d_Top_score_87 : decode b_Top_score 87 = .ok (.getfield 19, 3) := by decide +kernel
theorem d_Top_score_90 : decode b_Top_score 90 = .ok (.getfield 124, 3) := by decide +kernel
theorem d_Top_score_93 : decode b_Top_score 93 = .ok (.iload_n 1, 1) := by decide +kernel
theorem d_Top_score_94 : decode b_Top_score 94 = .ok (.iaload, 1) := by decide +kernel
theorem d_Top_score_95 : decode b_Top_score 95 = .ok (.i2l, 1) := by decide +kernel
theorem d_Top_score_96 : decode b_Top_score 96 = .ok (.lreturn, 1) := by decide +kernel
theorem d_Top_points_0 : decode b_Top_points 0 = .ok (.aload_n 0, 1) := by decide +kernel
theorem d_Top_points_1 : decode b_Top_points 1 = .ok (.getfield 19, 3) := by decide +kernel
theorem d_Top_points_4 : decode b_Top_points 4 = .ok (.iload_n 1, 1) := by decide +kernel
theorem d_Top_points_5 : decode b_Top_points 5 = .ok (.invokevirtual 76, 3) := by decide +kernel
theorem d_Top_points_8 : decode b_Top_points 8 = .ok (.ifCond .eq 14, 3) := by decide +kernel
theorem d_Top_points_11 : decode b_Top_points 11 = .ok (.aload_n 0, 1) := by decide +kernel
theorem d_Top_points_12 : decode b_Top_points 12 = .ok (.getfield 10, 3) := by decide +kernel
theorem d_Top_points_15 : decode b_Top_points 15 = .ok (.iload_n 2, 1) := by decide +kernel
theorem d_Top_points_16 : decode b_Top_points 16 = .ok (.invokevirtual 87, 3) := by decide +kernel
theorem d_Top_points_19 : decode b_Top_points 19 = .ok (.ifCond .ne 7, 3) := by decide +kernel
theorem d_Top_points_22 : decode b_Top_points 22 = .ok (.ldc2_w 101, 3) := by decide +kernel
theorem d_Top_points_25 : decode b_Top_points 25 = .ok (.lreturn, 1) := by decide +kernel
theorem d_Top_points_26 : decode b_Top_points 26 = .ok (.aload_n 0, 1) := by decide +kernel
theorem d_Top_points_27 : decode b_Top_points 27 = .ok (.iload_n 1, 1) := by decide +kernel
theorem d_Top_points_28 : decode b_Top_points 28 = .ok (.invokevirtual 114, 3) := by decide +kernel
theorem d_Top_points_31 : decode b_Top_points 31 = .ok (.aload_n 0, 1) := by decide +kernel
theorem d_Top_points_32 : decode b_Top_points 32 = .ok (.getfield 52, 3) := by decide +kernel
theorem d_Top_points_35 : decode b_Top_points 35 = .ok (.iload_n 2, 1) := by decide +kernel
theorem d_Top_points_36 : decode b_Top_points 36 = .ok (.laload, 1) := by decide +kernel
theorem d_Top_points_37 : decode b_Top_points 37 = .ok (.lreturn, 1) := by decide +kernel
theorem d_Top_place_0 : decode b_Top_place 0 = .ok (.aload_n 0, 1) := by decide +kernel
theorem d_Top_place_1 : decode b_Top_place 1 = .ok (.getfield 19, 3) := by decide +kernel
theorem d_Top_place_4 : decode b_Top_place 4 = .ok (.iload_n 1, 1) := by decide +kernel
theorem d_Top_place_5 : decode b_Top_place 5 = .ok (.invokevirtual 76, 3) := by decide +kernel
theorem d_Top_place_8 : decode b_Top_place 8 = .ok (.ifCond .ne 5, 3) := by decide +kernel
theorem d_Top_place_11 : decode b_Top_place 11 = .ok (.iconst (-1), 1) := by decide +kernel
theorem d_Top_place_12 : decode b_Top_place 12 = .ok (.ireturn, 1) := by decide +kernel
theorem d_Top_place_13 : decode b_Top_place 13 = .ok (.aload_n 0, 1) := by decide +kernel
theorem d_Top_place_14 : decode b_Top_place 14 = .ok (.invokevirtual 103, 3) := by decide +kernel
theorem d_Top_place_17 : decode b_Top_place 17 = .ok (.aload_n 0, 1) := by decide +kernel
theorem d_Top_place_18 : decode b_Top_place 18 = .ok (.getfield 19, 3) := by decide +kernel
theorem d_Top_place_21 : decode b_Top_place 21 = .ok (.iload_n 1, 1) := by decide +kernel
theorem d_Top_place_22 : decode b_Top_place 22 = .ok (.aload_n 0, 1) := by decide +kernel
theorem d_Top_place_23 : decode b_Top_place 23 = .ok (.getfield 40, 3) := by decide +kernel
theorem d_Top_place_26 : decode b_Top_place 26 = .ok (.invokevirtual 106, 3) := by decide +kernel
theorem d_Top_place_29 : decode b_Top_place 29 = .ok (.invokevirtual 127, 3) := by decide +kernel
theorem d_Top_place_32 : decode b_Top_place 32 = .ok (.ireturn, 1) := by decide +kernel
theorem d_Top_shared_0 : decode b_Top_shared 0 = .ok (.aload_n 0, 1) := by decide +kernel
theorem d_Top_shared_1 : decode b_Top_shared 1 = .ok (.getfield 19, 3) := by decide +kernel
theorem d_Top_shared_4 : decode b_Top_shared 4 = .ok (.iload_n 1, 1) := by decide +kernel
theorem d_Top_shared_5 : decode b_Top_shared 5 = .ok (.invokevirtual 76, 3) := by decide +kernel
theorem d_Top_shared_8 : decode b_Top_shared 8 = .ok (.ifCond .eq 14, 3) := by decide +kernel
theorem d_Top_shared_11 : decode b_Top_shared 11 = .ok (.aload_n 0, 1) := by decide +kernel
theorem d_Top_shared_12 : decode b_Top_shared 12 = .ok (.getfield 19, 3) := by decide +kernel
theorem d_Top_shared_15 : decode b_Top_shared 15 = .ok (.iload_n 2, 1) := by decide +kernel
theorem d_Top_shared_16 : decode b_Top_shared 16 = .ok (.invokevirtual 76, 3) := by decide +kernel
theorem d_Top_shared_19 : decode b_Top_shared 19 = .ok (.ifCond .ne 5, 3) := by decide +kernel
theorem d_Top_shared_22 : decode b_Top_shared 22 = .ok (.iconst 0, 1) := by decide +kernel
theorem d_Top_shared_23 : decode b_Top_shared 23 = .ok (.ireturn, 1) := by decide +kernel
theorem d_Top_shared_24 : decode b_Top_shared 24 = .ok (.aload_n 0, 1) := by decide +kernel
theorem d_Top_shared_25 : decode b_Top_shared 25 = .ok (.iload_n 1, 1) := by decide +kernel
theorem d_Top_shared_26 : decode b_Top_shared 26 = .ok (.invokevirtual 114, 3) := by decide +kernel
theorem d_Top_shared_29 : decode b_Top_shared 29 = .ok (.aload_n 0, 1) := by decide +kernel
theorem d_Top_shared_30 : decode b_Top_shared 30 = .ok (.iload_n 2, 1) := by decide +kernel
theorem d_Top_shared_31 : decode b_Top_shared 31 = .ok (.invokevirtual 114, 3) := by decide +kernel
theorem d_Top_shared_34 : decode b_Top_shared 34 = .ok (.aload_n 0, 1) := by decide +kernel
theorem d_Top_shared_35 : decode b_Top_shared 35 = .ok (.getfield 19, 3) := by decide +kernel
theorem d_Top_shared_38 : decode b_Top_shared 38 = .ok (.iload_n 1, 1) := by decide +kernel
theorem d_Top_shared_39 : decode b_Top_shared 39 = .ok (.iload_n 2, 1) := by decide +kernel
theorem d_Top_shared_40 : decode b_Top_shared 40 = .ok (.aload_n 0, 1) := by decide +kernel
theorem d_Top_shared_41 : decode b_Top_shared 41 = .ok (.getfield 40, 3) := by decide +kernel
theorem d_Top_shared_44 : decode b_Top_shared 44 = .ok (.invokevirtual 106, 3) := by decide +kernel
theorem d_Top_shared_47 : decode b_Top_shared 47 = .ok (.invokevirtual 130, 3) := by decide +kernel
theorem d_Top_shared_50 : decode b_Top_shared 50 = .ok (.ireturn, 1) := by decide +kernel
theorem d_Top_suspicious_0 : decode b_Top_suspicious 0 = .ok (.iload_n 1, 1) := by decide +kernel
theorem d_Top_suspicious_1 : decode b_Top_suspicious 1 = .ok (.ifCond .lt 12, 3) := by decide +kernel
theorem d_Top_suspicious_4 : decode b_Top_suspicious 4 = .ok (.iload_n 2, 1) := by decide +kernel
theorem d_Top_suspicious_5 : decode b_Top_suspicious 5 = .ok (.ifCond .lt 8, 3) := by decide +kernel
theorem d_Top_suspicious_8 : decode b_Top_suspicious 8 = .ok (.iload_n 2, 1) := by decide +kernel
theorem d_Top_suspicious_9 : decode b_Top_suspicious 9 = .ok (.iconst 3, 1) := by decide +kernel
theorem d_Top_suspicious_10 : decode b_Top_suspicious 10 = .ok (.if_icmp .le 5, 3) := by decide +kernel
theorem d_Top_suspicious_13 : decode b_Top_suspicious 13 = .ok (.iconst (-1), 1) := by decide +kernel
theorem d_Top_suspicious_14 : decode b_Top_suspicious 14 = .ok (.ireturn, 1) := by decide +kernel
theorem d_Top_suspicious_15 : decode b_Top_suspicious 15 = .ok (.iconst 0, 1) := by decide +kernel
theorem d_Top_suspicious_16 : decode b_Top_suspicious 16 = .ok (.istore_n 3, 1) := by decide +kernel
theorem d_Top_suspicious_17 : decode b_Top_suspicious 17 = .ok (.iconst 0, 1) := by decide +kernel
theorem d_Top_suspicious_18 : decode b_Top_suspicious 18 = .ok (.istore 4, 2) := by decide +kernel
theorem d_Top_suspicious_20 : decode b_Top_suspicious 20 = .ok (.iload 4, 2) := by decide +kernel
theorem d_Top_suspicious_22 : decode b_Top_suspicious 22 = .ok (.aload_n 0, 1) := by decide +kernel
theorem d_Top_suspicious_23 : decode b_Top_suspicious 23 = .ok (.getfield 26, 3) := by decide +kernel
theorem d_Top_suspicious_26 : decode b_Top_suspicious 26 = .ok (.getfield 134, 3) := by decide +kernel
theorem d_Top_suspicious_29 : decode b_Top_suspicious 29 = .ok (.if_icmp .ge 131, 3) := by decide +kernel
theorem d_Top_suspicious_32 : decode b_Top_suspicious 32 = .ok (.aload_n 0, 1) := by decide +kernel
theorem d_Top_suspicious_33 : decode b_Top_suspicious 33 = .ok (.getfield 26, 3) := by decide +kernel
theorem d_Top_suspicious_36 : decode b_Top_suspicious 36 = .ok (.getfield 92, 3) := by decide +kernel
theorem d_Top_suspicious_39 : decode b_Top_suspicious 39 = .ok (.iload 4, 2) := by decide +kernel
theorem d_Top_suspicious_41 : decode b_Top_suspicious 41 = .ok (.baload, 1) := by decide +kernel
theorem d_Top_suspicious_42 : decode b_Top_suspicious 42 = .ok (.ifCond .eq 6, 3) := by decide +kernel
theorem d_Top_suspicious_45 : decode b_Top_suspicious 45 = .ok (.goto 109, 3) := by decide +kernel
theorem d_Top_suspicious_48 : decode b_Top_suspicious 48 = .ok (.aload_n 0, 1) := by decide +kernel
theorem d_Top_suspicious_49 : decode b_Top_suspicious 49 = .ok (.getfield 26, 3) := by decide +kernel
theorem d_Top_suspicious_52 : decode b_Top_suspicious 52 = .ok (.iload 4, 2) := by decide +kernel
theorem d_Top_suspicious_54 : decode b_Top_suspicious 54 = .ok (.aload_n 0, 1) := by decide +kernel
theorem d_Top_suspicious_55 : decode b_Top_suspicious 55 = .ok (.getfield 56, 3) := by decide +kernel
theorem d_Top_suspicious_58 : decode b_Top_suspicious 58 = .ok (.invokevirtual 138, 3) := by decide +kernel
theorem d_Top_suspicious_61 : decode b_Top_suspicious 61 = .ok (.aload_n 0, 1) := by decide +kernel
theorem d_Top_suspicious_62 : decode b_Top_suspicious 62 = .ok (.getfield 26, 3) := by decide +kernel
theorem d_Top_suspicious_65 : decode b_Top_suspicious 65 = .ok (.getfield 142, 3) := by decide +kernel
theorem d_Top_suspicious_68 : decode b_Top_suspicious 68 = .ok (.iload 4, 2) := by decide +kernel
theorem d_Top_suspicious_70 : decode b_Top_suspicious 70 = .ok (.iaload, 1) := by decide +kernel
theorem d_Top_suspicious_71 : decode b_Top_suspicious 71 = .ok (.iconst 1, 1) := by decide +kernel
theorem d_Top_suspicious_72 : decode b_Top_suspicious 72 = .ok (.iadd, 1) := by decide +kernel
theorem d_Top_suspicious_73 : decode b_Top_suspicious 73 = .ok (.istore 5, 2) := by decide +kernel
theorem d_Top_suspicious_75 : decode b_Top_suspicious 75 = .ok (.iload 5, 2) := by decide +kernel
theorem d_Top_suspicious_77 : decode b_Top_suspicious 77 = .ok (.aload_n 0, 1) := by decide +kernel
theorem d_Top_suspicious_78 : decode b_Top_suspicious 78 = .ok (.getfield 19, 3) := by decide +kernel
theorem d_Top_suspicious_81 : decode b_Top_suspicious 81 = .ok (.getfield 144, 3) := by decide +kernel
theorem d_Top_suspicious_84 : decode b_Top_suspicious 84 = .ok (.if_icmp .ge 70, 3) := by decide +kernel
theorem d_Top_suspicious_87 : decode b_Top_suspicious 87 = .ok (.aload_n 0, 1) := by decide +kernel
theorem d_Top_suspicious_88 : decode b_Top_suspicious 88 = .ok (.getfield 56, 3) := by decide +kernel
theorem d_Top_suspicious_91 : decode b_Top_suspicious 91 = .ok (.iload 5, 2) := by decide +kernel
theorem d_Top_suspicious_93 : decode b_Top_suspicious 93 = .ok (.iaload, 1) := by decide +kernel
theorem d_Top_suspicious_94 : decode b_Top_suspicious 94 = .ok (.iconst (-1), 1) := by decide +kernel
theorem d_Top_suspicious_95 : decode b_Top_suspicious 95 = .ok (.if_icmp .eq 53, 3) := by decide +kernel
theorem d_Top_suspicious_98 : decode b_Top_suspicious 98 = .ok (.aload_n 0, 1) := by decide +kernel
theorem d_Top_suspicious_99 : decode b_Top_suspicious 99 = .ok (.getfield 26, 3) := by decide +kernel
theorem d_Top_suspicious_102 : decode b_Top_suspicious 102 = .ok (.iload 4, 2) := by decide +kernel
theorem d_Top_suspicious_104 : decode b_Top_suspicious 104 = .ok (.aload_n 0, 1) := by decide +kernel
theorem d_Top_suspicious_105 : decode b_Top_suspicious 105 = .ok (.getfield 56, 3) := by decide +kernel
theorem d_Top_suspicious_108 : decode b_Top_suspicious 108 = .ok (.iload 5, 2) := by decide +kernel
theorem d_Top_suspicious_110 : decode b_Top_suspicious 110 = .ok (.iaload, 1) := by decide +kernel
theorem d_Top_suspicious_111 : decode b_Top_suspicious 111 = .ok (.invokevirtual 145, 3) := by decide +kernel
theorem d_Top_suspicious_114 : decode b_Top_suspicious 114 = .ok (.bipush 60, 2) := by decide +kernel
theorem d_Top_suspicious_116 : decode b_Top_suspicious 116 = .ok (.if_icmp .le 6, 3) := by decide +kernel
theorem d_Top_suspicious_119 : decode b_Top_suspicious 119 = .ok (.goto 29, 3) := by decide +kernel
theorem d_Top_suspicious_122 : decode b_Top_suspicious 122 = .ok (.iload_n 3, 1) := by decide +kernel
theorem d_Top_suspicious_123 : decode b_Top_suspicious 123 = .ok (.iload_n 1, 1) := by decide +kernel
theorem d_Top_suspicious_124 : decode b_Top_suspicious 124 = .ok (.if_icmp .ne 21, 3) := by decide +kernel
theorem d_Top_suspicious_127 : decode b_Top_suspicious 127 = .ok (.aload_n 0, 1) := by decide +kernel
theorem d_Top_suspicious_128 : decode b_Top_suspicious 128 = .ok (.getfield 26, 3) := by decide +kernel
theorem d_Top_suspicious_131 : decode b_Top_suspicious 131 = .ok (.iload 4, 2) := by decide +kernel
theorem d_Top_suspicious_133 : decode b_Top_suspicious 133 = .ok (.aload_n 0, 1) := by decide +kernel
theorem d_Top_suspicious_134 : decode b_Top_suspicious 134 = .ok (.getfield 56, 3) := by decide +kernel
theorem d_Top_suspicious_137 : decode b_Top_suspicious 137 = .ok (.iload 5, 2) := by decide +kernel
theorem d_Top_suspicious_139 : decode b_Top_suspicious 139 = .ok (.iaload, 1) := by decide +kernel
theorem d_Top_suspicious_140 : decode b_Top_suspicious 140 = .ok (.iload_n 2, 1) := by decide +kernel
theorem d_Top_suspicious_141 : decode b_Top_suspicious 141 = .ok (.invokevirtual 149, 3) := by decide +kernel
theorem d_Top_suspicious_144 : decode b_Top_suspicious 144 = .ok (.ireturn, 1) := by decide +kernel
theorem d_Top_suspicious_145 : decode b_Top_suspicious 145 = .ok (.iinc 3 1, 3) := by decide +kernel
theorem d_Top_suspicious_148 : decode b_Top_suspicious 148 = .ok (.iinc 5 1, 3) := by decide +kernel
theorem d_Top_suspicious_151 : decode b_Top_suspicious 151 = .ok (.goto (-76), 3) := by decide +kernel
theorem d_Top_suspicious_154 : decode b_Top_suspicious 154 = .ok (.iinc 4 1, 3) := by decide +kernel
theorem d_Top_suspicious_157 : decode b_Top_suspicious 157 = .ok (.goto (-137), 3) := by decide +kernel
theorem d_Top_suspicious_160 : decode b_Top_suspicious 160 = .ok (.iconst (-1), 1) := by decide +kernel
theorem d_Top_suspicious_161 : decode b_Top_suspicious 161 = .ok (.ireturn, 1) := by decide +kernel
theorem d_Top_even_0 : decode b_Top_even 0 = .ok (.iload_n 1, 1) := by decide +kernel
theorem d_Top_even_1 : decode b_Top_even 1 = .ok (.iconst 1, 1) := by decide +kernel
theorem d_Top_even_2 : decode b_Top_even 2 = .ok (.if_icmp .lt 20, 3) := by decide +kernel
theorem d_Top_even_5 : decode b_Top_even 5 = .ok (.iload_n 1, 1) := by decide +kernel
theorem d_Top_even_6 : decode b_Top_even 6 = .ok (.bipush 6, 2) := by decide +kernel
theorem d_Top_even_8 : decode b_Top_even 8 = .ok (.if_icmp .gt 14, 3) := by decide +kernel
theorem d_Top_even_11 : decode b_Top_even 11 = .ok (.aload_n 0, 1) := by decide +kernel
theorem d_Top_even_12 : decode b_Top_even 12 = .ok (.getfield 10, 3) := by decide +kernel
theorem d_Top_even_15 : decode b_Top_even 15 = .ok (.iload_n 2, 1) := by decide +kernel
theorem d_Top_even_16 : decode b_Top_even 16 = .ok (.invokevirtual 87, 3) := by decide +kernel
theorem d_Top_even_19 : decode b_Top_even 19 = .ok (.ifCond .ne 5, 3) := by decide +kernel
theorem d_Top_even_22 : decode b_Top_even 22 = .ok (.iconst (-1), 1) := by decide +kernel
theorem d_Top_even_23 : decode b_Top_even 23 = .ok (.ireturn, 1) := by decide +kernel
theorem d_Top_even_24 : decode b_Top_even 24 = .ok (.aload_n 0, 1) := by decide +kernel
theorem d_Top_even_25 : decode b_Top_even 25 = .ok (.getfield 10, 3) := by decide +kernel
theorem d_Top_even_28 : decode b_Top_even 28 = .ok (.iload_n 2, 1) := by decide +kernel
theorem d_Top_even_29 : decode b_Top_even 29 = .ok (.iload_n 1, 1) := by decide +kernel
theorem d_Top_even_30 : decode b_Top_even 30 = .ok (.invokevirtual 153, 3) := by decide +kernel
theorem d_Top_even_33 : decode b_Top_even 33 = .ok (.ireturn, 1) := by decide +kernel
theorem d_Top_apart_0 : decode b_Top_apart 0 = .ok (.aload_n 0, 1) := by decide +kernel
theorem d_Top_apart_1 : decode b_Top_apart 1 = .ok (.getfield 10, 3) := by decide +kernel
theorem d_Top_apart_4 : decode b_Top_apart 4 = .ok (.invokevirtual 156, 3) := by decide +kernel
theorem d_Top_apart_7 : decode b_Top_apart 7 = .ok (.ireturn, 1) := by decide +kernel
theorem d_Top_secondsFromStart_0 : decode b_Top_secondsFromStart 0 = .ok (.aload_n 0, 1) := by decide +kernel
theorem d_Top_secondsFromStart_1 : decode b_Top_secondsFromStart 1 = .ok (.getfield 26, 3) := by decide +kernel
theorem d_Top_secondsFromStart_4 : decode b_Top_secondsFromStart 4 = .ok (.getfield 159, 3) := by decide +kernel
theorem d_Top_secondsFromStart_7 : decode b_Top_secondsFromStart 7 = .ok (.iload_n 1, 1) := by decide +kernel
theorem d_Top_secondsFromStart_8 : decode b_Top_secondsFromStart 8 = .ok (.iaload, 1) := by decide +kernel
theorem d_Top_secondsFromStart_9 : decode b_Top_secondsFromStart 9 = .ok (.aload_n 0, 1) := by decide +kernel
theorem d_Top_secondsFromStart_10 : decode b_Top_secondsFromStart 10 = .ok (.getfield 19, 3) := by decide +kernel
theorem d_Top_secondsFromStart_13 : decode b_Top_secondsFromStart 13 = .ok (.getfield 84, 3) := by decide +kernel
theorem d_Top_secondsFromStart_16 : decode b_Top_secondsFromStart 16 = .ok (.aload_n 0, 1) := by decide +kernel
theorem d_Top_secondsFromStart_17 : decode b_Top_secondsFromStart 17 = .ok (.getfield 26, 3) := by decide +kernel
theorem d_Top_secondsFromStart_20 : decode b_Top_secondsFromStart 20 = .ok (.getfield 142, 3) := by decide +kernel
theorem d_Top_secondsFromStart_23 : decode b_Top_secondsFromStart 23 = .ok (.iload_n 1, 1) := by decide +kernel
theorem d_Top_secondsFromStart_24 : decode b_Top_secondsFromStart 24 = .ok (.iaload, 1) := by decide +kernel
theorem d_Top_secondsFromStart_25 : decode b_Top_secondsFromStart 25 = .ok (.iaload, 1) := by decide +kernel
theorem d_Top_secondsFromStart_26 : decode b_Top_secondsFromStart 26 = .ok (.isub, 1) := by decide +kernel
theorem d_Top_secondsFromStart_27 : decode b_Top_secondsFromStart 27 = .ok (.ireturn, 1) := by decide +kernel
theorem d_Top_workOutAll_0 : decode b_Top_workOutAll 0 = .ok (.iconst 0, 1) := by decide +kernel
theorem d_Top_workOutAll_1 : decode b_Top_workOutAll 1 = .ok (.istore_n 1, 1) := by decide +kernel
theorem d_Top_workOutAll_2 : decode b_Top_workOutAll 2 = .ok (.iload_n 1, 1) := by decide +kernel
theorem d_Top_workOutAll_3 : decode b_Top_workOutAll 3 = .ok (.aload_n 0, 1) := by decide +kernel
theorem d_Top_workOutAll_4 : decode b_Top_workOutAll 4 = .ok (.getfield 19, 3) := by decide +kernel
theorem d_Top_workOutAll_7 : decode b_Top_workOutAll 7 = .ok (.getfield 144, 3) := by decide +kernel
theorem d_Top_workOutAll_10 : decode b_Top_workOutAll 10 = .ok (.if_icmp .ge 14, 3) := by decide +kernel
theorem d_Top_workOutAll_13 : decode b_Top_workOutAll 13 = .ok (.aload_n 0, 1) := by decide +kernel
theorem d_Top_workOutAll_14 : decode b_Top_workOutAll 14 = .ok (.iload_n 1, 1) := by decide +kernel
theorem d_Top_workOutAll_15 : decode b_Top_workOutAll 15 = .ok (.invokevirtual 114, 3) := by decide +kernel
theorem d_Top_workOutAll_18 : decode b_Top_workOutAll 18 = .ok (.iinc 1 1, 3) := by decide +kernel
theorem d_Top_workOutAll_21 : decode b_Top_workOutAll 21 = .ok (.goto (-19), 3) := by decide +kernel
theorem d_Top_workOutAll_24 : decode b_Top_workOutAll 24 = .ok (.return_, 1) := by decide +kernel
theorem d_Top_workOut_0 : decode b_Top_workOut 0 = .ok (.iconst 0, 1) := by decide +kernel
theorem d_Top_workOut_1 : decode b_Top_workOut 1 = .ok (.istore_n 2, 1) := by decide +kernel
theorem d_Top_workOut_2 : decode b_Top_workOut 2 = .ok (.iload_n 2, 1) := by decide +kernel
theorem d_Top_workOut_3 : decode b_Top_workOut 3 = .ok (.bipush 20, 2) := by decide +kernel
theorem d_Top_workOut_5 : decode b_Top_workOut 5 = .ok (.if_icmp .ge 32, 3) := by decide +kernel
theorem d_Top_workOut_8 : decode b_Top_workOut 8 = .ok (.aload_n 0, 1) := by decide +kernel
theorem d_Top_workOut_9 : decode b_Top_workOut 9 = .ok (.getfield 44, 3) := by decide +kernel
theorem d_Top_workOut_12 : decode b_Top_workOut 12 = .ok (.iload_n 2, 1) := by decide +kernel
theorem d_Top_workOut_13 : decode b_Top_workOut 13 = .ok (.iconst 0, 1) := by decide +kernel
theorem d_Top_workOut_14 : decode b_Top_workOut 14 = .ok (.iastore, 1) := by decide +kernel
theorem d_Top_workOut_15 : decode b_Top_workOut 15 = .ok (.aload_n 0, 1) := by decide +kernel
theorem d_Top_workOut_16 : decode b_Top_workOut 16 = .ok (.getfield 48, 3) := by decide +kernel
theorem d_Top_workOut_19 : decode b_Top_workOut 19 = .ok (.iload_n 2, 1) := by decide +kernel
theorem d_Top_workOut_20 : decode b_Top_workOut 20 = .ok (.iconst 0, 1) := by decide +kernel
theorem d_Top_workOut_21 : decode b_Top_workOut 21 = .ok (.bastore, 1) := by decide +kernel
theorem d_Top_workOut_22 : decode b_Top_workOut 22 = .ok (.aload_n 0, 1) := by decide +kernel
theorem d_Top_workOut_23 : decode b_Top_workOut 23 = .ok (.getfield 52, 3) := by decide +kernel
theorem d_Top_workOut_26 : decode b_Top_workOut 26 = .ok (.iload_n 2, 1) := by decide +kernel
theorem d_Top_workOut_27 : decode b_Top_workOut 27 = .ok (.ldc2_w 101, 3) := by decide +kernel
theorem d_Top_workOut_30 : decode b_Top_workOut 30 = .ok (.lastore, 1) := by decide +kernel
theorem d_Top_workOut_31 : decode b_Top_workOut 31 = .ok (.iinc 2 1, 3) := by decide +kernel
theorem d_Top_workOut_34 : decode b_Top_workOut 34 = .ok (.goto (-32), 3) := by decide +kernel
theorem d_Top_workOut_37 : decode b_Top_workOut 37 = .ok (.aload_n 0, 1) := by decide +kernel
theorem d_Top_workOut_38 : decode b_Top_workOut 38 = .ok (.getfield 19, 3) := by decide +kernel
theorem d_Top_workOut_41 : decode b_Top_workOut 41 = .ok (.iload_n 1, 1) := by decide +kernel
theorem d_Top_workOut_42 : decode b_Top_workOut 42 = .ok (.invokevirtual 162, 3) := by decide +kernel
theorem d_Top_workOut_45 : decode b_Top_workOut 45 = .ok (.iconst 0, 1) := by decide +kernel
theorem d_Top_workOut_46 : decode b_Top_workOut 46 = .ok (.istore_n 2, 1) := by decide +kernel
theorem d_Top_workOut_47 : decode b_Top_workOut 47 = .ok (.iload_n 2, 1) := by decide +kernel
theorem d_Top_workOut_48 : decode b_Top_workOut 48 = .ok (.aload_n 0, 1) := by decide +kernel
theorem d_Top_workOut_49 : decode b_Top_workOut 49 = .ok (.getfield 26, 3) := by decide +kernel
theorem d_Top_workOut_52 : decode b_Top_workOut 52 = .ok (.getfield 134, 3) := by decide +kernel
theorem d_Top_workOut_55 : decode b_Top_workOut 55 = .ok (.if_icmp .ge 38, 3) := by decide +kernel
theorem d_Top_workOut_58 : decode b_Top_workOut 58 = .ok (.aload_n 0, 1) := by decide +kernel
theorem d_Top_workOut_59 : decode b_Top_workOut 59 = .ok (.getfield 26, 3) := by decide +kernel
theorem d_Top_workOut_62 : decode b_Top_workOut 62 = .ok (.getfield 165, 3) := by decide +kernel
theorem d_Top_workOut_65 : decode b_Top_workOut 65 = .ok (.iload_n 2, 1) := by decide +kernel
theorem d_Top_workOut_66 : decode b_Top_workOut 66 = .ok (.iaload, 1) := by decide +kernel
theorem d_Top_workOut_67 : decode b_Top_workOut 67 = .ok (.istore_n 3, 1) := by decide +kernel
theorem d_Top_workOut_68 : decode b_Top_workOut 68 = .ok (.aload_n 0, 1) := by decide +kernel
theorem d_Top_workOut_69 : decode b_Top_workOut 69 = .ok (.getfield 26, 3) := by decide +kernel
theorem d_Top_workOut_72 : decode b_Top_workOut 72 = .ok (.getfield 142, 3) := by decide +kernel
theorem d_Top_workOut_75 : decode b_Top_workOut 75 = .ok (.iload_n 3, 1) := by decide +kernel
theorem d_Top_workOut_76 : decode b_Top_workOut 76 = .ok (.iaload, 1) := by decide +kernel
theorem d_Top_workOut_77 : decode b_Top_workOut 77 = .ok (.iload_n 1, 1) := by decide +kernel
theorem d_Top_workOut_78 : decode b_Top_workOut 78 = .ok (.if_icmp .ne 9, 3) := by decide +kernel
theorem d_Top_workOut_81 : decode b_Top_workOut 81 = .ok (.aload_n 0, 1) := by decide +kernel
theorem d_Top_workOut_82 : decode b_Top_workOut 82 = .ok (.iload_n 1, 1) := by decide +kernel
theorem d_Top_workOut_83 : decode b_Top_workOut 83 = .ok (.iload_n 3, 1) := by decide +kernel
theorem d_Top_workOut_84 : decode b_Top_workOut 84 = .ok (.invokevirtual 168, 3) := by decide +kernel
theorem d_Top_workOut_87 : decode b_Top_workOut 87 = .ok (.iinc 2 1, 3) := by decide +kernel
theorem d_Top_workOut_90 : decode b_Top_workOut 90 = .ok (.goto (-43), 3) := by decide +kernel
theorem d_Top_workOut_93 : decode b_Top_workOut 93 = .ok (.return_, 1) := by decide +kernel
theorem d_Top_take_0 : decode b_Top_take 0 = .ok (.aload_n 0, 1) := by decide +kernel
theorem d_Top_take_1 : decode b_Top_take 1 = .ok (.getfield 26, 3) := by decide +kernel
theorem d_Top_take_4 : decode b_Top_take 4 = .ok (.getfield 172, 3) := by decide +kernel
theorem d_Top_take_7 : decode b_Top_take 7 = .ok (.iload_n 2, 1) := by decide +kernel
theorem d_Top_take_8 : decode b_Top_take 8 = .ok (.iaload, 1) := by decide +kernel
theorem d_Top_take_9 : decode b_Top_take 9 = .ok (.istore_n 3, 1) := by decide +kernel
theorem d_Top_take_10 : decode b_Top_take 10 = .ok (.aload_n 0, 1) := by decide +kernel
theorem d_Top_take_11 : decode b_Top_take 11 = .ok (.getfield 48, 3) := by decide +kernel
theorem d_Top_take_14 : decode b_Top_take 14 = .ok (.iload_n 3, 1) := by decide +kernel
theorem d_Top_take_15 : decode b_Top_take 15 = .ok (.baload, 1) := by decide +kernel
theorem d_Top_take_16 : decode b_Top_take 16 = .ok (.ifCond .eq 4, 3) := by decide +kernel
theorem d_Top_take_19 : decode b_Top_take 19 = .ok (.return_, 1) := by decide +kernel
theorem d_Top_take_20 : decode b_Top_take 20 = .ok (.aload_n 0, 1) := by decide +kernel
theorem d_Top_take_21 : decode b_Top_take 21 = .ok (.getfield 26, 3) := by decide +kernel
theorem d_Top_take_24 : decode b_Top_take 24 = .ok (.getfield 92, 3) := by decide +kernel
theorem d_Top_take_27 : decode b_Top_take 27 = .ok (.iload_n 2, 1) := by decide +kernel
theorem d_Top_take_28 : decode b_Top_take 28 = .ok (.baload, 1) := by decide +kernel
theorem d_Top_take_29 : decode b_Top_take 29 = .ok (.ifCond .ne 14, 3) := by decide +kernel
theorem d_Top_take_32 : decode b_Top_take 32 = .ok (.aload_n 0, 1) := by decide +kernel
theorem d_Top_take_33 : decode b_Top_take 33 = .ok (.getfield 44, 3) := by decide +kernel
theorem d_Top_take_36 : decode b_Top_take 36 = .ok (.iload_n 3, 1) := by decide +kernel
theorem d_Top_take_37 : decode b_Top_take 37 = .ok (.dup2, 1) := by decide +kernel
theorem d_Top_take_38 : decode b_Top_take 38 = .ok (.iaload, 1) := by decide +kernel
theorem d_Top_take_39 : decode b_Top_take 39 = .ok (.iconst 1, 1) := by decide +kernel
theorem d_Top_take_40 : decode b_Top_take 40 = .ok (.iadd, 1) := by decide +kernel
theorem d_Top_take_41 : decode b_Top_take 41 = .ok (.iastore, 1) := by decide +kernel
theorem d_Top_take_42 : decode b_Top_take 42 = .ok (.return_, 1) := by decide +kernel
theorem d_Top_take_43 : decode b_Top_take 43 = .ok (.aload_n 0, 1) := by decide +kernel
theorem d_Top_take_44 : decode b_Top_take 44 = .ok (.getfield 48, 3) := by decide +kernel
theorem d_Top_take_47 : decode b_Top_take 47 = .ok (.iload_n 3, 1) := by decide +kernel
theorem d_Top_take_48 : decode b_Top_take 48 = .ok (.iconst 1, 1) := by decide +kernel
theorem d_Top_take_49 : decode b_Top_take 49 = .ok (.bastore, 1) := by decide +kernel
theorem d_Top_take_50 : decode b_Top_take 50 = .ok (.aload_n 0, 1) := by decide +kernel
theorem d_Top_take_51 : decode b_Top_take 51 = .ok (.iload_n 2, 1) := by decide +kernel
theorem d_Top_take_52 : decode b_Top_take 52 = .ok (.invokevirtual 95, 3) := by decide +kernel
theorem d_Top_take_55 : decode b_Top_take 55 = .ok (.istore 4, 2) := by decide +kernel
theorem d_Top_take_57 : decode b_Top_take 57 = .ok (.aload_n 0, 1) := by decide +kernel
theorem d_Top_take_58 : decode b_Top_take 58 = .ok (.getfield 40, 3) := by decide +kernel
theorem d_Top_take_61 : decode b_Top_take 61 = .ok (.iload 4, 2) := by decide +kernel
theorem d_Top_take_63 : decode b_Top_take 63 = .ok (.invokevirtual 98, 3) := by decide +kernel
theorem d_Top_take_66 : decode b_Top_take 66 = .ok (.ifCond .eq 4, 3) := by decide +kernel
theorem d_Top_take_69 : decode b_Top_take 69 = .ok (.return_, 1) := by decide +kernel
theorem d_Top_take_70 : decode b_Top_take 70 = .ok (.aload_n 0, 1) := by decide +kernel
theorem d_Top_take_71 : decode b_Top_take 71 = .ok (.getfield 52, 3) := by decide +kernel
theorem d_Top_take_74 : decode b_Top_take 74 = .ok (.iload_n 3, 1) := by decide +kernel
theorem d_Top_take_75 : decode b_Top_take 75 = .ok (.aload_n 0, 1) := by decide +kernel
theorem d_Top_take_76 : decode b_Top_take 76 = .ok (.getfield 40, 3) := by decide +kernel
theorem d_Top_take_79 : decode b_Top_take 79 = .ok (.aload_n 0, 1) := by decide +kernel
theorem d_Top_take_80 : decode b_Top_take 80 = .ok (.getfield 10, 3) := by decide +kernel
theorem d_Top_take_83 : decode b_Top_take 83 = .ok (.getfield 174, 3) := by decide +kernel
theorem d_Top_take_86 : decode b_Top_take 86 = .ok (.iload_n 3, 1) := by decide +kernel
theorem d_Top_take_87 : decode b_Top_take 87 = .ok (.iaload, 1) := by decide +kernel
theorem d_Top_take_88 : decode b_Top_take 88 = .ok (.iload 4, 2) := by decide +kernel
theorem d_Top_take_90 : decode b_Top_take 90 = .ok (.aload_n 0, 1) := by decide +kernel
theorem d_Top_take_91 : decode b_Top_take 91 = .ok (.getfield 44, 3) := by decide +kernel
theorem d_Top_take_94 : decode b_Top_take 94 = .ok (.iload_n 3, 1) := by decide +kernel
theorem d_Top_take_95 : decode b_Top_take 95 = .ok (.iaload, 1) := by decide +kernel
theorem d_Top_take_96 : decode b_Top_take 96 = .ok (.invokevirtual 177, 3) := by decide +kernel
theorem d_Top_take_99 : decode b_Top_take 99 = .ok (.lastore, 1) := by decide +kernel
theorem d_Top_take_100 : decode b_Top_take 100 = .ok (.aload_n 0, 1) := by decide +kernel
theorem d_Top_take_101 : decode b_Top_take 101 = .ok (.getfield 19, 3) := by decide +kernel
theorem d_Top_take_104 : decode b_Top_take 104 = .ok (.iload_n 1, 1) := by decide +kernel
theorem d_Top_take_105 : decode b_Top_take 105 = .ok (.aload_n 0, 1) := by decide +kernel
theorem d_Top_take_106 : decode b_Top_take 106 = .ok (.getfield 52, 3) := by decide +kernel
theorem d_Top_take_109 : decode b_Top_take 109 = .ok (.iload_n 3, 1) := by decide +kernel
theorem d_Top_take_110 : decode b_Top_take 110 = .ok (.laload, 1) := by decide +kernel
theorem d_Top_take_111 : decode b_Top_take 111 = .ok (.iload 4, 2) := by decide +kernel
theorem d_Top_take_113 : decode b_Top_take 113 = .ok (.invokevirtual 181, 3) := by decide +kernel
theorem d_Top_take_116 : decode b_Top_take 116 = .ok (.return_, 1) := by decide +kernel
end
section
theorem kf_Persons_25 : Cond.fieldLink "ContestRows$Persons" 25 "ContestRows$Persons" "many" "I" ∈ TBL := TBL_t (List.mem_append_left _ (List.mem_of_getElem? (i := 68) rfl)) rfl
set_option maxHeartbeats 4000000 in
set_option maxRecDepth 100000 in
theorem c_Persons_has (l : Launch) (G : va_G) (cI cZ cJ : ClassId) (h : Nat → Nat) (ne : Nat) (stt : Nat → Option Nat) (sco : Nat → Nat) (tim : Nat → Nat) (cnt : Nat → Nat) (x : Int32) (hn : ne ≤ 300) : Ct l G (tyL cI cZ cJ) y_Persons_has b_Persons_has 2 (some .boolean) (rmL 0) [.ref (h 11), .int x] (w_Per h cI cZ cJ ne stt sco tim cnt) (some (.int (bI (inB x ne)))) (w_Per h cI cZ cJ ne stt sco tim cnt) := by
  refine M_start (by decide) (Nat.le_of_ble_eq_true rfl) ?_
  intro p e s m args below meth c A Q ls X Y hW hl
  have hx := X.1.1
  have hb := X.1.2.1
  have hl : lv_has ls 2 [(0, .ref (h 11)), (1, .int x)] := hl
  refine lv_iload_n hx hb d_Persons_has_0 rfl (lv_at hl 1 rfl) ?_
  refine N_if_lt_R hx hb  (tgt := 16) d_Persons_has_1 (by decide) (fun c1 => ?_) (fun c1 => ?_)
  · refine lv_iconst (v := (nI 0)) hx hb d_Persons_has_16 (by decide +kernel) ?_
    exact R_zret X Y hW rfl false (by decide +kernel) (by rw [inB_f (by omega)]) d_Persons_has_17
  · refine lv_iload_n hx hb d_Persons_has_4 rfl (lv_at hl 1 rfl) ?_
    refine lv_aload_n hx hb d_Persons_has_5 rfl (lv_at hl 0 rfl) ?_
    refine R_get X hW i_Persons rfl 4 (by decide) kf_Persons_25 0 rfl rfl d_Persons_has_6 ?_
    refine N_icmp_ge_RN hx hb (by omega) (tgt := 16) d_Persons_has_9 (by decide) (fun c9 => ?_) (fun c9 => ?_)
    · refine lv_iconst (v := (nI 0)) hx hb d_Persons_has_16 (by decide +kernel) ?_
      exact R_zret X Y hW rfl false (by decide +kernel) (by rw [inB_f (by omega)]) d_Persons_has_17
    · refine lv_iconst (v := (nI 1)) hx hb d_Persons_has_12 (by decide +kernel) ?_
      refine lv_goto (tgt := 17) hx hb d_Persons_has_13 (by decide) ?_
      exact R_zret X Y hW rfl true (by decide +kernel) (by rw [inB_t (by omega)]) d_Persons_has_17

theorem kf_Persons_9 : Cond.fieldLink "ContestRows$Persons" 9 "ContestRows$Persons" "starts" "[I" ∈ TBL := TBL_t (List.mem_append_left _ (List.mem_of_getElem? (i := 60) rfl)) rfl
set_option maxHeartbeats 4000000 in
set_option maxRecDepth 100000 in
theorem c_Persons_add_ok (l : Launch) (G : va_G) (cI cZ cJ : ClassId) (h : Nat → Nat) (ne : Nat) (stt : Nat → Option Nat) (sco : Nat → Nat) (tim : Nat → Nat) (cnt : Nat → Nat)  (hn : ne < 20) : Ct l G (tyL cI cZ cJ) y_Persons_add b_Persons_add 1 (some .int) (rmL 0) [.ref (h 11)] (w_Per h cI cZ cJ ne stt sco tim cnt) (some (.int (nI ne))) (w_Per h cI cZ cJ (ne + 1) (va_up stt ne none) sco tim cnt) := by
  refine M_start (by decide) (Nat.le_of_ble_eq_true rfl) ?_
  intro p e s m args below meth c A Q ls X Y hW hl
  have hx := X.1.1
  have hb := X.1.2.1
  have hl : lv_has ls 1 [(0, .ref (h 11))] := hl
  refine lv_aload_n hx hb d_Persons_add_0 rfl (lv_at hl 0 rfl) ?_
  refine R_get X hW i_Persons rfl 4 (by decide) kf_Persons_25 0 rfl rfl d_Persons_add_1 ?_
  refine lv_bipush (v := (nI 20)) hx hb d_Persons_add_4 (by decide +kernel) ?_
  refine N_icmp_lt_NN hx hb (by omega) (by decide) (tgt := 11) d_Persons_add_6 (by decide) (fun c6 => ?_) (fun c6 => ?_)
  · refine lv_aload_n hx hb d_Persons_add_11 rfl (lv_at hl 0 rfl) ?_
    refine R_get X hW i_Persons rfl 0 (by decide) kf_Persons_9 0 rfl rfl d_Persons_add_12 ?_
    refine lv_aload_n hx hb d_Persons_add_15 rfl (lv_at hl 0 rfl) ?_
    refine R_get X hW i_Persons rfl 4 (by decide) kf_Persons_25 0 rfl rfl d_Persons_add_16 ?_
    refine lv_iconst (v := (-1)) hx hb d_Persons_add_19 (by decide +kernel) ?_
    refine R_iast X hW (t0 := 0) rfl 1 rfl (k := ne) (by omega) (by decide) none rfl d_Persons_add_20 (fun H locs hW => ?_)
    have hW : Wr G A s.heap (w_Per h cI cZ cJ ne (va_up stt ne none) sco tim cnt) H locs := hW
    refine lv_aload_n hx hb d_Persons_add_21 rfl (lv_at hl 0 rfl) ?_
    refine lv_dup hx hb d_Persons_add_22 rfl ?_
    refine R_get X hW i_Persons rfl 4 (by decide) kf_Persons_25 0 rfl rfl d_Persons_add_23 ?_
    refine lv_iconst (v := (nI 1)) hx hb d_Persons_add_26 (by decide +kernel) ?_
    refine N_iadd hx hb d_Persons_add_27 ?_
    refine R_put X hW i_Persons rfl t_Persons t_Persons_ok n_Persons 4 (by decide) kf_Persons_25 rfl (ty := .int) (by decide +kernel) 0 rfl (v := .int (nI (ne + 1))) rfl rfl (Nat.le_of_ble_eq_true rfl) d_Persons_add_28 (fun H locs hW => ?_)
    have hW : Wr G A s.heap (w_Per h cI cZ cJ (ne + 1) (va_up stt ne none) sco tim cnt) H locs := hW
    refine lv_aload_n hx hb d_Persons_add_31 rfl (lv_at hl 0 rfl) ?_
    refine R_get X hW i_Persons rfl 4 (by decide) kf_Persons_25 0 rfl rfl d_Persons_add_32 ?_
    refine lv_iconst (v := (nI 1)) hx hb d_Persons_add_35 (by decide +kernel) ?_
    refine N_isub (r := ne) hx hb (by omega) (by omega) d_Persons_add_36 ?_
    exact R_iret X Y hW rfl rfl d_Persons_add_37
  · exfalso; omega

set_option maxHeartbeats 4000000 in
set_option maxRecDepth 100000 in
theorem c_Persons_add_full (l : Launch) (G : va_G) (cI cZ cJ : ClassId) (h : Nat → Nat) (ne : Nat) (stt : Nat → Option Nat) (sco : Nat → Nat) (tim : Nat → Nat) (cnt : Nat → Nat)  (hn : ne = 20) : Ct l G (tyL cI cZ cJ) y_Persons_add b_Persons_add 1 (some .int) (rmL 0) [.ref (h 11)] (w_Per h cI cZ cJ ne stt sco tim cnt) (some (.int (-1))) (w_Per h cI cZ cJ ne stt sco tim cnt) := by
  refine M_start (by decide) (Nat.le_of_ble_eq_true rfl) ?_
  intro p e s m args below meth c A Q ls X Y hW hl
  have hx := X.1.1
  have hb := X.1.2.1
  have hl : lv_has ls 1 [(0, .ref (h 11))] := hl
  refine lv_aload_n hx hb d_Persons_add_0 rfl (lv_at hl 0 rfl) ?_
  refine R_get X hW i_Persons rfl 4 (by decide) kf_Persons_25 0 rfl rfl d_Persons_add_1 ?_
  refine lv_bipush (v := (nI 20)) hx hb d_Persons_add_4 (by decide +kernel) ?_
  refine N_icmp_lt_NN hx hb (by omega) (by decide) (tgt := 11) d_Persons_add_6 (by decide) (fun c6 => ?_) (fun c6 => ?_)
  · exfalso; omega
  · refine lv_iconst (v := (-1)) hx hb d_Persons_add_9 (by decide +kernel) ?_
    exact R_iret X Y hW rfl rfl d_Persons_add_10

theorem kf_Persons_15 : Cond.fieldLink "ContestRows$Persons" 15 "ContestRows$Persons" "scores" "[J" ∈ TBL := TBL_t (List.mem_append_left _ (List.mem_of_getElem? (i := 62) rfl)) rfl
theorem kf_Persons_19 : Cond.fieldLink "ContestRows$Persons" 19 "ContestRows$Persons" "times" "[J" ∈ TBL := TBL_t (List.mem_append_left _ (List.mem_of_getElem? (i := 64) rfl)) rfl
theorem kf_Persons_22 : Cond.fieldLink "ContestRows$Persons" 22 "ContestRows$Persons" "counts" "[I" ∈ TBL := TBL_t (List.mem_append_left _ (List.mem_of_getElem? (i := 66) rfl)) rfl
set_option maxHeartbeats 4000000 in
set_option maxRecDepth 100000 in
theorem c_Persons_clearSums (l : Launch) (G : va_G) (cI cZ cJ : ClassId) (h : Nat → Nat) (ne : Nat) (stt : Nat → Option Nat) (sco : Nat → Nat) (tim : Nat → Nat) (cnt : Nat → Nat) (x : Nat) (hx0 : x < 20) : Ct l G (tyL cI cZ cJ) y_Persons_clearSums b_Persons_clearSums 2 none (rmL 0) [.ref (h 11), .int (nI x)] (w_Per h cI cZ cJ ne stt sco tim cnt) none (w_Per h cI cZ cJ ne stt (va_up sco x 0) (va_up tim x 0) (va_up cnt x 0)) := by
  refine M_start (by decide) (Nat.le_of_ble_eq_true rfl) ?_
  intro p e s m args below meth c A Q ls X Y hW hl
  have hx := X.1.1
  have hb := X.1.2.1
  have hl : lv_has ls 2 [(0, .ref (h 11)), (1, .int (nI x))] := hl
  refine lv_aload_n hx hb d_Persons_clearSums_0 rfl (lv_at hl 0 rfl) ?_
  refine R_get X hW i_Persons rfl 1 (by decide) kf_Persons_15 0 rfl rfl d_Persons_clearSums_1 ?_
  refine lv_iload_n hx hb d_Persons_clearSums_4 rfl (lv_at hl 1 rfl) ?_
  refine lv_lconst (v := lN 0) hx hb d_Persons_clearSums_5 (by decide +kernel) ?_
  refine R_last X hW (t0 := 2) rfl 2 rfl (k := x) (by omega) (by decide) 0 rfl d_Persons_clearSums_6 (fun H locs hW => ?_)
  have hW : Wr G A s.heap (w_Per h cI cZ cJ ne stt (va_up sco x 0) tim cnt) H locs := hW
  refine lv_aload_n hx hb d_Persons_clearSums_7 rfl (lv_at hl 0 rfl) ?_
  refine R_get X hW i_Persons rfl 2 (by decide) kf_Persons_19 0 rfl rfl d_Persons_clearSums_8 ?_
  refine lv_iload_n hx hb d_Persons_clearSums_11 rfl (lv_at hl 1 rfl) ?_
  refine lv_lconst (v := lN 0) hx hb d_Persons_clearSums_12 (by decide +kernel) ?_
  refine R_last X hW (t0 := 2) rfl 3 rfl (k := x) (by omega) (by decide) 0 rfl d_Persons_clearSums_13 (fun H locs hW => ?_)
  have hW : Wr G A s.heap (w_Per h cI cZ cJ ne stt (va_up sco x 0) (va_up tim x 0) cnt) H locs := hW
  refine lv_aload_n hx hb d_Persons_clearSums_14 rfl (lv_at hl 0 rfl) ?_
  refine R_get X hW i_Persons rfl 3 (by decide) kf_Persons_22 0 rfl rfl d_Persons_clearSums_15 ?_
  refine lv_iload_n hx hb d_Persons_clearSums_18 rfl (lv_at hl 1 rfl) ?_
  refine lv_iconst (v := (nI 0)) hx hb d_Persons_clearSums_19 (by decide +kernel) ?_
  refine R_iast X hW (t0 := 0) rfl 4 rfl (k := x) (by omega) (by decide) 0 rfl d_Persons_clearSums_20 (fun H locs hW => ?_)
  have hW : Wr G A s.heap (w_Per h cI cZ cJ ne stt (va_up sco x 0) (va_up tim x 0) (va_up cnt x 0)) H locs := hW
  exact R_vret X Y hW rfl rfl d_Persons_clearSums_21

set_option maxHeartbeats 4000000 in
set_option maxRecDepth 100000 in
theorem c_Persons_addToSums (l : Launch) (G : va_G) (cI cZ cJ : ClassId) (h : Nat → Nat) (ne : Nat) (stt : Nat → Option Nat) (sco : Nat → Nat) (tim : Nat → Nat) (cnt : Nat → Nat) (x : Nat) (pt : Nat) (sd : Nat) (hx0 : x < 20) (hsd : sd < 2 ^ 31) : Ct l G (tyL cI cZ cJ) y_Persons_addToSums b_Persons_addToSums 5 none (rmL 0) [.ref (h 11), .int (nI x), .long (lN pt), .int (nI sd)] (w_Per h cI cZ cJ ne stt sco tim cnt) none (w_Per h cI cZ cJ ne stt (va_up sco x (sco x + pt)) (va_up tim x (tim x + sd)) (va_up cnt x (cnt x + 1))) := by
  refine M_start (by decide) (Nat.le_of_ble_eq_true rfl) ?_
  intro p e s m args below meth c A Q ls X Y hW hl
  have hx := X.1.1
  have hb := X.1.2.1
  have hl : lv_has ls 5 [(0, .ref (h 11)), (1, .int (nI x)), (2, .long (lN pt)), (4, .int (nI sd))] := hl
  refine lv_aload_n hx hb d_Persons_addToSums_0 rfl (lv_at hl 0 rfl) ?_
  refine R_get X hW i_Persons rfl 1 (by decide) kf_Persons_15 0 rfl rfl d_Persons_addToSums_1 ?_
  refine lv_iload_n hx hb d_Persons_addToSums_4 rfl (lv_at hl 1 rfl) ?_
  refine lv_dup2_11 hx hb d_Persons_addToSums_5 rfl rfl ?_
  refine R_lald X hW (t0 := 2) rfl 2 rfl (k := x) (by omega) (by decide) d_Persons_addToSums_6 ?_
  refine lv_lload_n hx hb d_Persons_addToSums_7 rfl (lv_at hl 2 rfl) ?_
  refine N_ladd hx hb d_Persons_addToSums_8 ?_
  refine R_last X hW (t0 := 2) rfl 2 rfl (k := x) (by omega) (by decide) ((sco x) + pt) rfl d_Persons_addToSums_9 (fun H locs hW => ?_)
  have hW : Wr G A s.heap (w_Per h cI cZ cJ ne stt (va_up sco x ((sco x) + pt)) tim cnt) H locs := hW
  refine lv_aload_n hx hb d_Persons_addToSums_10 rfl (lv_at hl 0 rfl) ?_
  refine R_get X hW i_Persons rfl 2 (by decide) kf_Persons_19 0 rfl rfl d_Persons_addToSums_11 ?_
  refine lv_iload_n hx hb d_Persons_addToSums_14 rfl (lv_at hl 1 rfl) ?_
  refine lv_dup2_11 hx hb d_Persons_addToSums_15 rfl rfl ?_
  refine R_lald X hW (t0 := 2) rfl 3 rfl (k := x) (by omega) (by decide) d_Persons_addToSums_16 ?_
  refine lv_iload hx hb d_Persons_addToSums_17 (lv_at hl 3 rfl) ?_
  refine N_i2l hx hb (by omega) d_Persons_addToSums_19 ?_
  refine N_ladd hx hb d_Persons_addToSums_20 ?_
  refine R_last X hW (t0 := 2) rfl 3 rfl (k := x) (by omega) (by decide) ((tim x) + sd) rfl d_Persons_addToSums_21 (fun H locs hW => ?_)
  have hW : Wr G A s.heap (w_Per h cI cZ cJ ne stt (va_up sco x ((sco x) + pt)) (va_up tim x ((tim x) + sd)) cnt) H locs := hW
  refine lv_aload_n hx hb d_Persons_addToSums_22 rfl (lv_at hl 0 rfl) ?_
  refine R_get X hW i_Persons rfl 3 (by decide) kf_Persons_22 0 rfl rfl d_Persons_addToSums_23 ?_
  refine lv_iload_n hx hb d_Persons_addToSums_26 rfl (lv_at hl 1 rfl) ?_
  refine lv_dup2_11 hx hb d_Persons_addToSums_27 rfl rfl ?_
  refine R_iald X hW (t0 := 0) rfl 4 rfl (k := x) (by omega) (by decide) d_Persons_addToSums_28 ?_
  refine lv_iconst (v := (nI 1)) hx hb d_Persons_addToSums_29 (by decide +kernel) ?_
  refine N_iadd hx hb d_Persons_addToSums_30 ?_
  refine R_iast X hW (t0 := 0) rfl 4 rfl (k := x) (by omega) (by decide) ((cnt x) + 1) rfl d_Persons_addToSums_31 (fun H locs hW => ?_)
  have hW : Wr G A s.heap (w_Per h cI cZ cJ ne stt (va_up sco x ((sco x) + pt)) (va_up tim x ((tim x) + sd)) (va_up cnt x ((cnt x) + 1))) H locs := hW
  exact R_vret X Y hW rfl rfl d_Persons_addToSums_32

set_option maxHeartbeats 4000000 in
set_option maxRecDepth 100000 in
theorem c_Persons_alike (l : Launch) (G : va_G) (cI cZ cJ : ClassId) (h : Nat → Nat) (ne : Nat) (stt : Nat → Option Nat) (sco : Nat → Nat) (tim : Nat → Nat) (cnt : Nat → Nat) (a : Nat) (b : Nat) (t : Bool) (ha : a < 20) (hb0 : b < 20) (hsc : ∀ i, i < 20 → sco i < 2 ^ 63) (htm : ∀ i, i < 20 → tim i < 2 ^ 63) : Ct l G (tyL cI cZ cJ) y_Persons_alike b_Persons_alike 4 (some .boolean) (rmL 0) [.ref (h 11), .int (nI a), .int (nI b), .int (bI t)] (w_Per h cI cZ cJ ne stt sco tim cnt) (some (.int (bI (alk sco tim t a b)))) (w_Per h cI cZ cJ ne stt sco tim cnt) := by
  refine M_start (by decide) (Nat.le_of_ble_eq_true rfl) ?_
  intro p e s m args below meth c A Q ls X Y hW hl
  have hx := X.1.1
  have hb := X.1.2.1
  have hl : lv_has ls 4 [(0, .ref (h 11)), (1, .int (nI a)), (2, .int (nI b)), (3, .int (bI t))] := hl
  have q1 := hsc a ha
  have q2 := hsc b hb0
  have q3 := htm a ha
  have q4 := htm b hb0
  refine lv_aload_n hx hb d_Persons_alike_0 rfl (lv_at hl 0 rfl) ?_
  refine R_get X hW i_Persons rfl 1 (by decide) kf_Persons_15 0 rfl rfl d_Persons_alike_1 ?_
  refine lv_iload_n hx hb d_Persons_alike_4 rfl (lv_at hl 1 rfl) ?_
  refine R_lald X hW (t0 := 2) rfl 2 rfl (k := a) (by omega) (by decide) d_Persons_alike_5 ?_
  refine lv_aload_n hx hb d_Persons_alike_6 rfl (lv_at hl 0 rfl) ?_
  refine R_get X hW i_Persons rfl 1 (by decide) kf_Persons_15 0 rfl rfl d_Persons_alike_7 ?_
  refine lv_iload_n hx hb d_Persons_alike_10 rfl (lv_at hl 2 rfl) ?_
  refine R_lald X hW (t0 := 2) rfl 2 rfl (k := b) (by omega) (by decide) d_Persons_alike_11 ?_
  refine N_lcmp_ne hx hb (by omega) (by omega) (tgt := 40) d_Persons_alike_12 d_Persons_alike_13 (by decide) (fun c12 => ?_) (fun c12 => ?_)
  · refine lv_iconst (v := (nI 0)) hx hb d_Persons_alike_40 (by decide +kernel) ?_
    exact R_zret X Y hW rfl false (by decide +kernel) (by simp [alk, *]) d_Persons_alike_41
  · refine lv_iload_n hx hb d_Persons_alike_16 rfl (lv_at hl 3 rfl) ?_
    refine N_if_eq_B hx hb  (tgt := 36) d_Persons_alike_17 (by decide) (fun c17 => ?_) (fun c17 => ?_)
    · refine lv_iconst (v := (nI 1)) hx hb d_Persons_alike_36 (by decide +kernel) ?_
      refine lv_goto (tgt := 41) hx hb d_Persons_alike_37 (by decide) ?_
      exact R_zret X Y hW rfl true (by decide +kernel) (by simp [alk, *]) d_Persons_alike_41
    · refine lv_aload_n hx hb d_Persons_alike_20 rfl (lv_at hl 0 rfl) ?_
      refine R_get X hW i_Persons rfl 2 (by decide) kf_Persons_19 0 rfl rfl d_Persons_alike_21 ?_
      refine lv_iload_n hx hb d_Persons_alike_24 rfl (lv_at hl 1 rfl) ?_
      refine R_lald X hW (t0 := 2) rfl 3 rfl (k := a) (by omega) (by decide) d_Persons_alike_25 ?_
      refine lv_aload_n hx hb d_Persons_alike_26 rfl (lv_at hl 0 rfl) ?_
      refine R_get X hW i_Persons rfl 2 (by decide) kf_Persons_19 0 rfl rfl d_Persons_alike_27 ?_
      refine lv_iload_n hx hb d_Persons_alike_30 rfl (lv_at hl 2 rfl) ?_
      refine R_lald X hW (t0 := 2) rfl 3 rfl (k := b) (by omega) (by decide) d_Persons_alike_31 ?_
      refine N_lcmp_ne hx hb (by omega) (by omega) (tgt := 40) d_Persons_alike_32 d_Persons_alike_33 (by decide) (fun c32 => ?_) (fun c32 => ?_)
      · refine lv_iconst (v := (nI 0)) hx hb d_Persons_alike_40 (by decide +kernel) ?_
        exact R_zret X Y hW rfl false (by decide +kernel) (by simp [alk, *]) d_Persons_alike_41
      · refine lv_iconst (v := (nI 1)) hx hb d_Persons_alike_36 (by decide +kernel) ?_
        refine lv_goto (tgt := 41) hx hb d_Persons_alike_37 (by decide) ?_
        exact R_zret X Y hW rfl true (by decide +kernel) (by simp [alk, *]) d_Persons_alike_41

set_option maxHeartbeats 4000000 in
set_option maxRecDepth 100000 in
theorem c_Persons_isAhead (l : Launch) (G : va_G) (cI cZ cJ : ClassId) (h : Nat → Nat) (ne : Nat) (stt : Nat → Option Nat) (sco : Nat → Nat) (tim : Nat → Nat) (cnt : Nat → Nat) (a : Nat) (b : Nat) (t : Bool) (ha : a < 20) (hb0 : b < 20) (hsc : ∀ i, i < 20 → sco i < 2 ^ 63) (htm : ∀ i, i < 20 → tim i < 2 ^ 63) : Ct l G (tyL cI cZ cJ) y_Persons_isAhead b_Persons_isAhead 4 (some .boolean) (rmL 0) [.ref (h 11), .int (nI a), .int (nI b), .int (bI t)] (w_Per h cI cZ cJ ne stt sco tim cnt) (some (.int (bI (ahd sco tim t a b)))) (w_Per h cI cZ cJ ne stt sco tim cnt) := by
  refine M_start (by decide) (Nat.le_of_ble_eq_true rfl) ?_
  intro p e s m args below meth c A Q ls X Y hW hl
  have hx := X.1.1
  have hb := X.1.2.1
  have hl : lv_has ls 4 [(0, .ref (h 11)), (1, .int (nI a)), (2, .int (nI b)), (3, .int (bI t))] := hl
  have q1 := hsc a ha
  have q2 := hsc b hb0
  have q3 := htm a ha
  have q4 := htm b hb0
  refine lv_aload_n hx hb d_Persons_isAhead_0 rfl (lv_at hl 0 rfl) ?_
  refine R_get X hW i_Persons rfl 1 (by decide) kf_Persons_15 0 rfl rfl d_Persons_isAhead_1 ?_
  refine lv_iload_n hx hb d_Persons_isAhead_4 rfl (lv_at hl 1 rfl) ?_
  refine R_lald X hW (t0 := 2) rfl 2 rfl (k := a) (by omega) (by decide) d_Persons_isAhead_5 ?_
  refine lv_aload_n hx hb d_Persons_isAhead_6 rfl (lv_at hl 0 rfl) ?_
  refine R_get X hW i_Persons rfl 1 (by decide) kf_Persons_15 0 rfl rfl d_Persons_isAhead_7 ?_
  refine lv_iload_n hx hb d_Persons_isAhead_10 rfl (lv_at hl 2 rfl) ?_
  refine R_lald X hW (t0 := 2) rfl 2 rfl (k := b) (by omega) (by decide) d_Persons_isAhead_11 ?_
  refine N_lcmp_eq hx hb (by omega) (by omega) (tgt := 38) d_Persons_isAhead_12 d_Persons_isAhead_13 (by decide) (fun c12 => ?_) (fun c12 => ?_)
  · refine lv_iload_n hx hb d_Persons_isAhead_38 rfl (lv_at hl 3 rfl) ?_
    refine N_if_eq_B hx hb  (tgt := 62) d_Persons_isAhead_39 (by decide) (fun c39 => ?_) (fun c39 => ?_)
    · refine lv_iconst (v := (nI 0)) hx hb d_Persons_isAhead_62 (by decide +kernel) ?_
      exact R_zret X Y hW rfl false (by decide +kernel) (by rw [ahd, decide_eq_false (by simp [c39]; omega)]) d_Persons_isAhead_63
    · refine lv_aload_n hx hb d_Persons_isAhead_42 rfl (lv_at hl 0 rfl) ?_
      refine R_get X hW i_Persons rfl 2 (by decide) kf_Persons_19 0 rfl rfl d_Persons_isAhead_43 ?_
      refine lv_iload_n hx hb d_Persons_isAhead_46 rfl (lv_at hl 1 rfl) ?_
      refine R_lald X hW (t0 := 2) rfl 3 rfl (k := a) (by omega) (by decide) d_Persons_isAhead_47 ?_
      refine lv_aload_n hx hb d_Persons_isAhead_48 rfl (lv_at hl 0 rfl) ?_
      refine R_get X hW i_Persons rfl 2 (by decide) kf_Persons_19 0 rfl rfl d_Persons_isAhead_49 ?_
      refine lv_iload_n hx hb d_Persons_isAhead_52 rfl (lv_at hl 2 rfl) ?_
      refine R_lald X hW (t0 := 2) rfl 3 rfl (k := b) (by omega) (by decide) d_Persons_isAhead_53 ?_
      refine N_lcmp_ge hx hb (by omega) (by omega) (tgt := 62) d_Persons_isAhead_54 d_Persons_isAhead_55 (by decide) (fun c54 => ?_) (fun c54 => ?_)
      · refine lv_iconst (v := (nI 0)) hx hb d_Persons_isAhead_62 (by decide +kernel) ?_
        exact R_zret X Y hW rfl false (by decide +kernel) (by rw [ahd, decide_eq_false (by omega)]) d_Persons_isAhead_63
      · refine lv_iconst (v := (nI 1)) hx hb d_Persons_isAhead_58 (by decide +kernel) ?_
        refine lv_goto (tgt := 63) hx hb d_Persons_isAhead_59 (by decide) ?_
        exact R_zret X Y hW rfl true (by decide +kernel) (by rw [ahd, decide_eq_true (by simp [c39]; omega)]) d_Persons_isAhead_63
  · refine lv_aload_n hx hb d_Persons_isAhead_16 rfl (lv_at hl 0 rfl) ?_
    refine R_get X hW i_Persons rfl 1 (by decide) kf_Persons_15 0 rfl rfl d_Persons_isAhead_17 ?_
    refine lv_iload_n hx hb d_Persons_isAhead_20 rfl (lv_at hl 1 rfl) ?_
    refine R_lald X hW (t0 := 2) rfl 2 rfl (k := a) (by omega) (by decide) d_Persons_isAhead_21 ?_
    refine lv_aload_n hx hb d_Persons_isAhead_22 rfl (lv_at hl 0 rfl) ?_
    refine R_get X hW i_Persons rfl 1 (by decide) kf_Persons_15 0 rfl rfl d_Persons_isAhead_23 ?_
    refine lv_iload_n hx hb d_Persons_isAhead_26 rfl (lv_at hl 2 rfl) ?_
    refine R_lald X hW (t0 := 2) rfl 2 rfl (k := b) (by omega) (by decide) d_Persons_isAhead_27 ?_
    refine N_lcmp_le hx hb (by omega) (by omega) (tgt := 36) d_Persons_isAhead_28 d_Persons_isAhead_29 (by decide) (fun c28 => ?_) (fun c28 => ?_)
    · refine lv_iconst (v := (nI 0)) hx hb d_Persons_isAhead_36 (by decide +kernel) ?_
      exact R_zret X Y hW rfl false (by decide +kernel) (by rw [ahd, decide_eq_false (by omega)]) d_Persons_isAhead_37
    · refine lv_iconst (v := (nI 1)) hx hb d_Persons_isAhead_32 (by decide +kernel) ?_
      refine lv_goto (tgt := 37) hx hb d_Persons_isAhead_33 (by decide) ?_
      exact R_zret X Y hW rfl true (by decide +kernel) (by rw [ahd, decide_eq_true (by omega)]) d_Persons_isAhead_37

theorem kb_Persons_isAhead : Cond.code y_Persons_isAhead b_Persons_isAhead 4 (some .boolean) ∈ TBL := TBL_t (List.mem_append_right _ (List.mem_append_left _ (List.mem_of_getElem? (i := 180) rfl))) rfl
theorem kn_Persons : Cond.initialized "ContestRows$Persons" ∈ TBL := TBL_t (List.mem_append_left _ (List.mem_of_getElem? (i := 3) rfl)) rfl
theorem km_Persons_29 : Cond.methodLink "ContestRows$Persons" 29 y_Persons_isAhead ∈ TBL := TBL_t (List.mem_append_right _ (List.mem_append_left _ (List.mem_of_getElem? (i := 177) rfl))) rfl
theorem cw_Persons_29 : Cw "ContestRows$Persons" 29 y_Persons_isAhead b_Persons_isAhead 4 (some .boolean) 3 := ⟨kb_Persons_isAhead, kn_Persons, km_Persons_29, by decide +kernel⟩
theorem ki_Persons_isAhead : Cond.instanceMethod y_Persons_isAhead ∈ TBL := TBL_t (List.mem_append_right _ (List.mem_append_left _ (List.mem_of_getElem? (i := 179) rfl))) rfl
theorem ks_Persons_isAhead : Cond.selects "ContestRows$Persons" y_Persons_isAhead y_Persons_isAhead ∈ TBL := TBL_in (List.mem_append_left _ (List.mem_map.mpr ⟨(y_Persons_isAhead, 5), by decide +kernel, rfl⟩)) rfl
set_option maxHeartbeats 4000000 in
set_option maxRecDepth 100000 in
theorem c_Persons_rankOf (l : Launch) (G : va_G) (cI cZ cJ : ClassId) (h : Nat → Nat) (ne : Nat) (stt : Nat → Option Nat) (sco : Nat → Nat) (tim : Nat → Nat) (cnt : Nat → Nat) (x : Nat) (t : Bool) (hx0 : x < 20) (hne : ne ≤ 20) (hsc : ∀ i, i < 20 → sco i < 2 ^ 63) (htm : ∀ i, i < 20 → tim i < 2 ^ 63) : Ct l G (tyL cI cZ cJ) y_Persons_rankOf b_Persons_rankOf 5 (some .int) (rmL 1) [.ref (h 11), .int (nI x), .int (bI t)] (w_Per h cI cZ cJ ne stt sco tim cnt) (some (.int (nI (1 + cntF (fun k => ahd sco tim t k x) ne)))) (w_Per h cI cZ cJ ne stt sco tim cnt) := by
  refine M_start (by decide) (Nat.le_of_ble_eq_true rfl) ?_
  intro p e s m args below meth c A Q ls X Y hW hl
  have hx := X.1.1
  have hb := X.1.2.1
  have hl : lv_has ls 5 [(0, .ref (h 11)), (1, .int (nI x)), (2, .int (bI t))] := hl
  refine lv_iconst (v := (nI 1)) hx hb d_Persons_rankOf_0 (by decide +kernel) ?_
  refine lv_istore_n (lv' := [(3, .int (nI 1)), (0, .ref (h 11)), (1, .int (nI x)), (2, .int (bI t))]) hx hb d_Persons_rankOf_1 rfl hl (by decide) rfl (fun ls hl => ?_)
  refine lv_iconst (v := (nI 0)) hx hb d_Persons_rankOf_2 (by decide +kernel) ?_
  refine lv_istore (lv' := [(4, .int (nI 0)), (3, .int (nI 1)), (0, .ref (h 11)), (1, .int (nI x)), (2, .int (bI t))]) hx hb d_Persons_rankOf_3 hl (by decide) rfl (fun ls hl => ?_)
  have L5 : ∀ (n : Nat) (r : Nat) (i : Nat) (hi : i + n = ne) (hr : r = 1 + cntF (fun k => ahd sco tim t k x) i) (H : Heap) (locs : List Loc) (hW : Wr G A s.heap (w_Per h cI cZ cJ ne stt sco tim cnt) H locs) (ls : Array Slot) (hl : lv_has ls 5 [(0, .ref (h 11)), (1, .int (nI x)), (2, .int (bI t)), (3, .int (nI r)), (4, .int (nI i))]), W p l e (rmL 1) s m args below meth c H locs 0 0 Q (F0 m 5 ls []) := by
    intro n
    induction n with
    | zero =>
      intro r i hi hr H locs hW ls hl
      refine lv_iload hx hb d_Persons_rankOf_5 (lv_at hl 4 rfl) ?_
      refine lv_aload_n hx hb d_Persons_rankOf_7 rfl (lv_at hl 0 rfl) ?_
      refine R_get X hW i_Persons rfl 4 (by decide) kf_Persons_25 0 rfl rfl d_Persons_rankOf_8 ?_
      refine N_icmp_ge_NN hx hb (by omega) (by omega) (tgt := 34) d_Persons_rankOf_11 (by decide) (fun c11 => ?_) (fun c11 => ?_)
      · have e9 : ne = i := by omega
        subst e9
        refine lv_iload_n hx hb d_Persons_rankOf_34 rfl (lv_at hl 3 rfl) ?_
        exact R_iret X Y hW rfl (by rw [hr]) d_Persons_rankOf_35
      · exfalso; omega
    | succ n ih5 =>
      intro r i hi hr H locs hW ls hl
      refine lv_iload hx hb d_Persons_rankOf_5 (lv_at hl 4 rfl) ?_
      refine lv_aload_n hx hb d_Persons_rankOf_7 rfl (lv_at hl 0 rfl) ?_
      refine R_get X hW i_Persons rfl 4 (by decide) kf_Persons_25 0 rfl rfl d_Persons_rankOf_8 ?_
      refine N_icmp_ge_NN hx hb (by omega) (by omega) (tgt := 34) d_Persons_rankOf_11 (by decide) (fun c11 => ?_) (fun c11 => ?_)
      · exfalso; omega
      · refine lv_aload_n hx hb d_Persons_rankOf_14 rfl (lv_at hl 0 rfl) ?_
        refine lv_iload hx hb d_Persons_rankOf_15 (lv_at hl 4 rfl) ?_
        refine lv_iload_n hx hb d_Persons_rankOf_17 rfl (lv_at hl 1 rfl) ?_
        refine lv_iload_n hx hb d_Persons_rankOf_18 rfl (lv_at hl 2 rfl) ?_
        refine R_callV (q0 := 0) (c_Persons_isAhead l G cI cZ cJ h ne stt sco tim cnt i x t (by omega) hx0 hsc htm) X rfl hW cw_Persons_29 ki_Persons_isAhead ks_Persons_isAhead rfl rfl ⟨rfl, rfl⟩ ⟨by decide, by decide⟩ ⟨Nat.zero_le _, Nat.zero_le _⟩ [true, true, true, true, true] rfl (Nat.le_of_ble_eq_true rfl) rfl rfl hl.1 rfl rfl (Nat.le_of_ble_eq_true rfl) d_Persons_rankOf_19 rfl (fun H locs hW => ?_)
        have hW : Wr G A s.heap (w_Per h cI cZ cJ ne stt sco tim cnt) H locs := hW
        refine N_if_eq_B hx hb  (tgt := 28) d_Persons_rankOf_22 (by decide) (fun c22 => ?_) (fun c22 => ?_)
        · refine lv_iinc (v := (nI (i + 1))) (lv' := [(4, .int (nI (i + 1))), (0, .ref (h 11)), (1, .int (nI x)), (2, .int (bI t)), (3, .int (nI r))]) hx hb d_Persons_rankOf_28 hl (k := 4) rfl (N_inc i) (by decide) rfl (fun ls hl => ?_)
          refine lv_goto (tgt := 5) hx hb d_Persons_rankOf_31 (by decide) ?_
          exact ih5 r (i + 1) (by omega) (by rw [cntF, c22]; simp; omega) _ _ hW ls (lv_sub hl [1, 2, 3, 4, 0] rfl)
        · refine lv_iinc (v := (nI (r + 1))) (lv' := [(3, .int (nI (r + 1))), (0, .ref (h 11)), (1, .int (nI x)), (2, .int (bI t)), (4, .int (nI i))]) hx hb d_Persons_rankOf_25 hl (k := 3) rfl (N_inc r) (by decide) rfl (fun ls hl => ?_)
          refine lv_iinc (v := (nI (i + 1))) (lv' := [(4, .int (nI (i + 1))), (3, .int (nI (r + 1))), (0, .ref (h 11)), (1, .int (nI x)), (2, .int (bI t))]) hx hb d_Persons_rankOf_28 hl (k := 4) rfl (N_inc i) (by decide) rfl (fun ls hl => ?_)
          refine lv_goto (tgt := 5) hx hb d_Persons_rankOf_31 (by decide) ?_
          exact ih5 (r + 1) (i + 1) (by omega) (by rw [cntF, c22]; simp; omega) _ _ hW ls (lv_sub hl [2, 3, 4, 1, 0] rfl)
  exact L5 ne 1 0 (by omega) rfl _ _ hW ls (lv_sub hl [2, 3, 4, 1, 0] rfl)

theorem kb_Persons_rankOf : Cond.code y_Persons_rankOf b_Persons_rankOf 5 (some .int) ∈ TBL := TBL_t (List.mem_append_right _ (List.mem_append_left _ (List.mem_of_getElem? (i := 176) rfl))) rfl
theorem km_Persons_37 : Cond.methodLink "ContestRows$Persons" 37 y_Persons_rankOf ∈ TBL := TBL_t (List.mem_append_right _ (List.mem_append_left _ (List.mem_of_getElem? (i := 197) rfl))) rfl
theorem cw_Persons_37 : Cw "ContestRows$Persons" 37 y_Persons_rankOf b_Persons_rankOf 5 (some .int) 2 := ⟨kb_Persons_rankOf, kn_Persons, km_Persons_37, by decide +kernel⟩
theorem ki_Persons_rankOf : Cond.instanceMethod y_Persons_rankOf ∈ TBL := TBL_t (List.mem_append_right _ (List.mem_append_left _ (List.mem_of_getElem? (i := 174) rfl))) rfl
theorem ks_Persons_rankOf : Cond.selects "ContestRows$Persons" y_Persons_rankOf y_Persons_rankOf ∈ TBL := TBL_t (List.mem_append_right _ (List.mem_append_left _ (List.mem_of_getElem? (i := 175) rfl))) rfl
theorem kb_Persons_alike : Cond.code y_Persons_alike b_Persons_alike 4 (some .boolean) ∈ TBL := TBL_t (List.mem_append_right _ (List.mem_append_left _ (List.mem_of_getElem? (i := 201) rfl))) rfl
theorem km_Persons_40 : Cond.methodLink "ContestRows$Persons" 40 y_Persons_alike ∈ TBL := TBL_t (List.mem_append_right _ (List.mem_append_left _ (List.mem_of_getElem? (i := 198) rfl))) rfl
theorem cw_Persons_40 : Cw "ContestRows$Persons" 40 y_Persons_alike b_Persons_alike 4 (some .boolean) 3 := ⟨kb_Persons_alike, kn_Persons, km_Persons_40, by decide +kernel⟩
theorem ki_Persons_alike : Cond.instanceMethod y_Persons_alike ∈ TBL := TBL_t (List.mem_append_right _ (List.mem_append_left _ (List.mem_of_getElem? (i := 199) rfl))) rfl
theorem ks_Persons_alike : Cond.selects "ContestRows$Persons" y_Persons_alike y_Persons_alike ∈ TBL := TBL_t (List.mem_append_right _ (List.mem_append_left _ (List.mem_of_getElem? (i := 200) rfl))) rfl
set_option maxHeartbeats 4000000 in
set_option maxRecDepth 100000 in
theorem c_Persons_howManyBefore (l : Launch) (G : va_G) (cI cZ cJ : ClassId) (h : Nat → Nat) (ne : Nat) (stt : Nat → Option Nat) (sco : Nat → Nat) (tim : Nat → Nat) (cnt : Nat → Nat) (x : Nat) (t : Bool) (hx0 : x < 20) (hne : ne ≤ 20) (hsc : ∀ i, i < 20 → sco i < 2 ^ 63) (htm : ∀ i, i < 20 → tim i < 2 ^ 63) : Ct l G (tyL cI cZ cJ) y_Persons_howManyBefore b_Persons_howManyBefore 5 (some .int) (rmL 2) [.ref (h 11), .int (nI x), .int (bI t)] (w_Per h cI cZ cJ ne stt sco tim cnt) (some (.int (nI (hmb sco tim ne t x)))) (w_Per h cI cZ cJ ne stt sco tim cnt) := by
  refine M_start (by decide) (Nat.le_of_ble_eq_true rfl) ?_
  intro p e s m args below meth c A Q ls X Y hW hl
  have hx := X.1.1
  have hb := X.1.2.1
  have hl : lv_has ls 5 [(0, .ref (h 11)), (1, .int (nI x)), (2, .int (bI t))] := hl
  refine lv_aload_n hx hb d_Persons_howManyBefore_0 rfl (lv_at hl 0 rfl) ?_
  refine lv_iload_n hx hb d_Persons_howManyBefore_1 rfl (lv_at hl 1 rfl) ?_
  refine lv_iload_n hx hb d_Persons_howManyBefore_2 rfl (lv_at hl 2 rfl) ?_
  refine R_callV (q0 := 0) (c_Persons_rankOf l G cI cZ cJ h ne stt sco tim cnt x t hx0 hne hsc htm) X rfl hW cw_Persons_37 ki_Persons_rankOf ks_Persons_rankOf rfl rfl ⟨rfl, rfl⟩ ⟨by decide, by decide⟩ ⟨Nat.zero_le _, Nat.zero_le _⟩ [true, true, true, true, true] rfl (Nat.le_of_ble_eq_true rfl) rfl rfl hl.1 rfl rfl (Nat.le_of_ble_eq_true rfl) d_Persons_howManyBefore_3 rfl (fun H locs hW => ?_)
  have hW : Wr G A s.heap (w_Per h cI cZ cJ ne stt sco tim cnt) H locs := hW
  refine lv_iconst (v := (nI 1)) hx hb d_Persons_howManyBefore_6 (by decide +kernel) ?_
  refine N_isub (r := (1 + cntF (fun k => ahd sco tim t k x) ne) - 1) hx hb (by omega) (by omega) d_Persons_howManyBefore_7 ?_
  refine lv_istore_n (lv' := [(3, .int (nI ((1 + cntF (fun k => ahd sco tim t k x) ne) - 1))), (0, .ref (h 11)), (1, .int (nI x)), (2, .int (bI t))]) hx hb d_Persons_howManyBefore_8 rfl hl (by decide) rfl (fun ls hl => ?_)
  refine lv_iconst (v := (nI 0)) hx hb d_Persons_howManyBefore_9 (by decide +kernel) ?_
  refine lv_istore (lv' := [(4, .int (nI 0)), (3, .int (nI ((1 + cntF (fun k => ahd sco tim t k x) ne) - 1))), (0, .ref (h 11)), (1, .int (nI x)), (2, .int (bI t))]) hx hb d_Persons_howManyBefore_10 hl (by decide) rfl (fun ls hl => ?_)
  have L12 : ∀ (n : Nat) (r : Nat) (i : Nat) (hi : i + n = x) (hr : r = cntF (fun k => ahd sco tim t k x) ne + cntF (fun k => alk sco tim t k x) i) (H : Heap) (locs : List Loc) (hW : Wr G A s.heap (w_Per h cI cZ cJ ne stt sco tim cnt) H locs) (ls : Array Slot) (hl : lv_has ls 5 [(0, .ref (h 11)), (1, .int (nI x)), (2, .int (bI t)), (3, .int (nI r)), (4, .int (nI i))]), W p l e (rmL 2) s m args below meth c H locs 0 0 Q (F0 m 12 ls []) := by
    intro n
    induction n with
    | zero =>
      intro r i hi hr H locs hW ls hl
      refine lv_iload hx hb d_Persons_howManyBefore_12 (lv_at hl 4 rfl) ?_
      refine lv_iload_n hx hb d_Persons_howManyBefore_14 rfl (lv_at hl 1 rfl) ?_
      refine N_icmp_ge_NN hx hb (by omega) (by omega) (tgt := 38) d_Persons_howManyBefore_15 (by decide) (fun c15 => ?_) (fun c15 => ?_)
      · have e9 : x = i := by omega
        subst e9
        refine lv_iload_n hx hb d_Persons_howManyBefore_38 rfl (lv_at hl 3 rfl) ?_
        exact R_iret X Y hW rfl (by rw [hr]; rfl) d_Persons_howManyBefore_39
      · exfalso; omega
    | succ n ih12 =>
      intro r i hi hr H locs hW ls hl
      refine lv_iload hx hb d_Persons_howManyBefore_12 (lv_at hl 4 rfl) ?_
      refine lv_iload_n hx hb d_Persons_howManyBefore_14 rfl (lv_at hl 1 rfl) ?_
      refine N_icmp_ge_NN hx hb (by omega) (by omega) (tgt := 38) d_Persons_howManyBefore_15 (by decide) (fun c15 => ?_) (fun c15 => ?_)
      · exfalso; omega
      · refine lv_aload_n hx hb d_Persons_howManyBefore_18 rfl (lv_at hl 0 rfl) ?_
        refine lv_iload hx hb d_Persons_howManyBefore_19 (lv_at hl 4 rfl) ?_
        refine lv_iload_n hx hb d_Persons_howManyBefore_21 rfl (lv_at hl 1 rfl) ?_
        refine lv_iload_n hx hb d_Persons_howManyBefore_22 rfl (lv_at hl 2 rfl) ?_
        refine R_callV (q0 := 0) (c_Persons_alike l G cI cZ cJ h ne stt sco tim cnt i x t (by omega) hx0 hsc htm) X rfl hW cw_Persons_40 ki_Persons_alike ks_Persons_alike rfl rfl ⟨rfl, rfl⟩ ⟨by decide, by decide⟩ ⟨Nat.zero_le _, Nat.zero_le _⟩ [true, true, true, true, true] rfl (Nat.le_of_ble_eq_true rfl) rfl rfl hl.1 rfl rfl (Nat.le_of_ble_eq_true rfl) d_Persons_howManyBefore_23 rfl (fun H locs hW => ?_)
        have hW : Wr G A s.heap (w_Per h cI cZ cJ ne stt sco tim cnt) H locs := hW
        refine N_if_eq_B hx hb  (tgt := 32) d_Persons_howManyBefore_26 (by decide) (fun c26 => ?_) (fun c26 => ?_)
        · refine lv_iinc (v := (nI (i + 1))) (lv' := [(4, .int (nI (i + 1))), (0, .ref (h 11)), (1, .int (nI x)), (2, .int (bI t)), (3, .int (nI r))]) hx hb d_Persons_howManyBefore_32 hl (k := 4) rfl (N_inc i) (by decide) rfl (fun ls hl => ?_)
          refine lv_goto (tgt := 12) hx hb d_Persons_howManyBefore_35 (by decide) ?_
          exact ih12 r (i + 1) (by omega) (by rw [cntF, c26]; simp; omega) _ _ hW ls (lv_sub hl [1, 2, 3, 4, 0] rfl)
        · refine lv_iinc (v := (nI (r + 1))) (lv' := [(3, .int (nI (r + 1))), (0, .ref (h 11)), (1, .int (nI x)), (2, .int (bI t)), (4, .int (nI i))]) hx hb d_Persons_howManyBefore_29 hl (k := 3) rfl (N_inc r) (by decide) rfl (fun ls hl => ?_)
          refine lv_iinc (v := (nI (i + 1))) (lv' := [(4, .int (nI (i + 1))), (3, .int (nI (r + 1))), (0, .ref (h 11)), (1, .int (nI x)), (2, .int (bI t))]) hx hb d_Persons_howManyBefore_32 hl (k := 4) rfl (N_inc i) (by decide) rfl (fun ls hl => ?_)
          refine lv_goto (tgt := 12) hx hb d_Persons_howManyBefore_35 (by decide) ?_
          exact ih12 (r + 1) (i + 1) (by omega) (by rw [cntF, c26]; simp; omega) _ _ hW ls (lv_sub hl [2, 3, 4, 1, 0] rfl)
  exact L12 x ((1 + cntF (fun k => ahd sco tim t k x) ne) - 1) 0 (by omega) (by simp [cntF]) _ _ hW ls (lv_sub hl [2, 3, 4, 1, 0] rfl)

theorem kb_Persons_howManyBefore : Cond.code y_Persons_howManyBefore b_Persons_howManyBefore 5 (some .int) ∈ TBL := TBL_t (List.mem_append_right _ (List.mem_append_left _ (List.mem_of_getElem? (i := 196) rfl))) rfl
theorem km_Persons_33 : Cond.methodLink "ContestRows$Persons" 33 y_Persons_howManyBefore ∈ TBL := TBL_t (List.mem_append_right _ (List.mem_append_left _ (List.mem_of_getElem? (i := 193) rfl))) rfl
theorem cw_Persons_33 : Cw "ContestRows$Persons" 33 y_Persons_howManyBefore b_Persons_howManyBefore 5 (some .int) 2 := ⟨kb_Persons_howManyBefore, kn_Persons, km_Persons_33, by decide +kernel⟩
theorem ki_Persons_howManyBefore : Cond.instanceMethod y_Persons_howManyBefore ∈ TBL := TBL_t (List.mem_append_right _ (List.mem_append_left _ (List.mem_of_getElem? (i := 195) rfl))) rfl
theorem ks_Persons_howManyBefore : Cond.selects "ContestRows$Persons" y_Persons_howManyBefore y_Persons_howManyBefore ∈ TBL := TBL_in (List.mem_append_left _ (List.mem_map.mpr ⟨(y_Persons_howManyBefore, 5), by decide +kernel, rfl⟩)) rfl
set_option maxHeartbeats 4000000 in
set_option maxRecDepth 100000 in
theorem c_Persons_inPlace (l : Launch) (G : va_G) (cI cZ cJ : ClassId) (h : Nat → Nat) (ne : Nat) (stt : Nat → Option Nat) (sco : Nat → Nat) (tim : Nat → Nat) (cnt : Nat → Nat) (k : Nat) (t : Bool) (hk : k < 2 ^ 31) (hne : ne ≤ 20) (hsc : ∀ i, i < 20 → sco i < 2 ^ 63) (htm : ∀ i, i < 20 → tim i < 2 ^ 63) : Ct l G (tyL cI cZ cJ) y_Persons_inPlace b_Persons_inPlace 4 (some .int) (rmL 3) [.ref (h 11), .int (nI k), .int (bI t)] (w_Per h cI cZ cJ ne stt sco tim cnt) (some (.int (oI (fstG (fun q => decide (hmb sco tim ne t q = k)) ne 0)))) (w_Per h cI cZ cJ ne stt sco tim cnt) := by
  refine M_start (by decide) (Nat.le_of_ble_eq_true rfl) ?_
  intro p e s m args below meth c A Q ls X Y hW hl
  have hx := X.1.1
  have hb := X.1.2.1
  have hl : lv_has ls 4 [(0, .ref (h 11)), (1, .int (nI k)), (2, .int (bI t))] := hl
  refine lv_iconst (v := (nI 0)) hx hb d_Persons_inPlace_0 (by decide +kernel) ?_
  refine lv_istore_n (lv' := [(3, .int (nI 0)), (0, .ref (h 11)), (1, .int (nI k)), (2, .int (bI t))]) hx hb d_Persons_inPlace_1 rfl hl (by decide) rfl (fun ls hl => ?_)
  have L2 : ∀ (n : Nat) (i : Nat) (hi : i + n = ne) (he : fstG (fun q => decide (hmb sco tim ne t q = k)) n i = fstG (fun q => decide (hmb sco tim ne t q = k)) ne 0) (H : Heap) (locs : List Loc) (hW : Wr G A s.heap (w_Per h cI cZ cJ ne stt sco tim cnt) H locs) (ls : Array Slot) (hl : lv_has ls 4 [(0, .ref (h 11)), (1, .int (nI k)), (2, .int (bI t)), (3, .int (nI i))]), W p l e (rmL 3) s m args below meth c H locs 0 0 Q (F0 m 2 ls []) := by
    intro n
    induction n with
    | zero =>
      intro i hi he H locs hW ls hl
      refine lv_iload_n hx hb d_Persons_inPlace_2 rfl (lv_at hl 3 rfl) ?_
      refine lv_aload_n hx hb d_Persons_inPlace_3 rfl (lv_at hl 0 rfl) ?_
      refine R_get X hW i_Persons rfl 4 (by decide) kf_Persons_25 0 rfl rfl d_Persons_inPlace_4 ?_
      refine N_icmp_ge_NN hx hb (by omega) (by omega) (tgt := 28) d_Persons_inPlace_7 (by decide) (fun c7 => ?_) (fun c7 => ?_)
      · refine lv_iconst (v := (-1)) hx hb d_Persons_inPlace_28 (by decide +kernel) ?_
        exact R_iret X Y hW rfl (by rw [← he]; rfl) d_Persons_inPlace_29
      · exfalso; omega
    | succ n ih2 =>
      intro i hi he H locs hW ls hl
      refine lv_iload_n hx hb d_Persons_inPlace_2 rfl (lv_at hl 3 rfl) ?_
      refine lv_aload_n hx hb d_Persons_inPlace_3 rfl (lv_at hl 0 rfl) ?_
      refine R_get X hW i_Persons rfl 4 (by decide) kf_Persons_25 0 rfl rfl d_Persons_inPlace_4 ?_
      refine N_icmp_ge_NN hx hb (by omega) (by omega) (tgt := 28) d_Persons_inPlace_7 (by decide) (fun c7 => ?_) (fun c7 => ?_)
      · exfalso; omega
      · refine lv_aload_n hx hb d_Persons_inPlace_10 rfl (lv_at hl 0 rfl) ?_
        refine lv_iload_n hx hb d_Persons_inPlace_11 rfl (lv_at hl 3 rfl) ?_
        refine lv_iload_n hx hb d_Persons_inPlace_12 rfl (lv_at hl 2 rfl) ?_
        refine R_callV (q0 := 0) (c_Persons_howManyBefore l G cI cZ cJ h ne stt sco tim cnt i t (by omega) hne hsc htm) X rfl hW cw_Persons_33 ki_Persons_howManyBefore ks_Persons_howManyBefore rfl rfl ⟨rfl, rfl⟩ ⟨by decide, by decide⟩ ⟨Nat.zero_le _, Nat.zero_le _⟩ [true, true, true, true, true] rfl (Nat.le_of_ble_eq_true rfl) rfl rfl hl.1 rfl rfl (Nat.le_of_ble_eq_true rfl) d_Persons_inPlace_13 rfl (fun H locs hW => ?_)
        have hW : Wr G A s.heap (w_Per h cI cZ cJ ne stt sco tim cnt) H locs := hW
        have q9 := hmb_lt sco tim ne t i
        refine lv_iload_n hx hb d_Persons_inPlace_16 rfl (lv_at hl 1 rfl) ?_
        refine N_icmp_ne_NN hx hb (by omega) (by omega) (tgt := 22) d_Persons_inPlace_17 (by decide) (fun c17 => ?_) (fun c17 => ?_)
        · refine lv_iinc (v := (nI (i + 1))) (lv' := [(3, .int (nI (i + 1))), (0, .ref (h 11)), (1, .int (nI k)), (2, .int (bI t))]) hx hb d_Persons_inPlace_22 hl (k := 3) rfl (N_inc i) (by decide) rfl (fun ls hl => ?_)
          refine lv_goto (tgt := 2) hx hb d_Persons_inPlace_25 (by decide) ?_
          exact ih2 (i + 1) (by omega) (by rw [← he, fstG, if_neg (by simp [c17])]) _ _ hW ls (lv_sub hl [1, 2, 3, 0] rfl)
        · refine lv_iload_n hx hb d_Persons_inPlace_20 rfl (lv_at hl 3 rfl) ?_
          exact R_iret X Y hW rfl (by rw [← he, fstG, if_pos (by simp [c17])]; rfl) d_Persons_inPlace_21
  exact L2 ne 0 (by omega) rfl _ _ hW ls (lv_sub hl [1, 2, 3, 0] rfl)
end
section
theorem kf_Puzzles_28 : Cond.fieldLink "ContestRows$Puzzles" 28 "ContestRows$Puzzles" "many" "I" ∈ TBL := TBL_t (List.mem_append_left _ (List.mem_of_getElem? (i := 31) rfl)) rfl
set_option maxHeartbeats 4000000 in
set_option maxRecDepth 100000 in
theorem c_Puzzles_has (l : Launch) (G : va_G) (cI cZ cJ : ClassId) (h : Nat → Nat) (np : Nat) (tot : Nat) (gr : Nat → Nat) (fa : Nat → Nat) (re : Nat → Bool) (ss : Nat → Nat) (sc : Nat → Nat) (x : Int32) (hn : np ≤ 300) : Ct l G (tyL cI cZ cJ) y_Puzzles_has b_Puzzles_has 2 (some .boolean) (rmL 0) [.ref (h 5), .int x] (w_Puz h cI cZ cJ np tot gr fa re ss sc) (some (.int (bI (inB x np)))) (w_Puz h cI cZ cJ np tot gr fa re ss sc) := by
  refine M_start (by decide) (Nat.le_of_ble_eq_true rfl) ?_
  intro p e s m args below meth c A Q ls X Y hW hl
  have hx := X.1.1
  have hb := X.1.2.1
  have hl : lv_has ls 2 [(0, .ref (h 5)), (1, .int x)] := hl
  refine lv_iload_n hx hb d_Puzzles_has_0 rfl (lv_at hl 1 rfl) ?_
  refine N_if_lt_R hx hb  (tgt := 16) d_Puzzles_has_1 (by decide) (fun c1 => ?_) (fun c1 => ?_)
  · refine lv_iconst (v := (nI 0)) hx hb d_Puzzles_has_16 (by decide +kernel) ?_
    exact R_zret X Y hW rfl false (by decide +kernel) (by rw [inB_f (by omega)]) d_Puzzles_has_17
  · refine lv_iload_n hx hb d_Puzzles_has_4 rfl (lv_at hl 1 rfl) ?_
    refine lv_aload_n hx hb d_Puzzles_has_5 rfl (lv_at hl 0 rfl) ?_
    refine R_get X hW i_Puzzles rfl 1 (by decide) kf_Puzzles_28 0 rfl rfl d_Puzzles_has_6 ?_
    refine N_icmp_ge_RN hx hb (by omega) (tgt := 16) d_Puzzles_has_9 (by decide) (fun c9 => ?_) (fun c9 => ?_)
    · refine lv_iconst (v := (nI 0)) hx hb d_Puzzles_has_16 (by decide +kernel) ?_
      exact R_zret X Y hW rfl false (by decide +kernel) (by rw [inB_f (by omega)]) d_Puzzles_has_17
    · refine lv_iconst (v := (nI 1)) hx hb d_Puzzles_has_12 (by decide +kernel) ?_
      refine lv_goto (tgt := 17) hx hb d_Puzzles_has_13 (by decide) ?_
      exact R_zret X Y hW rfl true (by decide +kernel) (by rw [inB_t (by omega)]) d_Puzzles_has_17

theorem kf_Puzzles_15 : Cond.fieldLink "ContestRows$Puzzles" 15 "ContestRows$Puzzles" "falling" "[I" ∈ TBL := TBL_t (List.mem_append_left _ (List.mem_of_getElem? (i := 32) rfl)) rfl
theorem kf_Puzzles_11 : Cond.fieldLink "ContestRows$Puzzles" 11 "ContestRows$Puzzles" "grades" "[I" ∈ TBL := TBL_t (List.mem_append_left _ (List.mem_of_getElem? (i := 29) rfl)) rfl
set_option maxHeartbeats 4000000 in
set_option maxRecDepth 100000 in
theorem c_Puzzles_putFalling (l : Launch) (G : va_G) (cI cZ cJ : ClassId) (h : Nat → Nat) (np : Nat) (tot : Nat) (gr : Nat → Nat) (fa : Nat → Nat) (re : Nat → Bool) (ss : Nat → Nat) (sc : Nat → Nat) (v : Nat) (hv : v < 20) (hfa : ∀ i, i < v → fa i < 20) (hgr : ∀ i, i < 20 → gr i < 2 ^ 31) : Ct l G (tyL cI cZ cJ) y_Puzzles_putFalling b_Puzzles_putFalling 3 none (rmL 0) [.ref (h 5), .int (nI v)] (w_Puz h cI cZ cJ np tot gr fa re ss sc) none (w_Puz h cI cZ cJ np tot gr (insG (ltD gr) v v fa) re ss sc) := by
  refine M_start (by decide) (Nat.le_of_ble_eq_true rfl) ?_
  intro p e s m args below meth c A Q ls X Y hW hl
  have hx := X.1.1
  have hb := X.1.2.1
  have hl : lv_has ls 3 [(0, .ref (h 5)), (1, .int (nI v))] := hl
  refine lv_iload_n hx hb d_Puzzles_putFalling_0 rfl (lv_at hl 1 rfl) ?_
  refine lv_istore_n (lv' := [(2, .int (nI v)), (0, .ref (h 5)), (1, .int (nI v))]) hx hb d_Puzzles_putFalling_1 rfl hl (by decide) rfl (fun ls hl => ?_)
  have L2 : ∀ (k : Nat) (f : Nat → Nat) (hk : k ≤ v) (hf : ∀ i, i < k → f i < 20) (he : insG (ltD gr) v k f = insG (ltD gr) v v fa) (H : Heap) (locs : List Loc) (hW : Wr G A s.heap (w_Puz h cI cZ cJ np tot gr f re ss sc) H locs) (ls : Array Slot) (hl : lv_has ls 3 [(0, .ref (h 5)), (1, .int (nI v)), (2, .int (nI k))]), W p l e (rmL 0) s m args below meth c H locs 0 0 Q (F0 m 2 ls []) := by
    intro k
    induction k with
    | zero =>
      intro f hk hf he H locs hW ls hl
      refine lv_iload_n hx hb d_Puzzles_putFalling_2 rfl (lv_at hl 2 rfl) ?_
      refine N_if_le_N hx hb (by omega) (tgt := 48) d_Puzzles_putFalling_3 (by decide) (fun c3 => ?_) (fun c3 => ?_)
      · refine lv_aload_n hx hb d_Puzzles_putFalling_48 rfl (lv_at hl 0 rfl) ?_
        refine R_get X hW i_Puzzles rfl 2 (by decide) kf_Puzzles_15 0 rfl rfl d_Puzzles_putFalling_49 ?_
        refine lv_iload_n hx hb d_Puzzles_putFalling_52 rfl (lv_at hl 2 rfl) ?_
        refine lv_iload_n hx hb d_Puzzles_putFalling_53 rfl (lv_at hl 1 rfl) ?_
        refine R_iast X hW (t0 := 0) rfl 2 rfl (k := 0) (by omega) (by decide) v rfl d_Puzzles_putFalling_54 (fun H locs hW => ?_)
        have hW : Wr G A s.heap (w_Puz h cI cZ cJ np tot gr (va_up f 0 v) re ss sc) H locs := hW
        exact R_vret X Y hW (by rw [← he]; rfl) rfl d_Puzzles_putFalling_55
      · exfalso; omega
    | succ k ih2 =>
      intro f hk hf he H locs hW ls hl
      refine lv_iload_n hx hb d_Puzzles_putFalling_2 rfl (lv_at hl 2 rfl) ?_
      refine N_if_le_N hx hb (by omega) (tgt := 48) d_Puzzles_putFalling_3 (by decide) (fun c3 => ?_) (fun c3 => ?_)
      · exfalso; omega
      · have q1 := hf k (by omega)
        have q2 := hgr (f k) q1
        have q3 := hgr v hv
        refine lv_aload_n hx hb d_Puzzles_putFalling_6 rfl (lv_at hl 0 rfl) ?_
        refine R_get X hW i_Puzzles rfl 0 (by decide) kf_Puzzles_11 0 rfl rfl d_Puzzles_putFalling_7 ?_
        refine lv_aload_n hx hb d_Puzzles_putFalling_10 rfl (lv_at hl 0 rfl) ?_
        refine R_get X hW i_Puzzles rfl 2 (by decide) kf_Puzzles_15 0 rfl rfl d_Puzzles_putFalling_11 ?_
        refine lv_iload_n hx hb d_Puzzles_putFalling_14 rfl (lv_at hl 2 rfl) ?_
        refine lv_iconst (v := (nI 1)) hx hb d_Puzzles_putFalling_15 (by decide +kernel) ?_
        refine N_isub (r := k) hx hb (by omega) (by omega) d_Puzzles_putFalling_16 ?_
        refine R_iald X hW (t0 := 0) rfl 2 rfl (k := k) (by omega) (by decide) d_Puzzles_putFalling_17 ?_
        refine R_iald X hW (t0 := 0) rfl 1 rfl (k := (f k)) (by omega) (by decide) d_Puzzles_putFalling_18 ?_
        refine lv_aload_n hx hb d_Puzzles_putFalling_19 rfl (lv_at hl 0 rfl) ?_
        refine R_get X hW i_Puzzles rfl 0 (by decide) kf_Puzzles_11 0 rfl rfl d_Puzzles_putFalling_20 ?_
        refine lv_iload_n hx hb d_Puzzles_putFalling_23 rfl (lv_at hl 1 rfl) ?_
        refine R_iald X hW (t0 := 0) rfl 1 rfl (k := v) (by omega) (by decide) d_Puzzles_putFalling_24 ?_
        refine N_icmp_ge_NN hx hb (by omega) (by omega) (tgt := 48) d_Puzzles_putFalling_25 (by decide) (fun c25 => ?_) (fun c25 => ?_)
        · refine lv_aload_n hx hb d_Puzzles_putFalling_48 rfl (lv_at hl 0 rfl) ?_
          refine R_get X hW i_Puzzles rfl 2 (by decide) kf_Puzzles_15 0 rfl rfl d_Puzzles_putFalling_49 ?_
          refine lv_iload_n hx hb d_Puzzles_putFalling_52 rfl (lv_at hl 2 rfl) ?_
          refine lv_iload_n hx hb d_Puzzles_putFalling_53 rfl (lv_at hl 1 rfl) ?_
          refine R_iast X hW (t0 := 0) rfl 2 rfl (k := (k + 1)) (by omega) (by decide) v rfl d_Puzzles_putFalling_54 (fun H locs hW => ?_)
          have hW : Wr G A s.heap (w_Puz h cI cZ cJ np tot gr (va_up f (k + 1) v) re ss sc) H locs := hW
          exact R_vret X Y hW (by rw [← he, insG, if_neg (by simp [ltD]; omega)]) rfl d_Puzzles_putFalling_55
        · refine lv_aload_n hx hb d_Puzzles_putFalling_28 rfl (lv_at hl 0 rfl) ?_
          refine R_get X hW i_Puzzles rfl 2 (by decide) kf_Puzzles_15 0 rfl rfl d_Puzzles_putFalling_29 ?_
          refine lv_iload_n hx hb d_Puzzles_putFalling_32 rfl (lv_at hl 2 rfl) ?_
          refine lv_aload_n hx hb d_Puzzles_putFalling_33 rfl (lv_at hl 0 rfl) ?_
          refine R_get X hW i_Puzzles rfl 2 (by decide) kf_Puzzles_15 0 rfl rfl d_Puzzles_putFalling_34 ?_
          refine lv_iload_n hx hb d_Puzzles_putFalling_37 rfl (lv_at hl 2 rfl) ?_
          refine lv_iconst (v := (nI 1)) hx hb d_Puzzles_putFalling_38 (by decide +kernel) ?_
          refine N_isub (r := k) hx hb (by omega) (by omega) d_Puzzles_putFalling_39 ?_
          refine R_iald X hW (t0 := 0) rfl 2 rfl (k := k) (by omega) (by decide) d_Puzzles_putFalling_40 ?_
          refine R_iast X hW (t0 := 0) rfl 2 rfl (k := (k + 1)) (by omega) (by decide) (f k) rfl d_Puzzles_putFalling_41 (fun H locs hW => ?_)
          have hW : Wr G A s.heap (w_Puz h cI cZ cJ np tot gr (va_up f (k + 1) (f k)) re ss sc) H locs := hW
          refine lv_iinc (v := (nI k)) (lv' := [(2, .int (nI k)), (0, .ref (h 5)), (1, .int (nI v))]) hx hb d_Puzzles_putFalling_42 hl (k := 2) rfl (N_dec (r := k) (by omega) (by omega)) (by decide) rfl (fun ls hl => ?_)
          refine lv_goto (tgt := 2) hx hb d_Puzzles_putFalling_45 (by decide) ?_
          exact ih2 (va_up f (k + 1) (f k)) (by omega) (fun i hi => by rw [va_up_ne _ _ (by omega)]; exact hf i (by omega)) (by rw [← he, insG, if_pos (show ltD gr (f k) v = true from decide_eq_true c25)]) _ _ hW ls (lv_sub hl [1, 2, 0] rfl)
  exact L2 v fa (Nat.le_refl v) hfa rfl _ _ hW ls (lv_sub hl [1, 2, 0] rfl)

theorem kf_Puzzles_18 : Cond.fieldLink "ContestRows$Puzzles" 18 "ContestRows$Puzzles" "reached" "[Z" ∈ TBL := TBL_t (List.mem_append_left _ (List.mem_of_getElem? (i := 33) rfl)) rfl
set_option maxHeartbeats 4000000 in
set_option maxRecDepth 100000 in
theorem c_Puzzles_reachWith (l : Launch) (G : va_G) (cI cZ cJ : ClassId) (h : Nat → Nat) (np : Nat) (tot : Nat) (gr : Nat → Nat) (fa : Nat → Nat) (re : Nat → Bool) (ss : Nat → Nat) (sc : Nat → Nat) (g : Nat) (hg : 1 ≤ g ∧ g ≤ 100) : Ct l G (tyL cI cZ cJ) y_Puzzles_reachWith b_Puzzles_reachWith 3 none (rmL 0) [.ref (h 5), .int (nI g)] (w_Puz h cI cZ cJ np tot gr fa re ss sc) none (w_Puz h cI cZ cJ np tot gr fa (rchG g 1000 (va_up re 0 true)) ss sc) := by
  refine M_start (by decide) (Nat.le_of_ble_eq_true rfl) ?_
  intro p e s m args below meth c A Q ls X Y hW hl
  have hx := X.1.1
  have hb := X.1.2.1
  have hl : lv_has ls 3 [(0, .ref (h 5)), (1, .int (nI g))] := hl
  refine lv_aload_n hx hb d_Puzzles_reachWith_0 rfl (lv_at hl 0 rfl) ?_
  refine R_get X hW i_Puzzles rfl 3 (by decide) kf_Puzzles_18 0 rfl rfl d_Puzzles_reachWith_1 ?_
  refine lv_iconst (v := (nI 0)) hx hb d_Puzzles_reachWith_4 (by decide +kernel) ?_
  refine lv_iconst (v := (nI 1)) hx hb d_Puzzles_reachWith_5 (by decide +kernel) ?_
  refine R_zast X hW (t0 := 1) rfl 3 rfl (k := 0) (by omega) (by decide) true (by decide +kernel) d_Puzzles_reachWith_6 (fun H locs hW => ?_)
  have hW : Wr G A s.heap (w_Puz h cI cZ cJ np tot gr fa (va_up re 0 true) ss sc) H locs := hW
  refine lv_sipush (v := (nI 1000)) hx hb d_Puzzles_reachWith_7 (by decide +kernel) ?_
  refine lv_istore_n (lv' := [(2, .int (nI 1000)), (0, .ref (h 5)), (1, .int (nI g))]) hx hb d_Puzzles_reachWith_10 rfl hl (by decide) rfl (fun ls hl => ?_)
  have L11 : ∀ (k : Nat) (f : Nat → Bool) (hk : k ≤ 1000) (he : rchG g k f = rchG g 1000 (va_up re 0 true)) (H : Heap) (locs : List Loc) (hW : Wr G A s.heap (w_Puz h cI cZ cJ np tot gr fa f ss sc) H locs) (ls : Array Slot) (hl : lv_has ls 3 [(0, .ref (h 5)), (1, .int (nI g)), (2, .int (nI k))]), W p l e (rmL 0) s m args below meth c H locs 0 0 Q (F0 m 11 ls []) := by
    intro k
    induction k with
    | zero =>
      intro f hk he H locs hW ls hl
      refine lv_iload_n hx hb d_Puzzles_reachWith_11 rfl (lv_at hl 2 rfl) ?_
      refine lv_iload_n hx hb d_Puzzles_reachWith_12 rfl (lv_at hl 1 rfl) ?_
      refine N_icmp_lt_NN hx hb (by decide) (by omega) (tgt := 40) d_Puzzles_reachWith_13 (by decide) (fun c13 => ?_) (fun c13 => ?_)
      · exact R_vret X Y hW (by rw [← he]; rfl) rfl d_Puzzles_reachWith_40
      · exfalso; omega
    | succ k ih11 =>
      intro f hk he H locs hW ls hl
      refine lv_iload_n hx hb d_Puzzles_reachWith_11 rfl (lv_at hl 2 rfl) ?_
      refine lv_iload_n hx hb d_Puzzles_reachWith_12 rfl (lv_at hl 1 rfl) ?_
      refine N_icmp_lt_NN hx hb (by omega) (by omega) (tgt := 40) d_Puzzles_reachWith_13 (by decide) (fun c13 => ?_) (fun c13 => ?_)
      · exact R_vret X Y hW (by rw [← he, rchG, if_pos c13]) rfl d_Puzzles_reachWith_40
      · refine lv_aload_n hx hb d_Puzzles_reachWith_16 rfl (lv_at hl 0 rfl) ?_
        refine R_get X hW i_Puzzles rfl 3 (by decide) kf_Puzzles_18 0 rfl rfl d_Puzzles_reachWith_17 ?_
        refine lv_iload_n hx hb d_Puzzles_reachWith_20 rfl (lv_at hl 2 rfl) ?_
        refine lv_iload_n hx hb d_Puzzles_reachWith_21 rfl (lv_at hl 1 rfl) ?_
        refine N_isub (r := (k + 1) - g) hx hb (by omega) (by omega) d_Puzzles_reachWith_22 ?_
        refine R_zald X hW (t0 := 1) rfl 3 rfl (k := ((k + 1) - g)) (by omega) (by decide) d_Puzzles_reachWith_23 ?_
        refine N_if_eq_B hx hb  (tgt := 34) d_Puzzles_reachWith_24 (by decide) (fun c24 => ?_) (fun c24 => ?_)
        · refine lv_iinc (v := (nI k)) (lv' := [(2, .int (nI k)), (0, .ref (h 5)), (1, .int (nI g))]) hx hb d_Puzzles_reachWith_34 hl (k := 2) rfl (N_dec (r := k) (by omega) (by omega)) (by decide) rfl (fun ls hl => ?_)
          refine lv_goto (tgt := 11) hx hb d_Puzzles_reachWith_37 (by decide) ?_
          exact ih11 f (by omega) (by rw [← he, rchG, if_neg (by omega), if_neg (by simp [c24])]) _ _ hW ls (lv_sub hl [1, 2, 0] rfl)
        · refine lv_aload_n hx hb d_Puzzles_reachWith_27 rfl (lv_at hl 0 rfl) ?_
          refine R_get X hW i_Puzzles rfl 3 (by decide) kf_Puzzles_18 0 rfl rfl d_Puzzles_reachWith_28 ?_
          refine lv_iload_n hx hb d_Puzzles_reachWith_31 rfl (lv_at hl 2 rfl) ?_
          refine lv_iconst (v := (nI 1)) hx hb d_Puzzles_reachWith_32 (by decide +kernel) ?_
          refine R_zast X hW (t0 := 1) rfl 3 rfl (k := (k + 1)) (by omega) (by decide) true (by decide +kernel) d_Puzzles_reachWith_33 (fun H locs hW => ?_)
          have hW : Wr G A s.heap (w_Puz h cI cZ cJ np tot gr fa (va_up f (k + 1) true) ss sc) H locs := hW
          refine lv_iinc (v := (nI k)) (lv' := [(2, .int (nI k)), (0, .ref (h 5)), (1, .int (nI g))]) hx hb d_Puzzles_reachWith_34 hl (k := 2) rfl (N_dec (r := k) (by omega) (by omega)) (by decide) rfl (fun ls hl => ?_)
          refine lv_goto (tgt := 11) hx hb d_Puzzles_reachWith_37 (by decide) ?_
          exact ih11 (va_up f (k + 1) true) (by omega) (by rw [← he, rchG, if_neg (by omega), if_pos c24]) _ _ hW ls (lv_sub hl [1, 2, 0] rfl)
  exact L11 1000 (va_up re 0 true) (by omega) rfl _ _ hW ls (lv_sub hl [1, 2, 0] rfl)

set_option maxHeartbeats 4000000 in
set_option maxRecDepth 100000 in
theorem c_Puzzles_leastDifference_none (l : Launch) (G : va_G) (cI cZ cJ : ClassId) (h : Nat → Nat) (np : Nat) (tot : Nat) (gr : Nat → Nat) (fa : Nat → Nat) (re : Nat → Bool) (ss : Nat → Nat) (sc : Nat → Nat)  (hn : np = 0) : Ct l G (tyL cI cZ cJ) y_Puzzles_leastDifference b_Puzzles_leastDifference 2 (some .int) (rmL 0) [.ref (h 5)] (w_Puz h cI cZ cJ np tot gr fa re ss sc) (some (.int (-1))) (w_Puz h cI cZ cJ np tot gr fa re ss sc) := by
  refine M_start (by decide) (Nat.le_of_ble_eq_true rfl) ?_
  intro p e s m args below meth c A Q ls X Y hW hl
  have hx := X.1.1
  have hb := X.1.2.1
  have hl : lv_has ls 2 [(0, .ref (h 5))] := hl
  refine lv_aload_n hx hb d_Puzzles_leastDifference_0 rfl (lv_at hl 0 rfl) ?_
  refine R_get X hW i_Puzzles rfl 1 (by decide) kf_Puzzles_28 0 rfl rfl d_Puzzles_leastDifference_1 ?_
  refine N_if_ne_N hx hb (by omega) (tgt := 9) d_Puzzles_leastDifference_4 (by decide) (fun c4 => ?_) (fun c4 => ?_)
  · exfalso; omega
  · refine lv_iconst (v := (-1)) hx hb d_Puzzles_leastDifference_7 (by decide +kernel) ?_
    exact R_iret X Y hW rfl rfl d_Puzzles_leastDifference_8

theorem kf_Puzzles_39 : Cond.fieldLink "ContestRows$Puzzles" 39 "ContestRows$Puzzles" "total" "I" ∈ TBL := TBL_t (List.mem_append_left _ (List.mem_of_getElem? (i := 34) rfl)) rfl
set_option maxHeartbeats 4000000 in
set_option maxRecDepth 100000 in
theorem c_Puzzles_leastDifference_some (l : Launch) (G : va_G) (cI cZ cJ : ClassId) (h : Nat → Nat) (np : Nat) (tot : Nat) (gr : Nat → Nat) (fa : Nat → Nat) (re : Nat → Bool) (ss : Nat → Nat) (sc : Nat → Nat)  (hn : 0 < np ∧ np ≤ 20) (ht : tot ≤ 2000) : Ct l G (tyL cI cZ cJ) y_Puzzles_leastDifference b_Puzzles_leastDifference 2 (some .int) (rmL 0) [.ref (h 5)] (w_Puz h cI cZ cJ np tot gr fa re ss sc) (some (.int (nI (tot - 2 * lowG re (tot / 2))))) (w_Puz h cI cZ cJ np tot gr fa re ss sc) := by
  refine M_start (by decide) (Nat.le_of_ble_eq_true rfl) ?_
  intro p e s m args below meth c A Q ls X Y hW hl
  have hx := X.1.1
  have hb := X.1.2.1
  have hl : lv_has ls 2 [(0, .ref (h 5))] := hl
  refine lv_aload_n hx hb d_Puzzles_leastDifference_0 rfl (lv_at hl 0 rfl) ?_
  refine R_get X hW i_Puzzles rfl 1 (by decide) kf_Puzzles_28 0 rfl rfl d_Puzzles_leastDifference_1 ?_
  refine N_if_ne_N hx hb (by omega) (tgt := 9) d_Puzzles_leastDifference_4 (by decide) (fun c4 => ?_) (fun c4 => ?_)
  · refine lv_aload_n hx hb d_Puzzles_leastDifference_9 rfl (lv_at hl 0 rfl) ?_
    refine R_get X hW i_Puzzles rfl 4 (by decide) kf_Puzzles_39 0 rfl rfl d_Puzzles_leastDifference_10 ?_
    refine lv_iconst (v := (nI 2)) hx hb d_Puzzles_leastDifference_13 (by decide +kernel) ?_
    refine N_idiv hx hb (by omega) (by decide) (by decide) d_Puzzles_leastDifference_14 ?_
    refine lv_istore_n (lv' := [(1, .int (nI (tot / 2))), (0, .ref (h 5))]) hx hb d_Puzzles_leastDifference_15 rfl hl (by decide) rfl (fun ls hl => ?_)
    have L16 : ∀ (k : Nat)  (hk : k ≤ tot / 2) (he : lowG re k = lowG re (tot / 2)) (H : Heap) (locs : List Loc) (hW : Wr G A s.heap (w_Puz h cI cZ cJ np tot gr fa re ss sc) H locs) (ls : Array Slot) (hl : lv_has ls 2 [(0, .ref (h 5)), (1, .int (nI k))]), W p l e (rmL 0) s m args below meth c H locs 0 0 Q (F0 m 16 ls []) := by
      intro k
      induction k with
      | zero =>
        intro  hk he H locs hW ls hl
        refine lv_iload_n hx hb d_Puzzles_leastDifference_16 rfl (lv_at hl 1 rfl) ?_
        refine N_if_le_N hx hb (by omega) (tgt := 35) d_Puzzles_leastDifference_17 (by decide) (fun c17 => ?_) (fun c17 => ?_)
        · refine lv_aload_n hx hb d_Puzzles_leastDifference_35 rfl (lv_at hl 0 rfl) ?_
          refine R_get X hW i_Puzzles rfl 4 (by decide) kf_Puzzles_39 0 rfl rfl d_Puzzles_leastDifference_36 ?_
          refine lv_iconst (v := (nI 2)) hx hb d_Puzzles_leastDifference_39 (by decide +kernel) ?_
          refine lv_iload_n hx hb d_Puzzles_leastDifference_40 rfl (lv_at hl 1 rfl) ?_
          refine N_imul hx hb d_Puzzles_leastDifference_41 ?_
          refine N_isub (r := tot - (2 * 0)) hx hb (by omega) (by omega) d_Puzzles_leastDifference_42 ?_
          exact R_iret X Y hW rfl (by rw [← he]; rfl) d_Puzzles_leastDifference_43
        · exfalso; omega
      | succ k ih16 =>
        intro  hk he H locs hW ls hl
        refine lv_iload_n hx hb d_Puzzles_leastDifference_16 rfl (lv_at hl 1 rfl) ?_
        refine N_if_le_N hx hb (by omega) (tgt := 35) d_Puzzles_leastDifference_17 (by decide) (fun c17 => ?_) (fun c17 => ?_)
        · exfalso; omega
        · refine lv_aload_n hx hb d_Puzzles_leastDifference_20 rfl (lv_at hl 0 rfl) ?_
          refine R_get X hW i_Puzzles rfl 3 (by decide) kf_Puzzles_18 0 rfl rfl d_Puzzles_leastDifference_21 ?_
          refine lv_iload_n hx hb d_Puzzles_leastDifference_24 rfl (lv_at hl 1 rfl) ?_
          refine R_zald X hW (t0 := 1) rfl 3 rfl (k := (k + 1)) (by omega) (by decide) d_Puzzles_leastDifference_25 ?_
          refine N_if_ne_B hx hb  (tgt := 35) d_Puzzles_leastDifference_26 (by decide) (fun c26 => ?_) (fun c26 => ?_)
          · refine lv_aload_n hx hb d_Puzzles_leastDifference_35 rfl (lv_at hl 0 rfl) ?_
            refine R_get X hW i_Puzzles rfl 4 (by decide) kf_Puzzles_39 0 rfl rfl d_Puzzles_leastDifference_36 ?_
            refine lv_iconst (v := (nI 2)) hx hb d_Puzzles_leastDifference_39 (by decide +kernel) ?_
            refine lv_iload_n hx hb d_Puzzles_leastDifference_40 rfl (lv_at hl 1 rfl) ?_
            refine N_imul hx hb d_Puzzles_leastDifference_41 ?_
            refine N_isub (r := tot - (2 * (k + 1))) hx hb (by omega) (by omega) d_Puzzles_leastDifference_42 ?_
            exact R_iret X Y hW rfl (by rw [← he, lowG, if_pos c26]) d_Puzzles_leastDifference_43
          · refine lv_iinc (v := (nI k)) (lv' := [(1, .int (nI k)), (0, .ref (h 5))]) hx hb d_Puzzles_leastDifference_29 hl (k := 1) rfl (N_dec (r := k) (by omega) (by omega)) (by decide) rfl (fun ls hl => ?_)
            refine lv_goto (tgt := 16) hx hb d_Puzzles_leastDifference_32 (by decide) ?_
            exact ih16  (by omega) (by rw [← he, lowG, if_neg (by simp [c26])]) _ _ hW ls (lv_sub hl [1, 0] rfl)
    exact L16 (tot / 2)  (Nat.le_refl _) rfl _ _ hW ls (lv_sub hl [1, 0] rfl)
  · exfalso; omega

theorem kf_Puzzles_22 : Cond.fieldLink "ContestRows$Puzzles" 22 "ContestRows$Puzzles" "setSums" "[I" ∈ TBL := TBL_t (List.mem_append_left _ (List.mem_of_getElem? (i := 35) rfl)) rfl
theorem kf_Puzzles_25 : Cond.fieldLink "ContestRows$Puzzles" 25 "ContestRows$Puzzles" "setCounts" "[I" ∈ TBL := TBL_t (List.mem_append_left _ (List.mem_of_getElem? (i := 36) rfl)) rfl
set_option maxHeartbeats 4000000 in
set_option maxRecDepth 100000 in
theorem c_Puzzles_leastSet (l : Launch) (G : va_G) (cI cZ cJ : ClassId) (h : Nat → Nat) (np : Nat) (tot : Nat) (gr : Nat → Nat) (fa : Nat → Nat) (re : Nat → Bool) (ss : Nat → Nat) (sc : Nat → Nat) (k : Nat) (hk : 1 ≤ k ∧ k ≤ 6) (hss : ∀ i, i < 6 → ss i < 2 ^ 31) (hsc : ∀ i, i < 6 → sc i < 2 ^ 31) : Ct l G (tyL cI cZ cJ) y_Puzzles_leastSet b_Puzzles_leastSet 6 (some .int) (rmL 0) [.ref (h 5), .int (nI k)] (w_Puz h cI cZ cJ np tot gr fa re ss sc) (some (.int (nI (lsF ss sc k)))) (w_Puz h cI cZ cJ np tot gr fa re ss sc) := by
  refine M_start (by decide) (Nat.le_of_ble_eq_true rfl) ?_
  intro p e s m args below meth c A Q ls X Y hW hl
  have hx := X.1.1
  have hb := X.1.2.1
  have hl : lv_has ls 6 [(0, .ref (h 5)), (1, .int (nI k))] := hl
  refine lv_iconst (v := (nI 0)) hx hb d_Puzzles_leastSet_0 (by decide +kernel) ?_
  refine lv_istore_n (lv' := [(2, .int (nI 0)), (0, .ref (h 5)), (1, .int (nI k))]) hx hb d_Puzzles_leastSet_1 rfl hl (by decide) rfl (fun ls hl => ?_)
  refine lv_iconst (v := (nI 1)) hx hb d_Puzzles_leastSet_2 (by decide +kernel) ?_
  refine lv_istore_n (lv' := [(3, .int (nI 1)), (2, .int (nI 0)), (0, .ref (h 5)), (1, .int (nI k))]) hx hb d_Puzzles_leastSet_3 rfl hl (by decide) rfl (fun ls hl => ?_)
  have L4 : ∀ (n : Nat) (i : Nat) (b : Nat) (hi : i + n = k ∧ 1 ≤ i ∧ b < i) (he : lsG ss sc n i b = lsF ss sc k) (H : Heap) (locs : List Loc) (hW : Wr G A s.heap (w_Puz h cI cZ cJ np tot gr fa re ss sc) H locs) (ls : Array Slot) (hl : lv_has ls 6 [(0, .ref (h 5)), (1, .int (nI k)), (2, .int (nI b)), (3, .int (nI i))]), W p l e (rmL 0) s m args below meth c H locs 0 0 Q (F0 m 4 ls []) := by
    intro n
    induction n with
    | zero =>
      intro i b hi he H locs hW ls hl
      refine lv_iload_n hx hb d_Puzzles_leastSet_4 rfl (lv_at hl 3 rfl) ?_
      refine lv_iload_n hx hb d_Puzzles_leastSet_5 rfl (lv_at hl 1 rfl) ?_
      refine N_icmp_ge_NN hx hb (by omega) (by omega) (tgt := 86) d_Puzzles_leastSet_6 (by decide) (fun c6 => ?_) (fun c6 => ?_)
      · refine lv_iload_n hx hb d_Puzzles_leastSet_86 rfl (lv_at hl 2 rfl) ?_
        exact R_iret X Y hW rfl (by rw [← he]; rfl) d_Puzzles_leastSet_87
      · exfalso; omega
    | succ n ih4 =>
      intro i b hi he H locs hW ls hl
      refine lv_iload_n hx hb d_Puzzles_leastSet_4 rfl (lv_at hl 3 rfl) ?_
      refine lv_iload_n hx hb d_Puzzles_leastSet_5 rfl (lv_at hl 1 rfl) ?_
      refine N_icmp_ge_NN hx hb (by omega) (by omega) (tgt := 86) d_Puzzles_leastSet_6 (by decide) (fun c6 => ?_) (fun c6 => ?_)
      · exfalso; omega
      · have q1 := hss i (by omega)
        have q2 := hss b (by omega)
        have q3 := hsc i (by omega)
        have q4 := hsc b (by omega)
        refine lv_aload_n hx hb d_Puzzles_leastSet_9 rfl (lv_at hl 0 rfl) ?_
        refine R_get X hW i_Puzzles rfl 5 (by decide) kf_Puzzles_22 0 rfl rfl d_Puzzles_leastSet_10 ?_
        refine lv_iload_n hx hb d_Puzzles_leastSet_13 rfl (lv_at hl 3 rfl) ?_
        refine R_iald X hW (t0 := 0) rfl 4 rfl (k := i) (by omega) (by decide) d_Puzzles_leastSet_14 ?_
        refine lv_aload_n hx hb d_Puzzles_leastSet_15 rfl (lv_at hl 0 rfl) ?_
        refine R_get X hW i_Puzzles rfl 5 (by decide) kf_Puzzles_22 0 rfl rfl d_Puzzles_leastSet_16 ?_
        refine lv_iload_n hx hb d_Puzzles_leastSet_19 rfl (lv_at hl 2 rfl) ?_
        refine R_iald X hW (t0 := 0) rfl 4 rfl (k := b) (by omega) (by decide) d_Puzzles_leastSet_20 ?_
        refine N_icmp_ge_NN hx hb (by omega) (by omega) (tgt := 28) d_Puzzles_leastSet_21 (by decide) (fun c21 => ?_) (fun c21 => ?_)
        · refine lv_iconst (v := (nI 0)) hx hb d_Puzzles_leastSet_28 (by decide +kernel) ?_
          refine lv_istore (lv' := [(4, .int (nI 0)), (0, .ref (h 5)), (1, .int (nI k)), (2, .int (nI b)), (3, .int (nI i))]) hx hb d_Puzzles_leastSet_29 hl (by decide) rfl (fun ls hl => ?_)
          refine lv_aload_n hx hb d_Puzzles_leastSet_31 rfl (lv_at hl 1 rfl) ?_
          refine R_get X hW i_Puzzles rfl 5 (by decide) kf_Puzzles_22 0 rfl rfl d_Puzzles_leastSet_32 ?_
          refine lv_iload_n hx hb d_Puzzles_leastSet_35 rfl (lv_at hl 4 rfl) ?_
          refine R_iald X hW (t0 := 0) rfl 4 rfl (k := i) (by omega) (by decide) d_Puzzles_leastSet_36 ?_
          refine lv_aload_n hx hb d_Puzzles_leastSet_37 rfl (lv_at hl 1 rfl) ?_
          refine R_get X hW i_Puzzles rfl 5 (by decide) kf_Puzzles_22 0 rfl rfl d_Puzzles_leastSet_38 ?_
          refine lv_iload_n hx hb d_Puzzles_leastSet_41 rfl (lv_at hl 3 rfl) ?_
          refine R_iald X hW (t0 := 0) rfl 4 rfl (k := b) (by omega) (by decide) d_Puzzles_leastSet_42 ?_
          refine N_icmp_ne_NN hx hb (by omega) (by omega) (tgt := 50) d_Puzzles_leastSet_43 (by decide) (fun c43 => ?_) (fun c43 => ?_)
          · refine lv_iconst (v := (nI 0)) hx hb d_Puzzles_leastSet_50 (by decide +kernel) ?_
            refine lv_istore (lv' := [(5, .int (nI 0)), (4, .int (nI 0)), (0, .ref (h 5)), (1, .int (nI k)), (2, .int (nI b)), (3, .int (nI i))]) hx hb d_Puzzles_leastSet_51 hl (by decide) rfl (fun ls hl => ?_)
            refine lv_iload hx hb d_Puzzles_leastSet_53 (lv_at hl 1 rfl) ?_
            refine N_if_ne_N hx hb (by omega) (tgt := 78) d_Puzzles_leastSet_55 (by decide) (fun c55 => ?_) (fun c55 => ?_)
            · exfalso; omega
            · refine lv_iload hx hb d_Puzzles_leastSet_58 (lv_at hl 0 rfl) ?_
              refine N_if_eq_N hx hb (by omega) (tgt := 80) d_Puzzles_leastSet_60 (by decide) (fun c60 => ?_) (fun c60 => ?_)
              · refine lv_iinc (v := (nI (i + 1))) (lv' := [(3, .int (nI (i + 1))), (5, .int (nI 0)), (4, .int (nI 0)), (0, .ref (h 5)), (1, .int (nI k)), (2, .int (nI b))]) hx hb d_Puzzles_leastSet_80 hl (k := 5) rfl (N_inc i) (by decide) rfl (fun ls hl => ?_)
                refine lv_goto (tgt := 4) hx hb d_Puzzles_leastSet_83 (by decide) ?_
                exact ih4 (i + 1) b (by omega) (by rw [← he, lsG]; first | rw [if_pos (by omega)] | rw [if_neg (by omega)]) _ _ hW ls (lv_sub hl [3, 4, 5, 0] rfl)
              · exfalso; omega
          · refine lv_iconst (v := (nI 1)) hx hb d_Puzzles_leastSet_46 (by decide +kernel) ?_
            refine lv_goto (tgt := 51) hx hb d_Puzzles_leastSet_47 (by decide) ?_
            refine lv_istore (lv' := [(5, .int (nI 1)), (4, .int (nI 0)), (0, .ref (h 5)), (1, .int (nI k)), (2, .int (nI b)), (3, .int (nI i))]) hx hb d_Puzzles_leastSet_51 hl (by decide) rfl (fun ls hl => ?_)
            refine lv_iload hx hb d_Puzzles_leastSet_53 (lv_at hl 1 rfl) ?_
            refine N_if_ne_N hx hb (by omega) (tgt := 78) d_Puzzles_leastSet_55 (by decide) (fun c55 => ?_) (fun c55 => ?_)
            · exfalso; omega
            · refine lv_iload hx hb d_Puzzles_leastSet_58 (lv_at hl 0 rfl) ?_
              refine N_if_eq_N hx hb (by omega) (tgt := 80) d_Puzzles_leastSet_60 (by decide) (fun c60 => ?_) (fun c60 => ?_)
              · exfalso; omega
              · refine lv_aload_n hx hb d_Puzzles_leastSet_63 rfl (lv_at hl 2 rfl) ?_
                refine R_get X hW i_Puzzles rfl 6 (by decide) kf_Puzzles_25 0 rfl rfl d_Puzzles_leastSet_64 ?_
                refine lv_iload_n hx hb d_Puzzles_leastSet_67 rfl (lv_at hl 5 rfl) ?_
                refine R_iald X hW (t0 := 0) rfl 5 rfl (k := i) (by omega) (by decide) d_Puzzles_leastSet_68 ?_
                refine lv_aload_n hx hb d_Puzzles_leastSet_69 rfl (lv_at hl 2 rfl) ?_
                refine R_get X hW i_Puzzles rfl 6 (by decide) kf_Puzzles_25 0 rfl rfl d_Puzzles_leastSet_70 ?_
                refine lv_iload_n hx hb d_Puzzles_leastSet_73 rfl (lv_at hl 4 rfl) ?_
                refine R_iald X hW (t0 := 0) rfl 5 rfl (k := b) (by omega) (by decide) d_Puzzles_leastSet_74 ?_
                refine N_icmp_ge_NN hx hb (by omega) (by omega) (tgt := 80) d_Puzzles_leastSet_75 (by decide) (fun c75 => ?_) (fun c75 => ?_)
                · refine lv_iinc (v := (nI (i + 1))) (lv' := [(3, .int (nI (i + 1))), (5, .int (nI 1)), (4, .int (nI 0)), (0, .ref (h 5)), (1, .int (nI k)), (2, .int (nI b))]) hx hb d_Puzzles_leastSet_80 hl (k := 5) rfl (N_inc i) (by decide) rfl (fun ls hl => ?_)
                  refine lv_goto (tgt := 4) hx hb d_Puzzles_leastSet_83 (by decide) ?_
                  exact ih4 (i + 1) b (by omega) (by rw [← he, lsG]; first | rw [if_pos (by omega)] | rw [if_neg (by omega)]) _ _ hW ls (lv_sub hl [3, 4, 5, 0] rfl)
                · refine lv_iload_n hx hb d_Puzzles_leastSet_78 rfl (lv_at hl 5 rfl) ?_
                  refine lv_istore_n (lv' := [(2, .int (nI i)), (5, .int (nI 1)), (4, .int (nI 0)), (0, .ref (h 5)), (1, .int (nI k)), (3, .int (nI i))]) hx hb d_Puzzles_leastSet_79 rfl hl (by decide) rfl (fun ls hl => ?_)
                  refine lv_iinc (v := (nI (i + 1))) (lv' := [(3, .int (nI (i + 1))), (2, .int (nI i)), (5, .int (nI 1)), (4, .int (nI 0)), (0, .ref (h 5)), (1, .int (nI k))]) hx hb d_Puzzles_leastSet_80 hl (k := 5) rfl (N_inc i) (by decide) rfl (fun ls hl => ?_)
                  refine lv_goto (tgt := 4) hx hb d_Puzzles_leastSet_83 (by decide) ?_
                  exact ih4 (i + 1) i (by omega) (by rw [← he, lsG]; first | rw [if_pos (by omega)] | rw [if_neg (by omega)]) _ _ hW ls (lv_sub hl [4, 5, 1, 0] rfl)
        · refine lv_iconst (v := (nI 1)) hx hb d_Puzzles_leastSet_24 (by decide +kernel) ?_
          refine lv_goto (tgt := 29) hx hb d_Puzzles_leastSet_25 (by decide) ?_
          refine lv_istore (lv' := [(4, .int (nI 1)), (0, .ref (h 5)), (1, .int (nI k)), (2, .int (nI b)), (3, .int (nI i))]) hx hb d_Puzzles_leastSet_29 hl (by decide) rfl (fun ls hl => ?_)
          refine lv_aload_n hx hb d_Puzzles_leastSet_31 rfl (lv_at hl 1 rfl) ?_
          refine R_get X hW i_Puzzles rfl 5 (by decide) kf_Puzzles_22 0 rfl rfl d_Puzzles_leastSet_32 ?_
          refine lv_iload_n hx hb d_Puzzles_leastSet_35 rfl (lv_at hl 4 rfl) ?_
          refine R_iald X hW (t0 := 0) rfl 4 rfl (k := i) (by omega) (by decide) d_Puzzles_leastSet_36 ?_
          refine lv_aload_n hx hb d_Puzzles_leastSet_37 rfl (lv_at hl 1 rfl) ?_
          refine R_get X hW i_Puzzles rfl 5 (by decide) kf_Puzzles_22 0 rfl rfl d_Puzzles_leastSet_38 ?_
          refine lv_iload_n hx hb d_Puzzles_leastSet_41 rfl (lv_at hl 3 rfl) ?_
          refine R_iald X hW (t0 := 0) rfl 4 rfl (k := b) (by omega) (by decide) d_Puzzles_leastSet_42 ?_
          refine N_icmp_ne_NN hx hb (by omega) (by omega) (tgt := 50) d_Puzzles_leastSet_43 (by decide) (fun c43 => ?_) (fun c43 => ?_)
          · refine lv_iconst (v := (nI 0)) hx hb d_Puzzles_leastSet_50 (by decide +kernel) ?_
            refine lv_istore (lv' := [(5, .int (nI 0)), (4, .int (nI 1)), (0, .ref (h 5)), (1, .int (nI k)), (2, .int (nI b)), (3, .int (nI i))]) hx hb d_Puzzles_leastSet_51 hl (by decide) rfl (fun ls hl => ?_)
            refine lv_iload hx hb d_Puzzles_leastSet_53 (lv_at hl 1 rfl) ?_
            refine N_if_ne_N hx hb (by omega) (tgt := 78) d_Puzzles_leastSet_55 (by decide) (fun c55 => ?_) (fun c55 => ?_)
            · refine lv_iload_n hx hb d_Puzzles_leastSet_78 rfl (lv_at hl 5 rfl) ?_
              refine lv_istore_n (lv' := [(2, .int (nI i)), (5, .int (nI 0)), (4, .int (nI 1)), (0, .ref (h 5)), (1, .int (nI k)), (3, .int (nI i))]) hx hb d_Puzzles_leastSet_79 rfl hl (by decide) rfl (fun ls hl => ?_)
              refine lv_iinc (v := (nI (i + 1))) (lv' := [(3, .int (nI (i + 1))), (2, .int (nI i)), (5, .int (nI 0)), (4, .int (nI 1)), (0, .ref (h 5)), (1, .int (nI k))]) hx hb d_Puzzles_leastSet_80 hl (k := 5) rfl (N_inc i) (by decide) rfl (fun ls hl => ?_)
              refine lv_goto (tgt := 4) hx hb d_Puzzles_leastSet_83 (by decide) ?_
              exact ih4 (i + 1) i (by omega) (by rw [← he, lsG]; first | rw [if_pos (by omega)] | rw [if_neg (by omega)]) _ _ hW ls (lv_sub hl [4, 5, 1, 0] rfl)
            · exfalso; omega
          · refine lv_iconst (v := (nI 1)) hx hb d_Puzzles_leastSet_46 (by decide +kernel) ?_
            refine lv_goto (tgt := 51) hx hb d_Puzzles_leastSet_47 (by decide) ?_
            refine lv_istore (lv' := [(5, .int (nI 1)), (4, .int (nI 1)), (0, .ref (h 5)), (1, .int (nI k)), (2, .int (nI b)), (3, .int (nI i))]) hx hb d_Puzzles_leastSet_51 hl (by decide) rfl (fun ls hl => ?_)
            refine lv_iload hx hb d_Puzzles_leastSet_53 (lv_at hl 1 rfl) ?_
            refine N_if_ne_N hx hb (by omega) (tgt := 78) d_Puzzles_leastSet_55 (by decide) (fun c55 => ?_) (fun c55 => ?_)
            · refine lv_iload_n hx hb d_Puzzles_leastSet_78 rfl (lv_at hl 5 rfl) ?_
              refine lv_istore_n (lv' := [(2, .int (nI i)), (5, .int (nI 1)), (4, .int (nI 1)), (0, .ref (h 5)), (1, .int (nI k)), (3, .int (nI i))]) hx hb d_Puzzles_leastSet_79 rfl hl (by decide) rfl (fun ls hl => ?_)
              refine lv_iinc (v := (nI (i + 1))) (lv' := [(3, .int (nI (i + 1))), (2, .int (nI i)), (5, .int (nI 1)), (4, .int (nI 1)), (0, .ref (h 5)), (1, .int (nI k))]) hx hb d_Puzzles_leastSet_80 hl (k := 5) rfl (N_inc i) (by decide) rfl (fun ls hl => ?_)
              refine lv_goto (tgt := 4) hx hb d_Puzzles_leastSet_83 (by decide) ?_
              exact ih4 (i + 1) i (by omega) (by rw [← he, lsG]; first | rw [if_pos (by omega)] | rw [if_neg (by omega)]) _ _ hW ls (lv_sub hl [4, 5, 1, 0] rfl)
            · exfalso; omega
  exact L4 (k - 1) 1 0 (by omega) rfl _ _ hW ls (lv_sub hl [2, 3, 1, 0] rfl)

theorem kb_Puzzles_leastSet : Cond.code y_Puzzles_leastSet b_Puzzles_leastSet 6 (some .int) ∈ TBL := TBL_t (List.mem_append_right _ (List.mem_append_right _ (List.mem_of_getElem? (i := 2) rfl))) rfl
theorem kn_Puzzles : Cond.initialized "ContestRows$Puzzles" ∈ TBL := TBL_t (List.mem_append_left _ (List.mem_of_getElem? (i := 2) rfl)) rfl
theorem km_Puzzles_42 : Cond.methodLink "ContestRows$Puzzles" 42 y_Puzzles_leastSet ∈ TBL := TBL_t (List.mem_append_right _ (List.mem_append_left _ (List.mem_of_getElem? (i := 239) rfl))) rfl
theorem cw_Puzzles_42 : Cw "ContestRows$Puzzles" 42 y_Puzzles_leastSet b_Puzzles_leastSet 6 (some .int) 1 := ⟨kb_Puzzles_leastSet, kn_Puzzles, km_Puzzles_42, by decide +kernel⟩
theorem ki_Puzzles_leastSet : Cond.instanceMethod y_Puzzles_leastSet ∈ TBL := TBL_t (List.mem_append_right _ (List.mem_append_right _ (List.mem_of_getElem? (i := 1) rfl))) rfl
theorem ks_Puzzles_leastSet : Cond.selects "ContestRows$Puzzles" y_Puzzles_leastSet y_Puzzles_leastSet ∈ TBL := TBL_in (List.mem_append_left _ (List.mem_map.mpr ⟨(y_Puzzles_leastSet, 7), by decide +kernel, rfl⟩)) rfl
set_option maxHeartbeats 4000000 in
set_option maxRecDepth 100000 in
theorem c_Puzzles_setOf (l : Launch) (G : va_G) (cI cZ cJ : ClassId) (h : Nat → Nat) (np : Nat) (tot : Nat) (gr : Nat → Nat) (fa : Nat → Nat) (re : Nat → Bool) (ss : Nat → Nat) (sc : Nat → Nat) (q : Nat) (k : Nat) (hk : 1 ≤ k ∧ k ≤ 6) (hnp : np ≤ 20) (hq : q < 2 ^ 31) (hfa : ∀ i, i < np → fa i < 20) (hgr : ∀ i, i < 20 → gr i ≤ 100) : Ct l G (tyL cI cZ cJ) y_Puzzles_setOf b_Puzzles_setOf 6 (some .int) (rmL 1) [.ref (h 5), .int (nI q), .int (nI k)] (w_Puz h cI cZ cJ np tot gr fa re ss sc) (some (.int (oI ((setF gr fa ss sc np k q).1)))) (w_Puz h cI cZ cJ np tot gr fa re ((setF gr fa ss sc np k q).2.1) ((setF gr fa ss sc np k q).2.2)) := by
  refine M_start (by decide) (Nat.le_of_ble_eq_true rfl) ?_
  intro p e s m args below meth c A Q ls X Y hW hl
  have hx := X.1.1
  have hb := X.1.2.1
  have hl : lv_has ls 6 [(0, .ref (h 5)), (1, .int (nI q)), (2, .int (nI k))] := hl
  refine lv_iconst (v := (nI 0)) hx hb d_Puzzles_setOf_0 (by decide +kernel) ?_
  refine lv_istore_n (lv' := [(3, .int (nI 0)), (0, .ref (h 5)), (1, .int (nI q)), (2, .int (nI k))]) hx hb d_Puzzles_setOf_1 rfl hl (by decide) rfl (fun ls hl => ?_)
  have L2 : ∀ (n : Nat) (i : Nat) (hi : i + n = 6) (H : Heap) (locs : List Loc) (hW : Wr G A s.heap (w_Puz h cI cZ cJ np tot gr fa re (upK 0 i ss) (upK 0 i sc)) H locs) (ls : Array Slot) (hl : lv_has ls 6 [(0, .ref (h 5)), (1, .int (nI q)), (2, .int (nI k)), (3, .int (nI i))]), W p l e (rmL 1) s m args below meth c H locs 0 0 Q (F0 m 2 ls []) := by
    intro n
    induction n with
    | zero =>
      intro i hi H locs hW ls hl
      refine lv_iload_n hx hb d_Puzzles_setOf_2 rfl (lv_at hl 3 rfl) ?_
      refine lv_bipush (v := (nI 6)) hx hb d_Puzzles_setOf_3 (by decide +kernel) ?_
      refine N_icmp_ge_NN hx hb (by omega) (by decide) (tgt := 28) d_Puzzles_setOf_5 (by decide) (fun c5 => ?_) (fun c5 => ?_)
      · have e9 : 6 = i := by omega
        subst e9
        refine lv_iconst (v := (nI 0)) hx hb d_Puzzles_setOf_28 (by decide +kernel) ?_
        refine lv_istore_n (lv' := [(3, .int (nI 0)), (0, .ref (h 5)), (1, .int (nI q)), (2, .int (nI k))]) hx hb d_Puzzles_setOf_29 rfl hl (by decide) rfl (fun ls hl => ?_)
        have L30 : ∀ (n2 : Nat) (j : Nat) (s1 : Nat → Nat) (c1 : Nat → Nat) (hj : j + n2 = np) (hs1 : ∀ i, i < 6 → s1 i ≤ 100 * j) (hc1 : ∀ i, i < 6 → c1 i ≤ j) (he : setG gr fa k q n2 j s1 c1 = setF gr fa ss sc np k q) (H : Heap) (locs : List Loc) (hW : Wr G A s.heap (w_Puz h cI cZ cJ np tot gr fa re s1 c1) H locs) (ls : Array Slot) (hl : lv_has ls 6 [(0, .ref (h 5)), (1, .int (nI q)), (2, .int (nI k)), (3, .int (nI j))]), W p l e (rmL 1) s m args below meth c H locs 0 0 Q (F0 m 30 ls []) := by
          intro n2
          induction n2 with
          | zero =>
            intro j s1 c1 hj hs1 hc1 he H locs hW ls hl
            refine lv_iload_n hx hb d_Puzzles_setOf_30 rfl (lv_at hl 3 rfl) ?_
            refine lv_aload_n hx hb d_Puzzles_setOf_31 rfl (lv_at hl 0 rfl) ?_
            refine R_get X hW i_Puzzles rfl 1 (by decide) kf_Puzzles_28 0 rfl rfl d_Puzzles_setOf_32 ?_
            refine N_icmp_ge_NN hx hb (by omega) (by omega) (tgt := 96) d_Puzzles_setOf_35 (by decide) (fun c35 => ?_) (fun c35 => ?_)
            · refine lv_iconst (v := (-1)) hx hb d_Puzzles_setOf_96 (by decide +kernel) ?_
              exact R_iret X Y hW (by rw [← he]; rfl) (by rw [← he]; rfl) d_Puzzles_setOf_97
            · exfalso; omega
          | succ n2 ih30 =>
            intro j s1 c1 hj hs1 hc1 he H locs hW ls hl
            refine lv_iload_n hx hb d_Puzzles_setOf_30 rfl (lv_at hl 3 rfl) ?_
            refine lv_aload_n hx hb d_Puzzles_setOf_31 rfl (lv_at hl 0 rfl) ?_
            refine R_get X hW i_Puzzles rfl 1 (by decide) kf_Puzzles_28 0 rfl rfl d_Puzzles_setOf_32 ?_
            refine N_icmp_ge_NN hx hb (by omega) (by omega) (tgt := 96) d_Puzzles_setOf_35 (by decide) (fun c35 => ?_) (fun c35 => ?_)
            · exfalso; omega
            · have q1 := hfa j (by omega)
              have q2 := hgr (fa j) q1
              have q3 := lsF_lt (ss := s1) (sc := c1) hk.1
              refine lv_aload_n hx hb d_Puzzles_setOf_38 rfl (lv_at hl 0 rfl) ?_
              refine R_get X hW i_Puzzles rfl 2 (by decide) kf_Puzzles_15 0 rfl rfl d_Puzzles_setOf_39 ?_
              refine lv_iload_n hx hb d_Puzzles_setOf_42 rfl (lv_at hl 3 rfl) ?_
              refine R_iald X hW (t0 := 0) rfl 2 rfl (k := j) (by omega) (by decide) d_Puzzles_setOf_43 ?_
              refine lv_istore (lv' := [(4, .int (nI (fa j))), (0, .ref (h 5)), (1, .int (nI q)), (2, .int (nI k)), (3, .int (nI j))]) hx hb d_Puzzles_setOf_44 hl (by decide) rfl (fun ls hl => ?_)
              refine lv_aload_n hx hb d_Puzzles_setOf_46 rfl (lv_at hl 1 rfl) ?_
              refine lv_iload_n hx hb d_Puzzles_setOf_47 rfl (lv_at hl 3 rfl) ?_
              refine R_callV (q0 := 0) (c_Puzzles_leastSet l G cI cZ cJ h np tot gr fa re s1 c1 k hk (fun i hi => by have := hs1 i hi; omega) (fun i hi => by have := hc1 i hi; omega)) X rfl hW cw_Puzzles_42 ki_Puzzles_leastSet ks_Puzzles_leastSet rfl rfl ⟨rfl, rfl⟩ ⟨by decide, by decide⟩ ⟨Nat.zero_le _, Nat.zero_le _⟩ [true, true, true, true, true, true] rfl (Nat.le_of_ble_eq_true rfl) rfl rfl hl.1 rfl rfl (Nat.le_of_ble_eq_true rfl) d_Puzzles_setOf_48 rfl (fun H locs hW => ?_)
              have hW : Wr G A s.heap (w_Puz h cI cZ cJ np tot gr fa re s1 c1) H locs := hW
              refine lv_istore (lv' := [(5, .int (nI (lsF s1 c1 k))), (4, .int (nI (fa j))), (0, .ref (h 5)), (1, .int (nI q)), (2, .int (nI k)), (3, .int (nI j))]) hx hb d_Puzzles_setOf_51 hl (by decide) rfl (fun ls hl => ?_)
              refine lv_iload hx hb d_Puzzles_setOf_53 (lv_at hl 1 rfl) ?_
              refine lv_iload_n hx hb d_Puzzles_setOf_55 rfl (lv_at hl 3 rfl) ?_
              refine N_icmp_ne_NN hx hb (by omega) (by omega) (tgt := 62) d_Puzzles_setOf_56 (by decide) (fun c56 => ?_) (fun c56 => ?_)
              · refine lv_aload_n hx hb d_Puzzles_setOf_62 rfl (lv_at hl 2 rfl) ?_
                refine R_get X hW i_Puzzles rfl 5 (by decide) kf_Puzzles_22 0 rfl rfl d_Puzzles_setOf_63 ?_
                refine lv_iload hx hb d_Puzzles_setOf_66 (lv_at hl 0 rfl) ?_
                refine lv_dup2_11 hx hb d_Puzzles_setOf_68 rfl rfl ?_
                refine R_iald X hW (t0 := 0) rfl 4 rfl (k := (lsF s1 c1 k)) (by omega) (by decide) d_Puzzles_setOf_69 ?_
                refine lv_aload_n hx hb d_Puzzles_setOf_70 rfl (lv_at hl 2 rfl) ?_
                refine R_get X hW i_Puzzles rfl 0 (by decide) kf_Puzzles_11 0 rfl rfl d_Puzzles_setOf_71 ?_
                refine lv_iload hx hb d_Puzzles_setOf_74 (lv_at hl 1 rfl) ?_
                refine R_iald X hW (t0 := 0) rfl 1 rfl (k := (fa j)) (by omega) (by decide) d_Puzzles_setOf_76 ?_
                refine N_iadd hx hb d_Puzzles_setOf_77 ?_
                refine R_iast X hW (t0 := 0) rfl 4 rfl (k := (lsF s1 c1 k)) (by omega) (by decide) ((s1 (lsF s1 c1 k)) + (gr (fa j))) rfl d_Puzzles_setOf_78 (fun H locs hW => ?_)
                have hW : Wr G A s.heap (w_Puz h cI cZ cJ np tot gr fa re (va_up s1 (lsF s1 c1 k) ((s1 (lsF s1 c1 k)) + (gr (fa j)))) c1) H locs := hW
                refine lv_aload_n hx hb d_Puzzles_setOf_79 rfl (lv_at hl 2 rfl) ?_
                refine R_get X hW i_Puzzles rfl 6 (by decide) kf_Puzzles_25 0 rfl rfl d_Puzzles_setOf_80 ?_
                refine lv_iload hx hb d_Puzzles_setOf_83 (lv_at hl 0 rfl) ?_
                refine lv_dup2_11 hx hb d_Puzzles_setOf_85 rfl rfl ?_
                refine R_iald X hW (t0 := 0) rfl 5 rfl (k := (lsF s1 c1 k)) (by omega) (by decide) d_Puzzles_setOf_86 ?_
                refine lv_iconst (v := (nI 1)) hx hb d_Puzzles_setOf_87 (by decide +kernel) ?_
                refine N_iadd hx hb d_Puzzles_setOf_88 ?_
                refine R_iast X hW (t0 := 0) rfl 5 rfl (k := (lsF s1 c1 k)) (by omega) (by decide) ((c1 (lsF s1 c1 k)) + 1) rfl d_Puzzles_setOf_89 (fun H locs hW => ?_)
                have hW : Wr G A s.heap (w_Puz h cI cZ cJ np tot gr fa re (va_up s1 (lsF s1 c1 k) ((s1 (lsF s1 c1 k)) + (gr (fa j)))) (va_up c1 (lsF s1 c1 k) ((c1 (lsF s1 c1 k)) + 1))) H locs := hW
                refine lv_iinc (v := (nI (j + 1))) (lv' := [(3, .int (nI (j + 1))), (5, .int (nI (lsF s1 c1 k))), (4, .int (nI (fa j))), (0, .ref (h 5)), (1, .int (nI q)), (2, .int (nI k))]) hx hb d_Puzzles_setOf_90 hl (k := 5) rfl (N_inc j) (by decide) rfl (fun ls hl => ?_)
                refine lv_goto (tgt := 30) hx hb d_Puzzles_setOf_93 (by decide) ?_
                exact ih30 (j + 1) (va_up s1 (lsF s1 c1 k) ((s1 (lsF s1 c1 k)) + (gr (fa j)))) (va_up c1 (lsF s1 c1 k) ((c1 (lsF s1 c1 k)) + 1)) (by omega) (fun i hi => by have z1 := hs1 i hi; have z2 := hs1 (lsF s1 c1 k) (by omega); simp only [va_up]; split <;> omega) (fun i hi => by have z1 := hc1 i hi; have z2 := hc1 (lsF s1 c1 k) (by omega); simp only [va_up]; split <;> omega) (by rw [← he, setG, if_neg c56]) _ _ hW ls (lv_sub hl [3, 4, 5, 0] rfl)
              · refine lv_iload hx hb d_Puzzles_setOf_59 (lv_at hl 0 rfl) ?_
                exact R_iret X Y hW (by rw [← he, setG, if_pos c56]) (by rw [← he, setG, if_pos c56]; rfl) d_Puzzles_setOf_61
        exact L30 np 0 (upK 0 6 ss) (upK 0 6 sc) (by omega) (fun i hi => by rw [upK_lt _ _ _ _ hi]; omega) (fun i hi => by rw [upK_lt _ _ _ _ hi]; omega) rfl _ _ hW ls (lv_sub hl [1, 2, 3, 0] rfl)
      · exfalso; omega
    | succ n ih2 =>
      intro i hi H locs hW ls hl
      refine lv_iload_n hx hb d_Puzzles_setOf_2 rfl (lv_at hl 3 rfl) ?_
      refine lv_bipush (v := (nI 6)) hx hb d_Puzzles_setOf_3 (by decide +kernel) ?_
      refine N_icmp_ge_NN hx hb (by omega) (by decide) (tgt := 28) d_Puzzles_setOf_5 (by decide) (fun c5 => ?_) (fun c5 => ?_)
      · exfalso; omega
      · refine lv_aload_n hx hb d_Puzzles_setOf_8 rfl (lv_at hl 0 rfl) ?_
        refine R_get X hW i_Puzzles rfl 5 (by decide) kf_Puzzles_22 0 rfl rfl d_Puzzles_setOf_9 ?_
        refine lv_iload_n hx hb d_Puzzles_setOf_12 rfl (lv_at hl 3 rfl) ?_
        refine lv_iconst (v := (nI 0)) hx hb d_Puzzles_setOf_13 (by decide +kernel) ?_
        refine R_iast X hW (t0 := 0) rfl 4 rfl (k := i) (by omega) (by decide) 0 rfl d_Puzzles_setOf_14 (fun H locs hW => ?_)
        have hW : Wr G A s.heap (w_Puz h cI cZ cJ np tot gr fa re (va_up (upK 0 i ss) i 0) (upK 0 i sc)) H locs := hW
        refine lv_aload_n hx hb d_Puzzles_setOf_15 rfl (lv_at hl 0 rfl) ?_
        refine R_get X hW i_Puzzles rfl 6 (by decide) kf_Puzzles_25 0 rfl rfl d_Puzzles_setOf_16 ?_
        refine lv_iload_n hx hb d_Puzzles_setOf_19 rfl (lv_at hl 3 rfl) ?_
        refine lv_iconst (v := (nI 0)) hx hb d_Puzzles_setOf_20 (by decide +kernel) ?_
        refine R_iast X hW (t0 := 0) rfl 5 rfl (k := i) (by omega) (by decide) 0 rfl d_Puzzles_setOf_21 (fun H locs hW => ?_)
        have hW : Wr G A s.heap (w_Puz h cI cZ cJ np tot gr fa re (va_up (upK 0 i ss) i 0) (va_up (upK 0 i sc) i 0)) H locs := hW
        refine lv_iinc (v := (nI (i + 1))) (lv' := [(3, .int (nI (i + 1))), (0, .ref (h 5)), (1, .int (nI q)), (2, .int (nI k))]) hx hb d_Puzzles_setOf_22 hl (k := 3) rfl (N_inc i) (by decide) rfl (fun ls hl => ?_)
        refine lv_goto (tgt := 2) hx hb d_Puzzles_setOf_25 (by decide) ?_
        exact ih2 (i + 1) (by omega) _ _ hW ls (lv_sub hl [1, 2, 3, 0] rfl)
  exact L2 6 0 (by omega) _ _ hW ls (lv_sub hl [1, 2, 3, 0] rfl)

theorem kb_Puzzles_putFalling : Cond.code y_Puzzles_putFalling b_Puzzles_putFalling 3 none ∈ TBL := TBL_t (List.mem_append_left _ (List.mem_of_getElem? (i := 181) rfl)) rfl
theorem km_Puzzles_32 : Cond.methodLink "ContestRows$Puzzles" 32 y_Puzzles_putFalling ∈ TBL := TBL_t (List.mem_append_left _ (List.mem_of_getElem? (i := 178) rfl)) rfl
theorem cw_Puzzles_32 : Cw "ContestRows$Puzzles" 32 y_Puzzles_putFalling b_Puzzles_putFalling 3 none 1 := ⟨kb_Puzzles_putFalling, kn_Puzzles, km_Puzzles_32, by decide +kernel⟩
theorem ki_Puzzles_putFalling : Cond.instanceMethod y_Puzzles_putFalling ∈ TBL := TBL_t (List.mem_append_left _ (List.mem_of_getElem? (i := 180) rfl)) rfl
theorem ks_Puzzles_putFalling : Cond.selects "ContestRows$Puzzles" y_Puzzles_putFalling y_Puzzles_putFalling ∈ TBL := TBL_in (List.mem_append_left _ (List.mem_map.mpr ⟨(y_Puzzles_putFalling, 7), by decide +kernel, rfl⟩)) rfl
theorem kb_Puzzles_reachWith : Cond.code y_Puzzles_reachWith b_Puzzles_reachWith 3 none ∈ TBL := TBL_t (List.mem_append_left _ (List.mem_of_getElem? (i := 185) rfl)) rfl
theorem km_Puzzles_36 : Cond.methodLink "ContestRows$Puzzles" 36 y_Puzzles_reachWith ∈ TBL := TBL_t (List.mem_append_left _ (List.mem_of_getElem? (i := 182) rfl)) rfl
theorem cw_Puzzles_36 : Cw "ContestRows$Puzzles" 36 y_Puzzles_reachWith b_Puzzles_reachWith 3 none 1 := ⟨kb_Puzzles_reachWith, kn_Puzzles, km_Puzzles_36, by decide +kernel⟩
theorem ki_Puzzles_reachWith : Cond.instanceMethod y_Puzzles_reachWith ∈ TBL := TBL_t (List.mem_append_left _ (List.mem_of_getElem? (i := 184) rfl)) rfl
theorem ks_Puzzles_reachWith : Cond.selects "ContestRows$Puzzles" y_Puzzles_reachWith y_Puzzles_reachWith ∈ TBL := TBL_in (List.mem_append_left _ (List.mem_map.mpr ⟨(y_Puzzles_reachWith, 7), by decide +kernel, rfl⟩)) rfl
set_option maxHeartbeats 4000000 in
set_option maxRecDepth 100000 in
theorem c_Puzzles_add_ok (l : Launch) (G : va_G) (cI cZ cJ : ClassId) (h : Nat → Nat) (np : Nat) (tot : Nat) (gr : Nat → Nat) (fa : Nat → Nat) (re : Nat → Bool) (ss : Nat → Nat) (sc : Nat → Nat) (g : Nat) (hg : 1 ≤ g ∧ g ≤ 100) (hn : np < 20) (ht : tot ≤ 2000) (hfa : ∀ i, i < np → fa i < 20) (hgr : ∀ i, i < 20 → gr i ≤ 100) : Ct l G (tyL cI cZ cJ) y_Puzzles_add b_Puzzles_add 2 (some .int) (rmL 1) [.ref (h 5), .int (nI g)] (w_Puz h cI cZ cJ np tot gr fa re ss sc) (some (.int (nI np))) (w_Puz h cI cZ cJ (np + 1) (tot + g) (va_up gr np g) (insG (ltD (va_up gr np g)) np np fa) (rchG g 1000 (va_up re 0 true)) ss sc) := by
  refine M_start (by decide) (Nat.le_of_ble_eq_true rfl) ?_
  intro p e s m args below meth c A Q ls X Y hW hl
  have hx := X.1.1
  have hb := X.1.2.1
  have hl : lv_has ls 2 [(0, .ref (h 5)), (1, .int (nI g))] := hl
  refine lv_iload_n hx hb d_Puzzles_add_0 rfl (lv_at hl 1 rfl) ?_
  refine lv_iconst (v := (nI 1)) hx hb d_Puzzles_add_1 (by decide +kernel) ?_
  refine N_icmp_lt_NN hx hb (by omega) (by decide) (tgt := 20) d_Puzzles_add_2 (by decide) (fun c2 => ?_) (fun c2 => ?_)
  · exfalso; omega
  · refine lv_iload_n hx hb d_Puzzles_add_5 rfl (lv_at hl 1 rfl) ?_
    refine lv_bipush (v := (nI 100)) hx hb d_Puzzles_add_6 (by decide +kernel) ?_
    refine N_icmp_gt_NN hx hb (by omega) (by decide) (tgt := 20) d_Puzzles_add_8 (by decide) (fun c8 => ?_) (fun c8 => ?_)
    · exfalso; omega
    · refine lv_aload_n hx hb d_Puzzles_add_11 rfl (lv_at hl 0 rfl) ?_
      refine R_get X hW i_Puzzles rfl 1 (by decide) kf_Puzzles_28 0 rfl rfl d_Puzzles_add_12 ?_
      refine lv_bipush (v := (nI 20)) hx hb d_Puzzles_add_15 (by decide +kernel) ?_
      refine N_icmp_lt_NN hx hb (by omega) (by decide) (tgt := 22) d_Puzzles_add_17 (by decide) (fun c17 => ?_) (fun c17 => ?_)
      · refine lv_aload_n hx hb d_Puzzles_add_22 rfl (lv_at hl 0 rfl) ?_
        refine R_get X hW i_Puzzles rfl 0 (by decide) kf_Puzzles_11 0 rfl rfl d_Puzzles_add_23 ?_
        refine lv_aload_n hx hb d_Puzzles_add_26 rfl (lv_at hl 0 rfl) ?_
        refine R_get X hW i_Puzzles rfl 1 (by decide) kf_Puzzles_28 0 rfl rfl d_Puzzles_add_27 ?_
        refine lv_iload_n hx hb d_Puzzles_add_30 rfl (lv_at hl 1 rfl) ?_
        refine R_iast X hW (t0 := 0) rfl 1 rfl (k := np) (by omega) (by decide) g rfl d_Puzzles_add_31 (fun H locs hW => ?_)
        have hW : Wr G A s.heap (w_Puz h cI cZ cJ np tot (va_up gr np g) fa re ss sc) H locs := hW
        refine lv_aload_n hx hb d_Puzzles_add_32 rfl (lv_at hl 0 rfl) ?_
        refine lv_aload_n hx hb d_Puzzles_add_33 rfl (lv_at hl 0 rfl) ?_
        refine R_get X hW i_Puzzles rfl 1 (by decide) kf_Puzzles_28 0 rfl rfl d_Puzzles_add_34 ?_
        refine R_callV (q0 := 0) (c_Puzzles_putFalling l G cI cZ cJ h np tot (va_up gr np g) fa re ss sc np hn hfa (fun i hi => by have := hgr i hi; simp only [va_up]; split <;> omega)) X rfl hW cw_Puzzles_32 ki_Puzzles_putFalling ks_Puzzles_putFalling rfl rfl ⟨rfl, rfl⟩ ⟨by decide, by decide⟩ ⟨Nat.zero_le _, Nat.zero_le _⟩ [true, true, true, true, true, true] rfl (Nat.le_of_ble_eq_true rfl) rfl rfl hl.1 rfl rfl (Nat.le_of_ble_eq_true rfl) d_Puzzles_add_37 rfl (fun H locs hW => ?_)
        have hW : Wr G A s.heap (w_Puz h cI cZ cJ np tot (va_up gr np g) (insG (ltD (va_up gr np g)) np np fa) re ss sc) H locs := hW
        refine lv_aload_n hx hb d_Puzzles_add_40 rfl (lv_at hl 0 rfl) ?_
        refine lv_iload_n hx hb d_Puzzles_add_41 rfl (lv_at hl 1 rfl) ?_
        refine R_callV (q0 := 0) (c_Puzzles_reachWith l G cI cZ cJ h np tot (va_up gr np g) (insG (ltD (va_up gr np g)) np np fa) re ss sc g hg) X rfl hW cw_Puzzles_36 ki_Puzzles_reachWith ks_Puzzles_reachWith rfl rfl ⟨rfl, rfl⟩ ⟨by decide, by decide⟩ ⟨Nat.zero_le _, Nat.zero_le _⟩ [true, true, true, true, true, true] rfl (Nat.le_of_ble_eq_true rfl) rfl rfl hl.1 rfl rfl (Nat.le_of_ble_eq_true rfl) d_Puzzles_add_42 rfl (fun H locs hW => ?_)
        have hW : Wr G A s.heap (w_Puz h cI cZ cJ np tot (va_up gr np g) (insG (ltD (va_up gr np g)) np np fa) (rchG g 1000 (va_up re 0 true)) ss sc) H locs := hW
        refine lv_aload_n hx hb d_Puzzles_add_45 rfl (lv_at hl 0 rfl) ?_
        refine lv_dup hx hb d_Puzzles_add_46 rfl ?_
        refine R_get X hW i_Puzzles rfl 4 (by decide) kf_Puzzles_39 0 rfl rfl d_Puzzles_add_47 ?_
        refine lv_iload_n hx hb d_Puzzles_add_50 rfl (lv_at hl 1 rfl) ?_
        refine N_iadd hx hb d_Puzzles_add_51 ?_
        refine R_put X hW i_Puzzles rfl t_Puzzles t_Puzzles_ok n_Puzzles 4 (by decide) kf_Puzzles_39 rfl (ty := .int) (by decide +kernel) 0 rfl (v := .int (nI (tot + g))) rfl rfl (Nat.le_of_ble_eq_true rfl) d_Puzzles_add_52 (fun H locs hW => ?_)
        have hW : Wr G A s.heap (w_Puz h cI cZ cJ np (tot + g) (va_up gr np g) (insG (ltD (va_up gr np g)) np np fa) (rchG g 1000 (va_up re 0 true)) ss sc) H locs := hW
        refine lv_aload_n hx hb d_Puzzles_add_55 rfl (lv_at hl 0 rfl) ?_
        refine lv_dup hx hb d_Puzzles_add_56 rfl ?_
        refine R_get X hW i_Puzzles rfl 1 (by decide) kf_Puzzles_28 0 rfl rfl d_Puzzles_add_57 ?_
        refine lv_iconst (v := (nI 1)) hx hb d_Puzzles_add_60 (by decide +kernel) ?_
        refine N_iadd hx hb d_Puzzles_add_61 ?_
        refine R_put X hW i_Puzzles rfl t_Puzzles t_Puzzles_ok n_Puzzles 1 (by decide) kf_Puzzles_28 rfl (ty := .int) (by decide +kernel) 0 rfl (v := .int (nI (np + 1))) rfl rfl (Nat.le_of_ble_eq_true rfl) d_Puzzles_add_62 (fun H locs hW => ?_)
        have hW : Wr G A s.heap (w_Puz h cI cZ cJ (np + 1) (tot + g) (va_up gr np g) (insG (ltD (va_up gr np g)) np np fa) (rchG g 1000 (va_up re 0 true)) ss sc) H locs := hW
        refine lv_aload_n hx hb d_Puzzles_add_65 rfl (lv_at hl 0 rfl) ?_
        refine R_get X hW i_Puzzles rfl 1 (by decide) kf_Puzzles_28 0 rfl rfl d_Puzzles_add_66 ?_
        refine lv_iconst (v := (nI 1)) hx hb d_Puzzles_add_69 (by decide +kernel) ?_
        refine N_isub (r := np) hx hb (by omega) (by omega) d_Puzzles_add_70 ?_
        exact R_iret X Y hW rfl rfl d_Puzzles_add_71
      · exfalso; omega

set_option maxHeartbeats 4000000 in
set_option maxRecDepth 100000 in
theorem c_Puzzles_add_bad (l : Launch) (G : va_G) (cI cZ cJ : ClassId) (h : Nat → Nat) (np : Nat) (tot : Nat) (gr : Nat → Nat) (fa : Nat → Nat) (re : Nat → Bool) (ss : Nat → Nat) (sc : Nat → Nat) (g : Int32) (hg : ¬ (1 ≤ g.toInt ∧ g.toInt ≤ 100 ∧ np < 20)) (hn : np ≤ 20) : Ct l G (tyL cI cZ cJ) y_Puzzles_add b_Puzzles_add 2 (some .int) (rmL 1) [.ref (h 5), .int g] (w_Puz h cI cZ cJ np tot gr fa re ss sc) (some (.int (-1))) (w_Puz h cI cZ cJ np tot gr fa re ss sc) := by
  refine M_start (by decide) (Nat.le_of_ble_eq_true rfl) ?_
  intro p e s m args below meth c A Q ls X Y hW hl
  have hx := X.1.1
  have hb := X.1.2.1
  have hl : lv_has ls 2 [(0, .ref (h 5)), (1, .int g)] := hl
  refine lv_iload_n hx hb d_Puzzles_add_0 rfl (lv_at hl 1 rfl) ?_
  refine lv_iconst (v := (nI 1)) hx hb d_Puzzles_add_1 (by decide +kernel) ?_
  refine N_icmp_lt_RN hx hb (by decide) (tgt := 20) d_Puzzles_add_2 (by decide) (fun c2 => ?_) (fun c2 => ?_)
  · refine lv_iconst (v := (-1)) hx hb d_Puzzles_add_20 (by decide +kernel) ?_
    exact R_iret X Y hW rfl rfl d_Puzzles_add_21
  · refine lv_iload_n hx hb d_Puzzles_add_5 rfl (lv_at hl 1 rfl) ?_
    refine lv_bipush (v := (nI 100)) hx hb d_Puzzles_add_6 (by decide +kernel) ?_
    refine N_icmp_gt_RN hx hb (by decide) (tgt := 20) d_Puzzles_add_8 (by decide) (fun c8 => ?_) (fun c8 => ?_)
    · refine lv_iconst (v := (-1)) hx hb d_Puzzles_add_20 (by decide +kernel) ?_
      exact R_iret X Y hW rfl rfl d_Puzzles_add_21
    · refine lv_aload_n hx hb d_Puzzles_add_11 rfl (lv_at hl 0 rfl) ?_
      refine R_get X hW i_Puzzles rfl 1 (by decide) kf_Puzzles_28 0 rfl rfl d_Puzzles_add_12 ?_
      refine lv_bipush (v := (nI 20)) hx hb d_Puzzles_add_15 (by decide +kernel) ?_
      refine N_icmp_lt_NN hx hb (by omega) (by decide) (tgt := 22) d_Puzzles_add_17 (by decide) (fun c17 => ?_) (fun c17 => ?_)
      · exfalso; omega
      · refine lv_iconst (v := (-1)) hx hb d_Puzzles_add_20 (by decide +kernel) ?_
        exact R_iret X Y hW rfl rfl d_Puzzles_add_21
end
section
theorem kf_Submissions_31 : Cond.fieldLink "ContestRows$Submissions" 31 "ContestRows$Submissions" "many" "I" ∈ TBL := TBL_t (List.mem_append_left _ (List.mem_of_getElem? (i := 98) rfl)) rfl
set_option maxHeartbeats 4000000 in
set_option maxRecDepth 100000 in
theorem c_Submissions_has (l : Launch) (G : va_G) (cI cZ cJ : ClassId) (h : Nat → Nat) (ns : Nat) (sp : Nat → Nat) (sq : Nat → Nat) (sec : Nat → Nat) (rt : Nat → Bool) (it : Nat → Nat) (ans : Nat → Nat) (x : Int32) (hn : ns ≤ 300) : Ct l G (tyL cI cZ cJ) y_Submissions_has b_Submissions_has 2 (some .boolean) (rmL 0) [.ref (h 16), .int x] (w_Sub h cI cZ cJ ns sp sq sec rt it ans) (some (.int (bI (inB x ns)))) (w_Sub h cI cZ cJ ns sp sq sec rt it ans) := by
  refine M_start (by decide) (Nat.le_of_ble_eq_true rfl) ?_
  intro p e s m args below meth c A Q ls X Y hW hl
  have hx := X.1.1
  have hb := X.1.2.1
  have hl : lv_has ls 2 [(0, .ref (h 16)), (1, .int x)] := hl
  refine lv_iload_n hx hb d_Submissions_has_0 rfl (lv_at hl 1 rfl) ?_
  refine N_if_lt_R hx hb  (tgt := 16) d_Submissions_has_1 (by decide) (fun c1 => ?_) (fun c1 => ?_)
  · refine lv_iconst (v := (nI 0)) hx hb d_Submissions_has_16 (by decide +kernel) ?_
    exact R_zret X Y hW rfl false (by decide +kernel) (by rw [inB_f (by omega)]) d_Submissions_has_17
  · refine lv_iload_n hx hb d_Submissions_has_4 rfl (lv_at hl 1 rfl) ?_
    refine lv_aload_n hx hb d_Submissions_has_5 rfl (lv_at hl 0 rfl) ?_
    refine R_get X hW i_Submissions rfl 5 (by decide) kf_Submissions_31 0 rfl rfl d_Submissions_has_6 ?_
    refine N_icmp_ge_RN hx hb (by omega) (tgt := 16) d_Submissions_has_9 (by decide) (fun c9 => ?_) (fun c9 => ?_)
    · refine lv_iconst (v := (nI 0)) hx hb d_Submissions_has_16 (by decide +kernel) ?_
      exact R_zret X Y hW rfl false (by decide +kernel) (by rw [inB_f (by omega)]) d_Submissions_has_17
    · refine lv_iconst (v := (nI 1)) hx hb d_Submissions_has_12 (by decide +kernel) ?_
      refine lv_goto (tgt := 17) hx hb d_Submissions_has_13 (by decide) ?_
      exact R_zret X Y hW rfl true (by decide +kernel) (by rw [inB_t (by omega)]) d_Submissions_has_17

theorem kf_Submissions_25 : Cond.fieldLink "ContestRows$Submissions" 25 "ContestRows$Submissions" "inTime" "[I" ∈ TBL := TBL_t (List.mem_append_left _ (List.mem_of_getElem? (i := 96) rfl)) rfl
theorem kf_Submissions_18 : Cond.fieldLink "ContestRows$Submissions" 18 "ContestRows$Submissions" "seconds" "[I" ∈ TBL := TBL_t (List.mem_append_left _ (List.mem_of_getElem? (i := 92) rfl)) rfl
set_option maxHeartbeats 4000000 in
set_option maxRecDepth 100000 in
theorem c_Submissions_putInTime (l : Launch) (G : va_G) (cI cZ cJ : ClassId) (h : Nat → Nat) (ns : Nat) (sp : Nat → Nat) (sq : Nat → Nat) (sec : Nat → Nat) (rt : Nat → Bool) (it : Nat → Nat) (ans : Nat → Nat) (v : Nat) (hv : v < 300) (hit : ∀ i, i < v → it i < 300) (hse : ∀ i, i < 300 → sec i < 2 ^ 31) : Ct l G (tyL cI cZ cJ) y_Submissions_putInTime b_Submissions_putInTime 3 none (rmL 0) [.ref (h 16), .int (nI v)] (w_Sub h cI cZ cJ ns sp sq sec rt it ans) none (w_Sub h cI cZ cJ ns sp sq sec rt (insG (ltT sec) v v it) ans) := by
  refine M_start (by decide) (Nat.le_of_ble_eq_true rfl) ?_
  intro p e s m args below meth c A Q ls X Y hW hl
  have hx := X.1.1
  have hb := X.1.2.1
  have hl : lv_has ls 3 [(0, .ref (h 16)), (1, .int (nI v))] := hl
  refine lv_iload_n hx hb d_Submissions_putInTime_0 rfl (lv_at hl 1 rfl) ?_
  refine lv_istore_n (lv' := [(2, .int (nI v)), (0, .ref (h 16)), (1, .int (nI v))]) hx hb d_Submissions_putInTime_1 rfl hl (by decide) rfl (fun ls hl => ?_)
  have L2 : ∀ (k : Nat) (f : Nat → Nat) (hk : k ≤ v) (hf : ∀ i, i < k → f i < 300) (he : insG (ltT sec) v k f = insG (ltT sec) v v it) (H : Heap) (locs : List Loc) (hW : Wr G A s.heap (w_Sub h cI cZ cJ ns sp sq sec rt f ans) H locs) (ls : Array Slot) (hl : lv_has ls 3 [(0, .ref (h 16)), (1, .int (nI v)), (2, .int (nI k))]), W p l e (rmL 0) s m args below meth c H locs 0 0 Q (F0 m 2 ls []) := by
    intro k
    induction k with
    | zero =>
      intro f hk hf he H locs hW ls hl
      refine lv_iload_n hx hb d_Submissions_putInTime_2 rfl (lv_at hl 2 rfl) ?_
      refine N_if_le_N hx hb (by omega) (tgt := 48) d_Submissions_putInTime_3 (by decide) (fun c3 => ?_) (fun c3 => ?_)
      · refine lv_aload_n hx hb d_Submissions_putInTime_48 rfl (lv_at hl 0 rfl) ?_
        refine R_get X hW i_Submissions rfl 4 (by decide) kf_Submissions_25 0 rfl rfl d_Submissions_putInTime_49 ?_
        refine lv_iload_n hx hb d_Submissions_putInTime_52 rfl (lv_at hl 2 rfl) ?_
        refine lv_iload_n hx hb d_Submissions_putInTime_53 rfl (lv_at hl 1 rfl) ?_
        refine R_iast X hW (t0 := 0) rfl 5 rfl (k := 0) (by omega) (by decide) v rfl d_Submissions_putInTime_54 (fun H locs hW => ?_)
        have hW : Wr G A s.heap (w_Sub h cI cZ cJ ns sp sq sec rt (va_up f 0 v) ans) H locs := hW
        exact R_vret X Y hW (by rw [← he]; rfl) rfl d_Submissions_putInTime_55
      · exfalso; omega
    | succ k ih2 =>
      intro f hk hf he H locs hW ls hl
      refine lv_iload_n hx hb d_Submissions_putInTime_2 rfl (lv_at hl 2 rfl) ?_
      refine N_if_le_N hx hb (by omega) (tgt := 48) d_Submissions_putInTime_3 (by decide) (fun c3 => ?_) (fun c3 => ?_)
      · exfalso; omega
      · have q1 := hf k (by omega)
        have q2 := hse (f k) q1
        have q3 := hse v hv
        refine lv_aload_n hx hb d_Submissions_putInTime_6 rfl (lv_at hl 0 rfl) ?_
        refine R_get X hW i_Submissions rfl 2 (by decide) kf_Submissions_18 0 rfl rfl d_Submissions_putInTime_7 ?_
        refine lv_aload_n hx hb d_Submissions_putInTime_10 rfl (lv_at hl 0 rfl) ?_
        refine R_get X hW i_Submissions rfl 4 (by decide) kf_Submissions_25 0 rfl rfl d_Submissions_putInTime_11 ?_
        refine lv_iload_n hx hb d_Submissions_putInTime_14 rfl (lv_at hl 2 rfl) ?_
        refine lv_iconst (v := (nI 1)) hx hb d_Submissions_putInTime_15 (by decide +kernel) ?_
        refine N_isub (r := k) hx hb (by omega) (by omega) d_Submissions_putInTime_16 ?_
        refine R_iald X hW (t0 := 0) rfl 5 rfl (k := k) (by omega) (by decide) d_Submissions_putInTime_17 ?_
        refine R_iald X hW (t0 := 0) rfl 3 rfl (k := (f k)) (by omega) (by decide) d_Submissions_putInTime_18 ?_
        refine lv_aload_n hx hb d_Submissions_putInTime_19 rfl (lv_at hl 0 rfl) ?_
        refine R_get X hW i_Submissions rfl 2 (by decide) kf_Submissions_18 0 rfl rfl d_Submissions_putInTime_20 ?_
        refine lv_iload_n hx hb d_Submissions_putInTime_23 rfl (lv_at hl 1 rfl) ?_
        refine R_iald X hW (t0 := 0) rfl 3 rfl (k := v) (by omega) (by decide) d_Submissions_putInTime_24 ?_
        refine N_icmp_le_NN hx hb (by omega) (by omega) (tgt := 48) d_Submissions_putInTime_25 (by decide) (fun c25 => ?_) (fun c25 => ?_)
        · refine lv_aload_n hx hb d_Submissions_putInTime_48 rfl (lv_at hl 0 rfl) ?_
          refine R_get X hW i_Submissions rfl 4 (by decide) kf_Submissions_25 0 rfl rfl d_Submissions_putInTime_49 ?_
          refine lv_iload_n hx hb d_Submissions_putInTime_52 rfl (lv_at hl 2 rfl) ?_
          refine lv_iload_n hx hb d_Submissions_putInTime_53 rfl (lv_at hl 1 rfl) ?_
          refine R_iast X hW (t0 := 0) rfl 5 rfl (k := (k + 1)) (by omega) (by decide) v rfl d_Submissions_putInTime_54 (fun H locs hW => ?_)
          have hW : Wr G A s.heap (w_Sub h cI cZ cJ ns sp sq sec rt (va_up f (k + 1) v) ans) H locs := hW
          exact R_vret X Y hW (by rw [← he, insG, if_neg (by simp [ltT]; omega)]) rfl d_Submissions_putInTime_55
        · refine lv_aload_n hx hb d_Submissions_putInTime_28 rfl (lv_at hl 0 rfl) ?_
          refine R_get X hW i_Submissions rfl 4 (by decide) kf_Submissions_25 0 rfl rfl d_Submissions_putInTime_29 ?_
          refine lv_iload_n hx hb d_Submissions_putInTime_32 rfl (lv_at hl 2 rfl) ?_
          refine lv_aload_n hx hb d_Submissions_putInTime_33 rfl (lv_at hl 0 rfl) ?_
          refine R_get X hW i_Submissions rfl 4 (by decide) kf_Submissions_25 0 rfl rfl d_Submissions_putInTime_34 ?_
          refine lv_iload_n hx hb d_Submissions_putInTime_37 rfl (lv_at hl 2 rfl) ?_
          refine lv_iconst (v := (nI 1)) hx hb d_Submissions_putInTime_38 (by decide +kernel) ?_
          refine N_isub (r := k) hx hb (by omega) (by omega) d_Submissions_putInTime_39 ?_
          refine R_iald X hW (t0 := 0) rfl 5 rfl (k := k) (by omega) (by decide) d_Submissions_putInTime_40 ?_
          refine R_iast X hW (t0 := 0) rfl 5 rfl (k := (k + 1)) (by omega) (by decide) (f k) rfl d_Submissions_putInTime_41 (fun H locs hW => ?_)
          have hW : Wr G A s.heap (w_Sub h cI cZ cJ ns sp sq sec rt (va_up f (k + 1) (f k)) ans) H locs := hW
          refine lv_iinc (v := (nI k)) (lv' := [(2, .int (nI k)), (0, .ref (h 16)), (1, .int (nI v))]) hx hb d_Submissions_putInTime_42 hl (k := 2) rfl (N_dec (r := k) (by omega) (by omega)) (by decide) rfl (fun ls hl => ?_)
          refine lv_goto (tgt := 2) hx hb d_Submissions_putInTime_45 (by decide) ?_
          exact ih2 (va_up f (k + 1) (f k)) (by omega) (fun i hi => by rw [va_up_ne _ _ (by omega)]; exact hf i (by omega)) (by rw [← he, insG, if_pos (show ltT sec (f k) v = true from decide_eq_true c25)]) _ _ hW ls (lv_sub hl [1, 2, 0] rfl)
  exact L2 v it (Nat.le_refl v) hit rfl _ _ hW ls (lv_sub hl [1, 2, 0] rfl)

theorem kf_Submissions_9 : Cond.fieldLink "ContestRows$Submissions" 9 "ContestRows$Submissions" "persons" "[I" ∈ TBL := TBL_t (List.mem_append_left _ (List.mem_of_getElem? (i := 88) rfl)) rfl
set_option maxHeartbeats 4000000 in
set_option maxRecDepth 100000 in
theorem c_Submissions_anyEarlier (l : Launch) (G : va_G) (cI cZ cJ : ClassId) (h : Nat → Nat) (ns : Nat) (sp : Nat → Nat) (sq : Nat → Nat) (sec : Nat → Nat) (rt : Nat → Bool) (it : Nat → Nat) (ans : Nat → Nat) (x : Nat) (y : Nat) (hx0 : x < 2 ^ 31) (hy0 : y < 2 ^ 31) (hns : ns ≤ 300) (hsp : ∀ i, i < 300 → sp i < 2 ^ 31) (hse : ∀ i, i < 300 → sec i < 2 ^ 31) : Ct l G (tyL cI cZ cJ) y_Submissions_anyEarlier b_Submissions_anyEarlier 4 (some .boolean) (rmL 0) [.ref (h 16), .int (nI x), .int (nI y)] (w_Sub h cI cZ cJ ns sp sq sec rt it ans) (some (.int (bI (anyG (fun i => decide (sp i = x ∧ sec i < y)) ns 0)))) (w_Sub h cI cZ cJ ns sp sq sec rt it ans) := by
  refine M_start (by decide) (Nat.le_of_ble_eq_true rfl) ?_
  intro p e s m args below meth c A Q ls X Y hW hl
  have hx := X.1.1
  have hb := X.1.2.1
  have hl : lv_has ls 4 [(0, .ref (h 16)), (1, .int (nI x)), (2, .int (nI y))] := hl
  refine lv_iconst (v := (nI 0)) hx hb d_Submissions_anyEarlier_0 (by decide +kernel) ?_
  refine lv_istore_n (lv' := [(3, .int (nI 0)), (0, .ref (h 16)), (1, .int (nI x)), (2, .int (nI y))]) hx hb d_Submissions_anyEarlier_1 rfl hl (by decide) rfl (fun ls hl => ?_)
  have L2 : ∀ (n : Nat) (i : Nat) (hi : i + n = ns) (he : anyG (fun i => decide (sp i = x ∧ sec i < y)) n i = anyG (fun i => decide (sp i = x ∧ sec i < y)) ns 0) (H : Heap) (locs : List Loc) (hW : Wr G A s.heap (w_Sub h cI cZ cJ ns sp sq sec rt it ans) H locs) (ls : Array Slot) (hl : lv_has ls 4 [(0, .ref (h 16)), (1, .int (nI x)), (2, .int (nI y)), (3, .int (nI i))]), W p l e (rmL 0) s m args below meth c H locs 0 0 Q (F0 m 2 ls []) := by
    intro n
    induction n with
    | zero =>
      intro i hi he H locs hW ls hl
      refine lv_iload_n hx hb d_Submissions_anyEarlier_2 rfl (lv_at hl 3 rfl) ?_
      refine lv_aload_n hx hb d_Submissions_anyEarlier_3 rfl (lv_at hl 0 rfl) ?_
      refine R_get X hW i_Submissions rfl 5 (by decide) kf_Submissions_31 0 rfl rfl d_Submissions_anyEarlier_4 ?_
      refine N_icmp_ge_NN hx hb (by omega) (by omega) (tgt := 38) d_Submissions_anyEarlier_7 (by decide) (fun c7 => ?_) (fun c7 => ?_)
      · refine lv_iconst (v := (nI 0)) hx hb d_Submissions_anyEarlier_38 (by decide +kernel) ?_
        exact R_zret X Y hW rfl false (by decide +kernel) (by rw [← he]; rfl) d_Submissions_anyEarlier_39
      · exfalso; omega
    | succ n ih2 =>
      intro i hi he H locs hW ls hl
      refine lv_iload_n hx hb d_Submissions_anyEarlier_2 rfl (lv_at hl 3 rfl) ?_
      refine lv_aload_n hx hb d_Submissions_anyEarlier_3 rfl (lv_at hl 0 rfl) ?_
      refine R_get X hW i_Submissions rfl 5 (by decide) kf_Submissions_31 0 rfl rfl d_Submissions_anyEarlier_4 ?_
      refine N_icmp_ge_NN hx hb (by omega) (by omega) (tgt := 38) d_Submissions_anyEarlier_7 (by decide) (fun c7 => ?_) (fun c7 => ?_)
      · exfalso; omega
      · have q1 := hsp i (by omega)
        have q2 := hse i (by omega)
        refine lv_aload_n hx hb d_Submissions_anyEarlier_10 rfl (lv_at hl 0 rfl) ?_
        refine R_get X hW i_Submissions rfl 0 (by decide) kf_Submissions_9 0 rfl rfl d_Submissions_anyEarlier_11 ?_
        refine lv_iload_n hx hb d_Submissions_anyEarlier_14 rfl (lv_at hl 3 rfl) ?_
        refine R_iald X hW (t0 := 0) rfl 1 rfl (k := i) (by omega) (by decide) d_Submissions_anyEarlier_15 ?_
        refine lv_iload_n hx hb d_Submissions_anyEarlier_16 rfl (lv_at hl 1 rfl) ?_
        refine N_icmp_ne_NN hx hb (by omega) (by omega) (tgt := 32) d_Submissions_anyEarlier_17 (by decide) (fun c17 => ?_) (fun c17 => ?_)
        · refine lv_iinc (v := (nI (i + 1))) (lv' := [(3, .int (nI (i + 1))), (0, .ref (h 16)), (1, .int (nI x)), (2, .int (nI y))]) hx hb d_Submissions_anyEarlier_32 hl (k := 3) rfl (N_inc i) (by decide) rfl (fun ls hl => ?_)
          refine lv_goto (tgt := 2) hx hb d_Submissions_anyEarlier_35 (by decide) ?_
          exact ih2 (i + 1) (by omega) (by rw [← he, anyG, if_neg (by simp; omega)]) _ _ hW ls (lv_sub hl [1, 2, 3, 0] rfl)
        · refine lv_aload_n hx hb d_Submissions_anyEarlier_20 rfl (lv_at hl 0 rfl) ?_
          refine R_get X hW i_Submissions rfl 2 (by decide) kf_Submissions_18 0 rfl rfl d_Submissions_anyEarlier_21 ?_
          refine lv_iload_n hx hb d_Submissions_anyEarlier_24 rfl (lv_at hl 3 rfl) ?_
          refine R_iald X hW (t0 := 0) rfl 3 rfl (k := i) (by omega) (by decide) d_Submissions_anyEarlier_25 ?_
          refine lv_iload_n hx hb d_Submissions_anyEarlier_26 rfl (lv_at hl 2 rfl) ?_
          refine N_icmp_ge_NN hx hb (by omega) (by omega) (tgt := 32) d_Submissions_anyEarlier_27 (by decide) (fun c27 => ?_) (fun c27 => ?_)
          · refine lv_iinc (v := (nI (i + 1))) (lv' := [(3, .int (nI (i + 1))), (0, .ref (h 16)), (1, .int (nI x)), (2, .int (nI y))]) hx hb d_Submissions_anyEarlier_32 hl (k := 3) rfl (N_inc i) (by decide) rfl (fun ls hl => ?_)
            refine lv_goto (tgt := 2) hx hb d_Submissions_anyEarlier_35 (by decide) ?_
            exact ih2 (i + 1) (by omega) (by rw [← he, anyG, if_neg (by simp; omega)]) _ _ hW ls (lv_sub hl [1, 2, 3, 0] rfl)
          · refine lv_iconst (v := (nI 1)) hx hb d_Submissions_anyEarlier_30 (by decide +kernel) ?_
            exact R_zret X Y hW rfl true (by decide +kernel) (by rw [← he, anyG, if_pos (by simp; omega)]) d_Submissions_anyEarlier_31
  exact L2 ns 0 (by omega) rfl _ _ hW ls (lv_sub hl [1, 2, 3, 0] rfl)

theorem kf_Submissions_21 : Cond.fieldLink "ContestRows$Submissions" 21 "ContestRows$Submissions" "rights" "[Z" ∈ TBL := TBL_t (List.mem_append_left _ (List.mem_of_getElem? (i := 94) rfl)) rfl
theorem kf_Submissions_15 : Cond.fieldLink "ContestRows$Submissions" 15 "ContestRows$Submissions" "puzzles" "[I" ∈ TBL := TBL_t (List.mem_append_left _ (List.mem_of_getElem? (i := 90) rfl)) rfl
theorem kf_Submissions_28 : Cond.fieldLink "ContestRows$Submissions" 28 "ContestRows$Submissions" "answers" "[I" ∈ TBL := TBL_t (List.mem_append_left _ (List.mem_of_getElem? (i := 100) rfl)) rfl
set_option maxHeartbeats 4000000 in
set_option maxRecDepth 100000 in
theorem c_Submissions_isTwin (l : Launch) (G : va_G) (cI cZ cJ : ClassId) (h : Nat → Nat) (ns : Nat) (sp : Nat → Nat) (sq : Nat → Nat) (sec : Nat → Nat) (rt : Nat → Bool) (it : Nat → Nat) (ans : Nat → Nat) (a : Nat) (b : Nat) (ha : a < 300) (hb0 : b < 300) (hsq : ∀ i, i < 300 → sq i < 2 ^ 31) (han : ∀ i, i < 300 → ans i < 2 ^ 31) : Ct l G (tyL cI cZ cJ) y_Submissions_isTwin b_Submissions_isTwin 3 (some .boolean) (rmL 0) [.ref (h 16), .int (nI a), .int (nI b)] (w_Sub h cI cZ cJ ns sp sq sec rt it ans) (some (.int (bI (twn sq ans rt a b)))) (w_Sub h cI cZ cJ ns sp sq sec rt it ans) := by
  refine M_start (by decide) (Nat.le_of_ble_eq_true rfl) ?_
  intro p e s m args below meth c A Q ls X Y hW hl
  have hx := X.1.1
  have hb := X.1.2.1
  have hl : lv_has ls 3 [(0, .ref (h 16)), (1, .int (nI a)), (2, .int (nI b))] := hl
  have q1 := hsq a ha
  have q2 := hsq b hb0
  have q3 := han a ha
  have q4 := han b hb0
  refine lv_aload_n hx hb d_Submissions_isTwin_0 rfl (lv_at hl 0 rfl) ?_
  refine R_get X hW i_Submissions rfl 3 (by decide) kf_Submissions_21 0 rfl rfl d_Submissions_isTwin_1 ?_
  refine lv_iload_n hx hb d_Submissions_isTwin_4 rfl (lv_at hl 2 rfl) ?_
  refine R_zald X hW (t0 := 1) rfl 4 rfl (k := b) (by omega) (by decide) d_Submissions_isTwin_5 ?_
  refine N_if_ne_B hx hb  (tgt := 43) d_Submissions_isTwin_6 (by decide) (fun c6 => ?_) (fun c6 => ?_)
  · refine lv_iconst (v := (nI 0)) hx hb d_Submissions_isTwin_43 (by decide +kernel) ?_
    exact R_zret X Y hW rfl false (by decide +kernel) (by rw [twn, decide_eq_false (by simp [c6])]) d_Submissions_isTwin_44
  · refine lv_aload_n hx hb d_Submissions_isTwin_9 rfl (lv_at hl 0 rfl) ?_
    refine R_get X hW i_Submissions rfl 1 (by decide) kf_Submissions_15 0 rfl rfl d_Submissions_isTwin_10 ?_
    refine lv_iload_n hx hb d_Submissions_isTwin_13 rfl (lv_at hl 2 rfl) ?_
    refine R_iald X hW (t0 := 0) rfl 2 rfl (k := b) (by omega) (by decide) d_Submissions_isTwin_14 ?_
    refine lv_aload_n hx hb d_Submissions_isTwin_15 rfl (lv_at hl 0 rfl) ?_
    refine R_get X hW i_Submissions rfl 1 (by decide) kf_Submissions_15 0 rfl rfl d_Submissions_isTwin_16 ?_
    refine lv_iload_n hx hb d_Submissions_isTwin_19 rfl (lv_at hl 1 rfl) ?_
    refine R_iald X hW (t0 := 0) rfl 2 rfl (k := a) (by omega) (by decide) d_Submissions_isTwin_20 ?_
    refine N_icmp_ne_NN hx hb (by omega) (by omega) (tgt := 43) d_Submissions_isTwin_21 (by decide) (fun c21 => ?_) (fun c21 => ?_)
    · refine lv_iconst (v := (nI 0)) hx hb d_Submissions_isTwin_43 (by decide +kernel) ?_
      exact R_zret X Y hW rfl false (by decide +kernel) (by rw [twn, decide_eq_false (by omega)]) d_Submissions_isTwin_44
    · refine lv_aload_n hx hb d_Submissions_isTwin_24 rfl (lv_at hl 0 rfl) ?_
      refine R_get X hW i_Submissions rfl 6 (by decide) kf_Submissions_28 0 rfl rfl d_Submissions_isTwin_25 ?_
      refine lv_iload_n hx hb d_Submissions_isTwin_28 rfl (lv_at hl 2 rfl) ?_
      refine R_iald X hW (t0 := 0) rfl 6 rfl (k := b) (by omega) (by decide) d_Submissions_isTwin_29 ?_
      refine lv_aload_n hx hb d_Submissions_isTwin_30 rfl (lv_at hl 0 rfl) ?_
      refine R_get X hW i_Submissions rfl 6 (by decide) kf_Submissions_28 0 rfl rfl d_Submissions_isTwin_31 ?_
      refine lv_iload_n hx hb d_Submissions_isTwin_34 rfl (lv_at hl 1 rfl) ?_
      refine R_iald X hW (t0 := 0) rfl 6 rfl (k := a) (by omega) (by decide) d_Submissions_isTwin_35 ?_
      refine N_icmp_ne_NN hx hb (by omega) (by omega) (tgt := 43) d_Submissions_isTwin_36 (by decide) (fun c36 => ?_) (fun c36 => ?_)
      · refine lv_iconst (v := (nI 0)) hx hb d_Submissions_isTwin_43 (by decide +kernel) ?_
        exact R_zret X Y hW rfl false (by decide +kernel) (by rw [twn, decide_eq_false (by omega)]) d_Submissions_isTwin_44
      · refine lv_iconst (v := (nI 1)) hx hb d_Submissions_isTwin_39 (by decide +kernel) ?_
        refine lv_goto (tgt := 44) hx hb d_Submissions_isTwin_40 (by decide) ?_
        exact R_zret X Y hW rfl true (by decide +kernel) (by rw [twn, decide_eq_true ⟨c6, c21, c36⟩]) d_Submissions_isTwin_44

theorem km_Submissions_43 : Cond.methodLink "ContestRows$Submissions" 43 Lib.Math.abs.name ∈ TBL := TBL_t (List.mem_append_right _ (List.mem_append_left _ (List.mem_of_getElem? (i := 223) rfl))) rfl
theorem kt_abs : Cond.static Lib.Math.abs.name ∈ TBL := TBL_t (List.mem_append_right _ (List.mem_append_left _ (List.mem_of_getElem? (i := 224) rfl))) rfl
theorem kn_Math : Cond.initialized "java/lang/Math" ∈ TBL := TBL_t (List.mem_append_left _ (List.mem_of_getElem? (i := 11) rfl)) rfl
theorem kb_abs : Cond.code Lib.Math.abs.name Lib.Math.abs.code 1 (some .int) ∈ TBL := TBL_t (List.mem_append_right _ (List.mem_append_left _ (List.mem_of_getElem? (i := 225) rfl))) rfl
set_option maxHeartbeats 4000000 in
set_option maxRecDepth 100000 in
theorem c_Submissions_secondsBetween (l : Launch) (G : va_G) (cI cZ cJ : ClassId) (h : Nat → Nat) (ns : Nat) (sp : Nat → Nat) (sq : Nat → Nat) (sec : Nat → Nat) (rt : Nat → Bool) (it : Nat → Nat) (ans : Nat → Nat) (a : Nat) (b : Nat) (ha : a < 300) (hb0 : b < 300) (hse : ∀ i, i < 300 → sec i ≤ 1000000) : Ct l G (tyL cI cZ cJ) y_Submissions_secondsBetween b_Submissions_secondsBetween 3 (some .int) (rmL 1) [.ref (h 16), .int (nI a), .int (nI b)] (w_Sub h cI cZ cJ ns sp sq sec rt it ans) (some (.int (nI (dst (sec a) (sec b))))) (w_Sub h cI cZ cJ ns sp sq sec rt it ans) := by
  refine M_start (by decide) (Nat.le_of_ble_eq_true rfl) ?_
  intro p e s m args below meth c A Q ls X Y hW hl
  have hx := X.1.1
  have hb := X.1.2.1
  have hl : lv_has ls 3 [(0, .ref (h 16)), (1, .int (nI a)), (2, .int (nI b))] := hl
  refine lv_aload_n hx hb d_Submissions_secondsBetween_0 rfl (lv_at hl 0 rfl) ?_
  refine R_get X hW i_Submissions rfl 2 (by decide) kf_Submissions_18 0 rfl rfl d_Submissions_secondsBetween_1 ?_
  refine lv_iload_n hx hb d_Submissions_secondsBetween_4 rfl (lv_at hl 1 rfl) ?_
  refine R_iald X hW (t0 := 0) rfl 3 rfl (k := a) (by omega) (by decide) d_Submissions_secondsBetween_5 ?_
  refine lv_aload_n hx hb d_Submissions_secondsBetween_6 rfl (lv_at hl 0 rfl) ?_
  refine R_get X hW i_Submissions rfl 2 (by decide) kf_Submissions_18 0 rfl rfl d_Submissions_secondsBetween_7 ?_
  refine lv_iload_n hx hb d_Submissions_secondsBetween_10 rfl (lv_at hl 2 rfl) ?_
  refine R_iald X hW (t0 := 0) rfl 3 rfl (k := b) (by omega) (by decide) d_Submissions_secondsBetween_11 ?_
  refine lv_isub hx hb d_Submissions_secondsBetween_12 ?_
  refine va_mabs hx hb (X.1.2.2.1.trans hl.1.symm) X.1.2.2.2.1 (X.1.2.2.2.2 _ km_Submissions_43) (X.1.2.2.2.2 _ kt_abs) (X.1.2.2.2.2 _ kn_Math) (X.1.2.2.2.2 _ kb_abs) (by decide) (by decide) (Nat.zero_le _) (Nat.zero_le _) d_Submissions_secondsBetween_13 ?_
  exact R_iret X Y hW rfl (by rw [absN (hse a ha) (hse b hb0)]) d_Submissions_secondsBetween_16

theorem kb_Submissions_isTwin : Cond.code y_Submissions_isTwin b_Submissions_isTwin 3 (some .boolean) ∈ TBL := TBL_t (List.mem_append_right _ (List.mem_append_left _ (List.mem_of_getElem? (i := 218) rfl))) rfl
theorem kn_Submissions : Cond.initialized "ContestRows$Submissions" ∈ TBL := TBL_t (List.mem_append_left _ (List.mem_of_getElem? (i := 4) rfl)) rfl
theorem km_Submissions_39 : Cond.methodLink "ContestRows$Submissions" 39 y_Submissions_isTwin ∈ TBL := TBL_t (List.mem_append_right _ (List.mem_append_left _ (List.mem_of_getElem? (i := 215) rfl))) rfl
theorem cw_Submissions_39 : Cw "ContestRows$Submissions" 39 y_Submissions_isTwin b_Submissions_isTwin 3 (some .boolean) 2 := ⟨kb_Submissions_isTwin, kn_Submissions, km_Submissions_39, by decide +kernel⟩
theorem ki_Submissions_isTwin : Cond.instanceMethod y_Submissions_isTwin ∈ TBL := TBL_t (List.mem_append_right _ (List.mem_append_left _ (List.mem_of_getElem? (i := 217) rfl))) rfl
theorem ks_Submissions_isTwin : Cond.selects "ContestRows$Submissions" y_Submissions_isTwin y_Submissions_isTwin ∈ TBL := TBL_in (List.mem_append_left _ (List.mem_map.mpr ⟨(y_Submissions_isTwin, 7), by decide +kernel, rfl⟩)) rfl
set_option maxHeartbeats 4000000 in
set_option maxRecDepth 100000 in
theorem c_Submissions_findTwins (l : Launch) (G : va_G) (cI cZ cJ : ClassId) (h : Nat → Nat) (tw : Nat → Option Nat) (ns : Nat) (sp : Nat → Nat) (sq : Nat → Nat) (sec : Nat → Nat) (rt : Nat → Bool) (it : Nat → Nat) (ans : Nat → Nat) (a : Nat) (ha : a < 300) (hns : ns ≤ 300) (hsp : ∀ i, i < ns → sp i < 20) (hsq : ∀ i, i < 300 → sq i < 2 ^ 31) (han : ∀ i, i < 300 → ans i < 2 ^ 31) : Ct l G (tyL cI cZ cJ) y_Submissions_findTwins b_Submissions_findTwins 4 none (rmL 1) [.ref (h 16), .int (nI a), .ref (h 4)] (w_SubT h cI cZ cJ tw ns sp sq sec rt it ans) none (w_SubT h cI cZ cJ (twG sp sq ans rt a ns 0 (upK none 20 tw)) ns sp sq sec rt it ans) := by
  refine M_start (by decide) (Nat.le_of_ble_eq_true rfl) ?_
  intro p e s m args below meth c A Q ls X Y hW hl
  have hx := X.1.1
  have hb := X.1.2.1
  have hl : lv_has ls 4 [(0, .ref (h 16)), (1, .int (nI a)), (2, .ref (h 4))] := hl
  refine lv_iconst (v := (nI 0)) hx hb d_Submissions_findTwins_0 (by decide +kernel) ?_
  refine lv_istore_n (lv' := [(3, .int (nI 0)), (0, .ref (h 16)), (1, .int (nI a)), (2, .ref (h 4))]) hx hb d_Submissions_findTwins_1 rfl hl (by decide) rfl (fun ls hl => ?_)
  have L2 : ∀ (n : Nat) (i : Nat) (hi : i + n = 20) (H : Heap) (locs : List Loc) (hW : Wr G A s.heap (w_SubT h cI cZ cJ (upK none i tw) ns sp sq sec rt it ans) H locs) (ls : Array Slot) (hl : lv_has ls 4 [(0, .ref (h 16)), (1, .int (nI a)), (2, .ref (h 4)), (3, .int (nI i))]), W p l e (rmL 1) s m args below meth c H locs 0 0 Q (F0 m 2 ls []) := by
    intro n
    induction n with
    | zero =>
      intro i hi H locs hW ls hl
      refine lv_iload_n hx hb d_Submissions_findTwins_2 rfl (lv_at hl 3 rfl) ?_
      refine lv_bipush (v := (nI 20)) hx hb d_Submissions_findTwins_3 (by decide +kernel) ?_
      refine N_icmp_ge_NN hx hb (by omega) (by decide) (tgt := 18) d_Submissions_findTwins_5 (by decide) (fun c5 => ?_) (fun c5 => ?_)
      · have e9 : 20 = i := by omega
        subst e9
        refine lv_iconst (v := (nI 0)) hx hb d_Submissions_findTwins_18 (by decide +kernel) ?_
        refine lv_istore_n (lv' := [(3, .int (nI 0)), (0, .ref (h 16)), (1, .int (nI a)), (2, .ref (h 4))]) hx hb d_Submissions_findTwins_19 rfl hl (by decide) rfl (fun ls hl => ?_)
        have L20 : ∀ (n2 : Nat) (j : Nat) (f : Nat → Option Nat) (hj : j + n2 = ns) (hf : ∀ x z, x < 20 → f x = some z → z < j) (he : twG sp sq ans rt a n2 j f = twG sp sq ans rt a ns 0 (upK none 20 tw)) (H : Heap) (locs : List Loc) (hW : Wr G A s.heap (w_SubT h cI cZ cJ f ns sp sq sec rt it ans) H locs) (ls : Array Slot) (hl : lv_has ls 4 [(0, .ref (h 16)), (1, .int (nI a)), (2, .ref (h 4)), (3, .int (nI j))]), W p l e (rmL 1) s m args below meth c H locs 0 0 Q (F0 m 20 ls []) := by
          intro n2
          induction n2 with
          | zero =>
            intro j f hj hf he H locs hW ls hl
            refine lv_iload_n hx hb d_Submissions_findTwins_20 rfl (lv_at hl 3 rfl) ?_
            refine lv_aload_n hx hb d_Submissions_findTwins_21 rfl (lv_at hl 0 rfl) ?_
            refine R_get X hW i_Submissions rfl 5 (by decide) kf_Submissions_31 1 rfl rfl d_Submissions_findTwins_22 ?_
            refine N_icmp_ge_NN hx hb (by omega) (by omega) (tgt := 64) d_Submissions_findTwins_25 (by decide) (fun c25 => ?_) (fun c25 => ?_)
            · exact R_vret X Y hW (by rw [← he]; rfl) rfl d_Submissions_findTwins_64
            · exfalso; omega
          | succ n2 ih20 =>
            intro j f hj hf he H locs hW ls hl
            refine lv_iload_n hx hb d_Submissions_findTwins_20 rfl (lv_at hl 3 rfl) ?_
            refine lv_aload_n hx hb d_Submissions_findTwins_21 rfl (lv_at hl 0 rfl) ?_
            refine R_get X hW i_Submissions rfl 5 (by decide) kf_Submissions_31 1 rfl rfl d_Submissions_findTwins_22 ?_
            refine N_icmp_ge_NN hx hb (by omega) (by omega) (tgt := 64) d_Submissions_findTwins_25 (by decide) (fun c25 => ?_) (fun c25 => ?_)
            · exfalso; omega
            · have q1 := hsp j (by omega)
              refine lv_aload_n hx hb d_Submissions_findTwins_28 rfl (lv_at hl 2 rfl) ?_
              refine lv_aload_n hx hb d_Submissions_findTwins_29 rfl (lv_at hl 0 rfl) ?_
              refine R_get X hW i_Submissions rfl 0 (by decide) kf_Submissions_9 1 rfl rfl d_Submissions_findTwins_30 ?_
              refine lv_iload_n hx hb d_Submissions_findTwins_33 rfl (lv_at hl 3 rfl) ?_
              refine R_iald X hW (t0 := 0) rfl 2 rfl (k := j) (by omega) (by decide) d_Submissions_findTwins_34 ?_
              refine R_iald X hW (t0 := 0) rfl 0 rfl (k := (sp j)) (by omega) (by decide) d_Submissions_findTwins_35 ?_
              refine lv_iconst (v := (-1)) hx hb d_Submissions_findTwins_36 (by decide +kernel) ?_
              refine N_icmp_ne_Om hx hb (fun z hz => by have := hf _ z q1 hz; omega) (tgt := 58) d_Submissions_findTwins_37 (by decide) (fun c37 => ?_) (fun c37 => ?_)
              · refine lv_iinc (v := (nI (j + 1))) (lv' := [(3, .int (nI (j + 1))), (0, .ref (h 16)), (1, .int (nI a)), (2, .ref (h 4))]) hx hb d_Submissions_findTwins_58 hl (k := 3) rfl (N_inc j) (by decide) rfl (fun ls hl => ?_)
                refine lv_goto (tgt := 20) hx hb d_Submissions_findTwins_61 (by decide) ?_
                exact ih20 (j + 1) f (by omega) (fun x z hx1 h => by have := hf x z hx1 h; omega) (by rw [← he, twG, if_neg (by simp [c37])]) _ _ hW ls (lv_sub hl [1, 2, 3, 0] rfl)
              · refine lv_aload_n hx hb d_Submissions_findTwins_40 rfl (lv_at hl 0 rfl) ?_
                refine lv_iload_n hx hb d_Submissions_findTwins_41 rfl (lv_at hl 1 rfl) ?_
                refine lv_iload_n hx hb d_Submissions_findTwins_42 rfl (lv_at hl 3 rfl) ?_
                refine R_callV (q0 := 1) (c_Submissions_isTwin l G cI cZ cJ h ns sp sq sec rt it ans a j ha (by omega) hsq han) X rfl hW cw_Submissions_39 ki_Submissions_isTwin ks_Submissions_isTwin rfl rfl ⟨rfl, rfl⟩ ⟨by decide, by decide⟩ ⟨Nat.zero_le _, Nat.zero_le _⟩ [false, true, true, true, true, true, true, true] rfl (Nat.le_of_ble_eq_true rfl) rfl rfl hl.1 rfl rfl (Nat.le_of_ble_eq_true rfl) d_Submissions_findTwins_43 rfl (fun H locs hW => ?_)
                have hW : Wr G A s.heap (w_SubT h cI cZ cJ f ns sp sq sec rt it ans) H locs := hW
                refine N_if_eq_B hx hb  (tgt := 58) d_Submissions_findTwins_46 (by decide) (fun c46 => ?_) (fun c46 => ?_)
                · refine lv_iinc (v := (nI (j + 1))) (lv' := [(3, .int (nI (j + 1))), (0, .ref (h 16)), (1, .int (nI a)), (2, .ref (h 4))]) hx hb d_Submissions_findTwins_58 hl (k := 3) rfl (N_inc j) (by decide) rfl (fun ls hl => ?_)
                  refine lv_goto (tgt := 20) hx hb d_Submissions_findTwins_61 (by decide) ?_
                  exact ih20 (j + 1) f (by omega) (fun x z hx1 h => by have := hf x z hx1 h; omega) (by rw [← he, twG, if_neg (by simp [c46])]) _ _ hW ls (lv_sub hl [1, 2, 3, 0] rfl)
                · refine lv_aload_n hx hb d_Submissions_findTwins_49 rfl (lv_at hl 2 rfl) ?_
                  refine lv_aload_n hx hb d_Submissions_findTwins_50 rfl (lv_at hl 0 rfl) ?_
                  refine R_get X hW i_Submissions rfl 0 (by decide) kf_Submissions_9 1 rfl rfl d_Submissions_findTwins_51 ?_
                  refine lv_iload_n hx hb d_Submissions_findTwins_54 rfl (lv_at hl 3 rfl) ?_
                  refine R_iald X hW (t0 := 0) rfl 2 rfl (k := j) (by omega) (by decide) d_Submissions_findTwins_55 ?_
                  refine lv_iload_n hx hb d_Submissions_findTwins_56 rfl (lv_at hl 3 rfl) ?_
                  refine R_iast X hW (t0 := 0) rfl 0 rfl (k := (sp j)) (by omega) (by decide) (some j) rfl d_Submissions_findTwins_57 (fun H locs hW => ?_)
                  have hW : Wr G A s.heap (w_SubT h cI cZ cJ (va_up f (sp j) (some j)) ns sp sq sec rt it ans) H locs := hW
                  refine lv_iinc (v := (nI (j + 1))) (lv' := [(3, .int (nI (j + 1))), (0, .ref (h 16)), (1, .int (nI a)), (2, .ref (h 4))]) hx hb d_Submissions_findTwins_58 hl (k := 3) rfl (N_inc j) (by decide) rfl (fun ls hl => ?_)
                  refine lv_goto (tgt := 20) hx hb d_Submissions_findTwins_61 (by decide) ?_
                  exact ih20 (j + 1) (va_up f (sp j) (some j)) (by omega) (fun x z hx1 h => by by_cases q : x = sp j; (subst q; rw [va_up_self] at h; cases h; omega); (rw [va_up_ne _ _ q] at h; have := hf x z hx1 h; omega)) (by rw [← he, twG, if_pos ⟨c37, c46⟩]) _ _ hW ls (lv_sub hl [1, 2, 3, 0] rfl)
        exact L20 ns 0 (upK none 20 tw) (by omega) (fun x z hx1 h => by rw [upK_lt _ _ _ _ hx1] at h; cases h) rfl _ _ hW ls (lv_sub hl [1, 2, 3, 0] rfl)
      · exfalso; omega
    | succ n ih2 =>
      intro i hi H locs hW ls hl
      refine lv_iload_n hx hb d_Submissions_findTwins_2 rfl (lv_at hl 3 rfl) ?_
      refine lv_bipush (v := (nI 20)) hx hb d_Submissions_findTwins_3 (by decide +kernel) ?_
      refine N_icmp_ge_NN hx hb (by omega) (by decide) (tgt := 18) d_Submissions_findTwins_5 (by decide) (fun c5 => ?_) (fun c5 => ?_)
      · exfalso; omega
      · refine lv_aload_n hx hb d_Submissions_findTwins_8 rfl (lv_at hl 2 rfl) ?_
        refine lv_iload_n hx hb d_Submissions_findTwins_9 rfl (lv_at hl 3 rfl) ?_
        refine lv_iconst (v := (-1)) hx hb d_Submissions_findTwins_10 (by decide +kernel) ?_
        refine R_iast X hW (t0 := 0) rfl 0 rfl (k := i) (by omega) (by decide) none rfl d_Submissions_findTwins_11 (fun H locs hW => ?_)
        have hW : Wr G A s.heap (w_SubT h cI cZ cJ (va_up (upK none i tw) i none) ns sp sq sec rt it ans) H locs := hW
        refine lv_iinc (v := (nI (i + 1))) (lv' := [(3, .int (nI (i + 1))), (0, .ref (h 16)), (1, .int (nI a)), (2, .ref (h 4))]) hx hb d_Submissions_findTwins_12 hl (k := 3) rfl (N_inc i) (by decide) rfl (fun ls hl => ?_)
        refine lv_goto (tgt := 2) hx hb d_Submissions_findTwins_15 (by decide) ?_
        exact ih2 (i + 1) (by omega) _ _ hW ls (lv_sub hl [1, 2, 3, 0] rfl)
  exact L2 20 0 (by omega) _ _ hW ls (lv_sub hl [1, 2, 3, 0] rfl)

theorem kb_Submissions_putInTime : Cond.code y_Submissions_putInTime b_Submissions_putInTime 3 none ∈ TBL := TBL_t (List.mem_append_right _ (List.mem_append_left _ (List.mem_of_getElem? (i := 116) rfl))) rfl
theorem km_Submissions_35 : Cond.methodLink "ContestRows$Submissions" 35 y_Submissions_putInTime ∈ TBL := TBL_t (List.mem_append_right _ (List.mem_append_left _ (List.mem_of_getElem? (i := 113) rfl))) rfl
theorem cw_Submissions_35 : Cw "ContestRows$Submissions" 35 y_Submissions_putInTime b_Submissions_putInTime 3 none 1 := ⟨kb_Submissions_putInTime, kn_Submissions, km_Submissions_35, by decide +kernel⟩
theorem ki_Submissions_putInTime : Cond.instanceMethod y_Submissions_putInTime ∈ TBL := TBL_t (List.mem_append_right _ (List.mem_append_left _ (List.mem_of_getElem? (i := 115) rfl))) rfl
theorem ks_Submissions_putInTime : Cond.selects "ContestRows$Submissions" y_Submissions_putInTime y_Submissions_putInTime ∈ TBL := TBL_in (List.mem_append_left _ (List.mem_map.mpr ⟨(y_Submissions_putInTime, 7), by decide +kernel, rfl⟩)) rfl
set_option maxHeartbeats 4000000 in
set_option maxRecDepth 100000 in
theorem c_Submissions_add_ok (l : Launch) (G : va_G) (cI cZ cJ : ClassId) (h : Nat → Nat) (ns : Nat) (sp : Nat → Nat) (sq : Nat → Nat) (sec : Nat → Nat) (rt : Nat → Bool) (it : Nat → Nat) (ans : Nat → Nat) (x : Nat) (y : Nat) (t : Nat) (w : Nat) (b : Bool) (hns : ns < 300) (hit : ∀ i, i < ns → it i < 300) (hse : ∀ i, i < 300 → sec i < 2 ^ 31) (ht : t < 2 ^ 31) : Ct l G (tyL cI cZ cJ) y_Submissions_add b_Submissions_add 6 (some .int) (rmL 1) [.ref (h 16), .int (nI x), .int (nI y), .int (nI t), .int (nI w), .int (bI b)] (w_Sub h cI cZ cJ ns sp sq sec rt it ans) (some (.int (nI ns))) (w_Sub h cI cZ cJ (ns + 1) (va_up sp ns x) (va_up sq ns y) (va_up sec ns t) (va_up rt ns b) (insG (ltT (va_up sec ns t)) ns ns it) (va_up ans ns w)) := by
  refine M_start (by decide) (Nat.le_of_ble_eq_true rfl) ?_
  intro p e s m args below meth c A Q ls X Y hW hl
  have hx := X.1.1
  have hb := X.1.2.1
  have hl : lv_has ls 6 [(0, .ref (h 16)), (1, .int (nI x)), (2, .int (nI y)), (3, .int (nI t)), (4, .int (nI w)), (5, .int (bI b))] := hl
  refine lv_aload_n hx hb d_Submissions_add_0 rfl (lv_at hl 0 rfl) ?_
  refine R_get X hW i_Submissions rfl 5 (by decide) kf_Submissions_31 0 rfl rfl d_Submissions_add_1 ?_
  refine lv_sipush (v := (nI 300)) hx hb d_Submissions_add_4 (by decide +kernel) ?_
  refine N_icmp_lt_NN hx hb (by omega) (by decide) (tgt := 12) d_Submissions_add_7 (by decide) (fun c7 => ?_) (fun c7 => ?_)
  · refine lv_aload_n hx hb d_Submissions_add_12 rfl (lv_at hl 0 rfl) ?_
    refine R_get X hW i_Submissions rfl 0 (by decide) kf_Submissions_9 0 rfl rfl d_Submissions_add_13 ?_
    refine lv_aload_n hx hb d_Submissions_add_16 rfl (lv_at hl 0 rfl) ?_
    refine R_get X hW i_Submissions rfl 5 (by decide) kf_Submissions_31 0 rfl rfl d_Submissions_add_17 ?_
    refine lv_iload_n hx hb d_Submissions_add_20 rfl (lv_at hl 1 rfl) ?_
    refine R_iast X hW (t0 := 0) rfl 1 rfl (k := ns) (by omega) (by decide) x rfl d_Submissions_add_21 (fun H locs hW => ?_)
    have hW : Wr G A s.heap (w_Sub h cI cZ cJ ns (va_up sp ns x) sq sec rt it ans) H locs := hW
    refine lv_aload_n hx hb d_Submissions_add_22 rfl (lv_at hl 0 rfl) ?_
    refine R_get X hW i_Submissions rfl 1 (by decide) kf_Submissions_15 0 rfl rfl d_Submissions_add_23 ?_
    refine lv_aload_n hx hb d_Submissions_add_26 rfl (lv_at hl 0 rfl) ?_
    refine R_get X hW i_Submissions rfl 5 (by decide) kf_Submissions_31 0 rfl rfl d_Submissions_add_27 ?_
    refine lv_iload_n hx hb d_Submissions_add_30 rfl (lv_at hl 2 rfl) ?_
    refine R_iast X hW (t0 := 0) rfl 2 rfl (k := ns) (by omega) (by decide) y rfl d_Submissions_add_31 (fun H locs hW => ?_)
    have hW : Wr G A s.heap (w_Sub h cI cZ cJ ns (va_up sp ns x) (va_up sq ns y) sec rt it ans) H locs := hW
    refine lv_aload_n hx hb d_Submissions_add_32 rfl (lv_at hl 0 rfl) ?_
    refine R_get X hW i_Submissions rfl 2 (by decide) kf_Submissions_18 0 rfl rfl d_Submissions_add_33 ?_
    refine lv_aload_n hx hb d_Submissions_add_36 rfl (lv_at hl 0 rfl) ?_
    refine R_get X hW i_Submissions rfl 5 (by decide) kf_Submissions_31 0 rfl rfl d_Submissions_add_37 ?_
    refine lv_iload_n hx hb d_Submissions_add_40 rfl (lv_at hl 3 rfl) ?_
    refine R_iast X hW (t0 := 0) rfl 3 rfl (k := ns) (by omega) (by decide) t rfl d_Submissions_add_41 (fun H locs hW => ?_)
    have hW : Wr G A s.heap (w_Sub h cI cZ cJ ns (va_up sp ns x) (va_up sq ns y) (va_up sec ns t) rt it ans) H locs := hW
    refine lv_aload_n hx hb d_Submissions_add_42 rfl (lv_at hl 0 rfl) ?_
    refine R_get X hW i_Submissions rfl 6 (by decide) kf_Submissions_28 0 rfl rfl d_Submissions_add_43 ?_
    refine lv_aload_n hx hb d_Submissions_add_46 rfl (lv_at hl 0 rfl) ?_
    refine R_get X hW i_Submissions rfl 5 (by decide) kf_Submissions_31 0 rfl rfl d_Submissions_add_47 ?_
    refine lv_iload hx hb d_Submissions_add_50 (lv_at hl 4 rfl) ?_
    refine R_iast X hW (t0 := 0) rfl 6 rfl (k := ns) (by omega) (by decide) w rfl d_Submissions_add_52 (fun H locs hW => ?_)
    have hW : Wr G A s.heap (w_Sub h cI cZ cJ ns (va_up sp ns x) (va_up sq ns y) (va_up sec ns t) rt it (va_up ans ns w)) H locs := hW
    refine lv_aload_n hx hb d_Submissions_add_53 rfl (lv_at hl 0 rfl) ?_
    refine R_get X hW i_Submissions rfl 3 (by decide) kf_Submissions_21 0 rfl rfl d_Submissions_add_54 ?_
    refine lv_aload_n hx hb d_Submissions_add_57 rfl (lv_at hl 0 rfl) ?_
    refine R_get X hW i_Submissions rfl 5 (by decide) kf_Submissions_31 0 rfl rfl d_Submissions_add_58 ?_
    refine lv_iload hx hb d_Submissions_add_61 (lv_at hl 5 rfl) ?_
    refine R_zast X hW (t0 := 1) rfl 4 rfl (k := ns) (by omega) (by decide) b rfl d_Submissions_add_63 (fun H locs hW => ?_)
    have hW : Wr G A s.heap (w_Sub h cI cZ cJ ns (va_up sp ns x) (va_up sq ns y) (va_up sec ns t) (va_up rt ns b) it (va_up ans ns w)) H locs := hW
    refine lv_aload_n hx hb d_Submissions_add_64 rfl (lv_at hl 0 rfl) ?_
    refine lv_aload_n hx hb d_Submissions_add_65 rfl (lv_at hl 0 rfl) ?_
    refine R_get X hW i_Submissions rfl 5 (by decide) kf_Submissions_31 0 rfl rfl d_Submissions_add_66 ?_
    refine R_callV (q0 := 0) (c_Submissions_putInTime l G cI cZ cJ h ns (va_up sp ns x) (va_up sq ns y) (va_up sec ns t) (va_up rt ns b) it (va_up ans ns w) ns hns hit (fun i hi => by have := hse i hi; simp only [va_up]; split <;> omega)) X rfl hW cw_Submissions_35 ki_Submissions_putInTime ks_Submissions_putInTime rfl rfl ⟨rfl, rfl⟩ ⟨by decide, by decide⟩ ⟨Nat.zero_le _, Nat.zero_le _⟩ [true, true, true, true, true, true, true] rfl (Nat.le_of_ble_eq_true rfl) rfl rfl hl.1 rfl rfl (Nat.le_of_ble_eq_true rfl) d_Submissions_add_69 rfl (fun H locs hW => ?_)
    have hW : Wr G A s.heap (w_Sub h cI cZ cJ ns (va_up sp ns x) (va_up sq ns y) (va_up sec ns t) (va_up rt ns b) (insG (ltT (va_up sec ns t)) ns ns it) (va_up ans ns w)) H locs := hW
    refine lv_aload_n hx hb d_Submissions_add_72 rfl (lv_at hl 0 rfl) ?_
    refine lv_dup hx hb d_Submissions_add_73 rfl ?_
    refine R_get X hW i_Submissions rfl 5 (by decide) kf_Submissions_31 0 rfl rfl d_Submissions_add_74 ?_
    refine lv_iconst (v := (nI 1)) hx hb d_Submissions_add_77 (by decide +kernel) ?_
    refine N_iadd hx hb d_Submissions_add_78 ?_
    refine R_put X hW i_Submissions rfl t_Submissions t_Submissions_ok n_Submissions 5 (by decide) kf_Submissions_31 rfl (ty := .int) (by decide +kernel) 0 rfl (v := .int (nI (ns + 1))) rfl rfl (Nat.le_of_ble_eq_true rfl) d_Submissions_add_79 (fun H locs hW => ?_)
    have hW : Wr G A s.heap (w_Sub h cI cZ cJ (ns + 1) (va_up sp ns x) (va_up sq ns y) (va_up sec ns t) (va_up rt ns b) (insG (ltT (va_up sec ns t)) ns ns it) (va_up ans ns w)) H locs := hW
    refine lv_aload_n hx hb d_Submissions_add_82 rfl (lv_at hl 0 rfl) ?_
    refine R_get X hW i_Submissions rfl 5 (by decide) kf_Submissions_31 0 rfl rfl d_Submissions_add_83 ?_
    refine lv_iconst (v := (nI 1)) hx hb d_Submissions_add_86 (by decide +kernel) ?_
    refine N_isub (r := ns) hx hb (by omega) (by omega) d_Submissions_add_87 ?_
    exact R_iret X Y hW rfl rfl d_Submissions_add_88
  · exfalso; omega

set_option maxHeartbeats 4000000 in
set_option maxRecDepth 100000 in
theorem c_Submissions_add_full (l : Launch) (G : va_G) (cI cZ cJ : ClassId) (h : Nat → Nat) (ns : Nat) (sp : Nat → Nat) (sq : Nat → Nat) (sec : Nat → Nat) (rt : Nat → Bool) (it : Nat → Nat) (ans : Nat → Nat) (x : Nat) (y : Nat) (t : Nat) (w : Nat) (b : Bool) (hns : ns = 300) : Ct l G (tyL cI cZ cJ) y_Submissions_add b_Submissions_add 6 (some .int) (rmL 1) [.ref (h 16), .int (nI x), .int (nI y), .int (nI t), .int (nI w), .int (bI b)] (w_Sub h cI cZ cJ ns sp sq sec rt it ans) (some (.int (-1))) (w_Sub h cI cZ cJ ns sp sq sec rt it ans) := by
  refine M_start (by decide) (Nat.le_of_ble_eq_true rfl) ?_
  intro p e s m args below meth c A Q ls X Y hW hl
  have hx := X.1.1
  have hb := X.1.2.1
  have hl : lv_has ls 6 [(0, .ref (h 16)), (1, .int (nI x)), (2, .int (nI y)), (3, .int (nI t)), (4, .int (nI w)), (5, .int (bI b))] := hl
  refine lv_aload_n hx hb d_Submissions_add_0 rfl (lv_at hl 0 rfl) ?_
  refine R_get X hW i_Submissions rfl 5 (by decide) kf_Submissions_31 0 rfl rfl d_Submissions_add_1 ?_
  refine lv_sipush (v := (nI 300)) hx hb d_Submissions_add_4 (by decide +kernel) ?_
  refine N_icmp_lt_NN hx hb (by omega) (by decide) (tgt := 12) d_Submissions_add_7 (by decide) (fun c7 => ?_) (fun c7 => ?_)
  · exfalso; omega
  · refine lv_iconst (v := (-1)) hx hb d_Submissions_add_10 (by decide +kernel) ?_
    exact R_iret X Y hW rfl rfl d_Submissions_add_11

theorem kb_Submissions_secondsBetween : Cond.code y_Submissions_secondsBetween b_Submissions_secondsBetween 3 (some .int) ∈ TBL := TBL_t (List.mem_append_right _ (List.mem_append_left _ (List.mem_of_getElem? (i := 222) rfl))) rfl
theorem km_Submissions_49 : Cond.methodLink "ContestRows$Submissions" 49 y_Submissions_secondsBetween ∈ TBL := TBL_t (List.mem_append_right _ (List.mem_append_left _ (List.mem_of_getElem? (i := 230) rfl))) rfl
theorem cw_Submissions_49 : Cw "ContestRows$Submissions" 49 y_Submissions_secondsBetween b_Submissions_secondsBetween 3 (some .int) 2 := ⟨kb_Submissions_secondsBetween, kn_Submissions, km_Submissions_49, by decide +kernel⟩
theorem ki_Submissions_secondsBetween : Cond.instanceMethod y_Submissions_secondsBetween ∈ TBL := TBL_t (List.mem_append_right _ (List.mem_append_left _ (List.mem_of_getElem? (i := 220) rfl))) rfl
theorem ks_Submissions_secondsBetween : Cond.selects "ContestRows$Submissions" y_Submissions_secondsBetween y_Submissions_secondsBetween ∈ TBL := TBL_t (List.mem_append_right _ (List.mem_append_left _ (List.mem_of_getElem? (i := 221) rfl))) rfl
set_option maxHeartbeats 4000000 in
set_option maxRecDepth 100000 in
theorem c_Submissions_tellPair (l : Launch) (G : va_G) (cI cZ cJ : ClassId) (h : Nat → Nat) (ns : Nat) (sp : Nat → Nat) (sq : Nat → Nat) (sec : Nat → Nat) (rt : Nat → Bool) (it : Nat → Nat) (ans : Nat → Nat) (a : Nat) (b : Nat) (w : Nat) (ha : a < 300) (hb0 : b < 300) (hw0 : w ≤ 3) (hse : ∀ i, i < 300 → sec i ≤ 1000000) : Ct l G (tyL cI cZ cJ) y_Submissions_tellPair b_Submissions_tellPair 4 (some .int) (rmL 2) [.ref (h 16), .int (nI a), .int (nI b), .int (nI w)] (w_Sub h cI cZ cJ ns sp sq sec rt it ans) (some (.int (nI (tlF sp sq sec a b w)))) (w_Sub h cI cZ cJ ns sp sq sec rt it ans) := by
  refine M_start (by decide) (Nat.le_of_ble_eq_true rfl) ?_
  intro p e s m args below meth c A Q ls X Y hW hl
  have hx := X.1.1
  have hb := X.1.2.1
  have hl : lv_has ls 4 [(0, .ref (h 16)), (1, .int (nI a)), (2, .int (nI b)), (3, .int (nI w))] := hl
  rcases (show w = 0 ∨ w = 1 ∨ w = 2 ∨ w = 3 by omega) with h9 | h9 | h9 | h9
  · subst h9
    refine lv_iload_n hx hb d_Submissions_tellPair_0 rfl (lv_at hl 3 rfl) ?_
    refine lv_tableIn (tgt := 28) hx hb d_Submissions_tellPair_1 (by decide +kernel) (by decide +kernel) (off := 27) (by decide +kernel) (by decide) ?_
    refine lv_aload_n hx hb d_Submissions_tellPair_28 rfl (lv_at hl 0 rfl) ?_
    refine R_get X hW i_Submissions rfl 0 (by decide) kf_Submissions_9 0 rfl rfl d_Submissions_tellPair_29 ?_
    refine lv_iload_n hx hb d_Submissions_tellPair_32 rfl (lv_at hl 1 rfl) ?_
    refine R_iald X hW (t0 := 0) rfl 1 rfl (k := a) (by omega) (by decide) d_Submissions_tellPair_33 ?_
    exact R_iret X Y hW rfl rfl d_Submissions_tellPair_34
  · subst h9
    refine lv_iload_n hx hb d_Submissions_tellPair_0 rfl (lv_at hl 3 rfl) ?_
    refine lv_tableIn (tgt := 35) hx hb d_Submissions_tellPair_1 (by decide +kernel) (by decide +kernel) (off := 34) (by decide +kernel) (by decide) ?_
    refine lv_aload_n hx hb d_Submissions_tellPair_35 rfl (lv_at hl 0 rfl) ?_
    refine R_get X hW i_Submissions rfl 0 (by decide) kf_Submissions_9 0 rfl rfl d_Submissions_tellPair_36 ?_
    refine lv_iload_n hx hb d_Submissions_tellPair_39 rfl (lv_at hl 2 rfl) ?_
    refine R_iald X hW (t0 := 0) rfl 1 rfl (k := b) (by omega) (by decide) d_Submissions_tellPair_40 ?_
    exact R_iret X Y hW rfl rfl d_Submissions_tellPair_41
  · subst h9
    refine lv_iload_n hx hb d_Submissions_tellPair_0 rfl (lv_at hl 3 rfl) ?_
    refine lv_tableIn (tgt := 42) hx hb d_Submissions_tellPair_1 (by decide +kernel) (by decide +kernel) (off := 41) (by decide +kernel) (by decide) ?_
    refine lv_aload_n hx hb d_Submissions_tellPair_42 rfl (lv_at hl 0 rfl) ?_
    refine R_get X hW i_Submissions rfl 1 (by decide) kf_Submissions_15 0 rfl rfl d_Submissions_tellPair_43 ?_
    refine lv_iload_n hx hb d_Submissions_tellPair_46 rfl (lv_at hl 1 rfl) ?_
    refine R_iald X hW (t0 := 0) rfl 2 rfl (k := a) (by omega) (by decide) d_Submissions_tellPair_47 ?_
    exact R_iret X Y hW rfl rfl d_Submissions_tellPair_48
  · subst h9
    refine lv_iload_n hx hb d_Submissions_tellPair_0 rfl (lv_at hl 3 rfl) ?_
    refine lv_tableOut (tgt := 49) hx hb d_Submissions_tellPair_1 (by decide +kernel) (by decide) ?_
    refine lv_aload_n hx hb d_Submissions_tellPair_49 rfl (lv_at hl 0 rfl) ?_
    refine lv_iload_n hx hb d_Submissions_tellPair_50 rfl (lv_at hl 1 rfl) ?_
    refine lv_iload_n hx hb d_Submissions_tellPair_51 rfl (lv_at hl 2 rfl) ?_
    refine R_callV (q0 := 0) (c_Submissions_secondsBetween l G cI cZ cJ h ns sp sq sec rt it ans a b ha hb0 hse) X rfl hW cw_Submissions_49 ki_Submissions_secondsBetween ks_Submissions_secondsBetween rfl rfl ⟨rfl, rfl⟩ ⟨by decide, by decide⟩ ⟨Nat.zero_le _, Nat.zero_le _⟩ [true, true, true, true, true, true, true] rfl (Nat.le_of_ble_eq_true rfl) rfl rfl hl.1 rfl rfl (Nat.le_of_ble_eq_true rfl) d_Submissions_tellPair_52 rfl (fun H locs hW => ?_)
    have hW : Wr G A s.heap (w_Sub h cI cZ cJ ns sp sq sec rt it ans) H locs := hW
    exact R_iret X Y hW rfl rfl d_Submissions_tellPair_55
end
section
theorem kf_Rules_13 : Cond.fieldLink "ContestRows$Rules" 13 "ContestRows$Rules" "told" "[I" ∈ TBL := TBL_t (List.mem_append_left _ (List.mem_of_getElem? (i := 136) rfl)) rfl
set_option maxHeartbeats 4000000 in
set_option maxRecDepth 100000 in
theorem c_Rules_tell (l : Launch) (G : va_G) (cI cZ cJ : ClassId) (h : Nat → Nat) (nw : Nat → Nat) (td : Nat → Nat) (z : Nat) (v : Nat) (hz : z < 5) : Ct l G (tyL cI cZ cJ) y_Rules_tell b_Rules_tell 3 none (rmL 0) [.ref (h 25), .int (nI z), .int (nI v)] (w_Rul h cI cZ cJ nw td) none (w_Rul h cI cZ cJ nw (va_up td z v)) := by
  refine M_start (by decide) (Nat.le_of_ble_eq_true rfl) ?_
  intro p e s m args below meth c A Q ls X Y hW hl
  have hx := X.1.1
  have hb := X.1.2.1
  have hl : lv_has ls 3 [(0, .ref (h 25)), (1, .int (nI z)), (2, .int (nI v))] := hl
  refine lv_aload_n hx hb d_Rules_tell_0 rfl (lv_at hl 0 rfl) ?_
  refine R_get X hW i_Rules rfl 1 (by decide) kf_Rules_13 0 rfl rfl d_Rules_tell_1 ?_
  refine lv_iload_n hx hb d_Rules_tell_4 rfl (lv_at hl 1 rfl) ?_
  refine lv_iload_n hx hb d_Rules_tell_5 rfl (lv_at hl 2 rfl) ?_
  refine R_iast X hW (t0 := 0) rfl 2 rfl (k := z) (by omega) (by decide) v rfl d_Rules_tell_6 (fun H locs hW => ?_)
  have hW : Wr G A s.heap (w_Rul h cI cZ cJ nw (va_up td z v)) H locs := hW
  exact R_vret X Y hW rfl rfl d_Rules_tell_7

theorem kf_Rules_7 : Cond.fieldLink "ContestRows$Rules" 7 "ContestRows$Rules" "now" "[I" ∈ TBL := TBL_t (List.mem_append_left _ (List.mem_of_getElem? (i := 135) rfl)) rfl
set_option maxHeartbeats 4000000 in
set_option maxRecDepth 100000 in
theorem c_Rules_isLate (l : Launch) (G : va_G) (cI cZ cJ : ClassId) (h : Nat → Nat) (nw : Nat → Nat) (td : Nat → Nat) (x : Nat) (hx0 : x < 2 ^ 31) (hnw : ∀ i, i < 5 → nw i ≤ 9999) : Ct l G (tyL cI cZ cJ) y_Rules_isLate b_Rules_isLate 2 (some .boolean) (rmL 0) [.ref (h 25), .int (nI x)] (w_Rul h cI cZ cJ nw td) (some (.int (bI (decide (nw 3 < x))))) (w_Rul h cI cZ cJ nw td) := by
  refine M_start (by decide) (Nat.le_of_ble_eq_true rfl) ?_
  intro p e s m args below meth c A Q ls X Y hW hl
  have hx := X.1.1
  have hb := X.1.2.1
  have hl : lv_has ls 2 [(0, .ref (h 25)), (1, .int (nI x))] := hl
  have q1 := hnw 3 (by omega)
  refine lv_iload_n hx hb d_Rules_isLate_0 rfl (lv_at hl 1 rfl) ?_
  refine lv_aload_n hx hb d_Rules_isLate_1 rfl (lv_at hl 0 rfl) ?_
  refine R_get X hW i_Rules rfl 0 (by decide) kf_Rules_7 0 rfl rfl d_Rules_isLate_2 ?_
  refine lv_iconst (v := (nI 3)) hx hb d_Rules_isLate_5 (by decide +kernel) ?_
  refine R_iald X hW (t0 := 0) rfl 1 rfl (k := 3) (by omega) (by decide) d_Rules_isLate_6 ?_
  refine N_icmp_le_NN hx hb (by omega) (by omega) (tgt := 14) d_Rules_isLate_7 (by decide) (fun c7 => ?_) (fun c7 => ?_)
  · refine lv_iconst (v := (nI 0)) hx hb d_Rules_isLate_14 (by decide +kernel) ?_
    exact R_zret X Y hW rfl false (by decide +kernel) (by rw [decide_eq_false (by omega)]) d_Rules_isLate_15
  · refine lv_iconst (v := (nI 1)) hx hb d_Rules_isLate_10 (by decide +kernel) ?_
    refine lv_goto (tgt := 15) hx hb d_Rules_isLate_11 (by decide) ?_
    exact R_zret X Y hW rfl true (by decide +kernel) (by rw [decide_eq_true (by omega)]) d_Rules_isLate_15

set_option maxHeartbeats 4000000 in
set_option maxRecDepth 100000 in
theorem c_Rules_timesPart (l : Launch) (G : va_G) (cI cZ cJ : ClassId) (h : Nat → Nat) (nw : Nat → Nat) (td : Nat → Nat)  (hnw : ∀ i, i < 5 → nw i ≤ 9999) : Ct l G (tyL cI cZ cJ) y_Rules_timesPart b_Rules_timesPart 1 (some .boolean) (rmL 0) [.ref (h 25)] (w_Rul h cI cZ cJ nw td) (some (.int (bI (decide (nw 4 = 1))))) (w_Rul h cI cZ cJ nw td) := by
  refine M_start (by decide) (Nat.le_of_ble_eq_true rfl) ?_
  intro p e s m args below meth c A Q ls X Y hW hl
  have hx := X.1.1
  have hb := X.1.2.1
  have hl : lv_has ls 1 [(0, .ref (h 25))] := hl
  have q1 := hnw 4 (by omega)
  refine lv_aload_n hx hb d_Rules_timesPart_0 rfl (lv_at hl 0 rfl) ?_
  refine R_get X hW i_Rules rfl 0 (by decide) kf_Rules_7 0 rfl rfl d_Rules_timesPart_1 ?_
  refine lv_iconst (v := (nI 4)) hx hb d_Rules_timesPart_4 (by decide +kernel) ?_
  refine R_iald X hW (t0 := 0) rfl 1 rfl (k := 4) (by omega) (by decide) d_Rules_timesPart_5 ?_
  refine lv_iconst (v := (nI 1)) hx hb d_Rules_timesPart_6 (by decide +kernel) ?_
  refine N_icmp_ne_NN hx hb (by omega) (by decide) (tgt := 14) d_Rules_timesPart_7 (by decide) (fun c7 => ?_) (fun c7 => ?_)
  · refine lv_iconst (v := (nI 0)) hx hb d_Rules_timesPart_14 (by decide +kernel) ?_
    exact R_zret X Y hW rfl false (by decide +kernel) (by rw [decide_eq_false c7]) d_Rules_timesPart_15
  · refine lv_iconst (v := (nI 1)) hx hb d_Rules_timesPart_10 (by decide +kernel) ?_
    refine lv_goto (tgt := 15) hx hb d_Rules_timesPart_11 (by decide) ?_
    exact R_zret X Y hW rfl true (by decide +kernel) (by rw [decide_eq_true c7]) d_Rules_timesPart_15

theorem kf_RuleText_13 : Cond.fieldLink "ContestRows$RuleText" 13 "ContestRows$RuleText" "length" "I" ∈ TBL := TBL_t (List.mem_append_left _ (List.mem_of_getElem? (i := 123) rfl)) rfl
theorem kf_RuleText_9 : Cond.fieldLink "ContestRows$RuleText" 9 "ContestRows$RuleText" "units" "[I" ∈ TBL := TBL_t (List.mem_append_left _ (List.mem_of_getElem? (i := 122) rfl)) rfl
set_option maxHeartbeats 4000000 in
set_option maxRecDepth 100000 in
theorem c_RuleText_add_ok (l : Launch) (G : va_G) (cI cZ cJ : ClassId) (h : Nat → Nat) (tl : Nat) (un : Nat → Nat) (u : Nat) (hu : u ≤ 255) (hn : tl < 100) : Ct l G (tyL cI cZ cJ) y_RuleText_add b_RuleText_add 2 (some .boolean) (rmL 0) [.ref (h 23), .int (nI u)] (w_Txt h cI cZ cJ tl un) (some (.int (bI true))) (w_Txt h cI cZ cJ (tl + 1) (va_up un tl u)) := by
  refine M_start (by decide) (Nat.le_of_ble_eq_true rfl) ?_
  intro p e s m args below meth c A Q ls X Y hW hl
  have hx := X.1.1
  have hb := X.1.2.1
  have hl : lv_has ls 2 [(0, .ref (h 23)), (1, .int (nI u))] := hl
  refine lv_iload_n hx hb d_RuleText_add_0 rfl (lv_at hl 1 rfl) ?_
  refine N_if_lt_N hx hb (by omega) (tgt := 20) d_RuleText_add_1 (by decide) (fun c1 => ?_) (fun c1 => ?_)
  · exfalso; omega
  · refine lv_iload_n hx hb d_RuleText_add_4 rfl (lv_at hl 1 rfl) ?_
    refine lv_sipush (v := (nI 255)) hx hb d_RuleText_add_5 (by decide +kernel) ?_
    refine N_icmp_gt_NN hx hb (by omega) (by decide) (tgt := 20) d_RuleText_add_8 (by decide) (fun c8 => ?_) (fun c8 => ?_)
    · exfalso; omega
    · refine lv_aload_n hx hb d_RuleText_add_11 rfl (lv_at hl 0 rfl) ?_
      refine R_get X hW i_RuleText rfl 1 (by decide) kf_RuleText_13 0 rfl rfl d_RuleText_add_12 ?_
      refine lv_bipush (v := (nI 100)) hx hb d_RuleText_add_15 (by decide +kernel) ?_
      refine N_icmp_lt_NN hx hb (by omega) (by decide) (tgt := 22) d_RuleText_add_17 (by decide) (fun c17 => ?_) (fun c17 => ?_)
      · refine lv_aload_n hx hb d_RuleText_add_22 rfl (lv_at hl 0 rfl) ?_
        refine R_get X hW i_RuleText rfl 0 (by decide) kf_RuleText_9 0 rfl rfl d_RuleText_add_23 ?_
        refine lv_aload_n hx hb d_RuleText_add_26 rfl (lv_at hl 0 rfl) ?_
        refine R_get X hW i_RuleText rfl 1 (by decide) kf_RuleText_13 0 rfl rfl d_RuleText_add_27 ?_
        refine lv_iload_n hx hb d_RuleText_add_30 rfl (lv_at hl 1 rfl) ?_
        refine R_iast X hW (t0 := 0) rfl 1 rfl (k := tl) (by omega) (by decide) u rfl d_RuleText_add_31 (fun H locs hW => ?_)
        have hW : Wr G A s.heap (w_Txt h cI cZ cJ tl (va_up un tl u)) H locs := hW
        refine lv_aload_n hx hb d_RuleText_add_32 rfl (lv_at hl 0 rfl) ?_
        refine lv_dup hx hb d_RuleText_add_33 rfl ?_
        refine R_get X hW i_RuleText rfl 1 (by decide) kf_RuleText_13 0 rfl rfl d_RuleText_add_34 ?_
        refine lv_iconst (v := (nI 1)) hx hb d_RuleText_add_37 (by decide +kernel) ?_
        refine N_iadd hx hb d_RuleText_add_38 ?_
        refine R_put X hW i_RuleText rfl t_RuleText t_RuleText_ok n_RuleText 1 (by decide) kf_RuleText_13 rfl (ty := .int) (by decide +kernel) 0 rfl (v := .int (nI (tl + 1))) rfl rfl (Nat.le_of_ble_eq_true rfl) d_RuleText_add_39 (fun H locs hW => ?_)
        have hW : Wr G A s.heap (w_Txt h cI cZ cJ (tl + 1) (va_up un tl u)) H locs := hW
        refine lv_iconst (v := (nI 1)) hx hb d_RuleText_add_42 (by decide +kernel) ?_
        exact R_zret X Y hW rfl true (by decide +kernel) rfl d_RuleText_add_43
      · exfalso; omega

set_option maxHeartbeats 4000000 in
set_option maxRecDepth 100000 in
theorem c_RuleText_add_bad (l : Launch) (G : va_G) (cI cZ cJ : ClassId) (h : Nat → Nat) (tl : Nat) (un : Nat → Nat) (u : Int32) (hu : ¬ (0 ≤ u.toInt ∧ u.toInt ≤ 255 ∧ tl < 100)) (hn : tl ≤ 100) : Ct l G (tyL cI cZ cJ) y_RuleText_add b_RuleText_add 2 (some .boolean) (rmL 0) [.ref (h 23), .int u] (w_Txt h cI cZ cJ tl un) (some (.int (bI false))) (w_Txt h cI cZ cJ tl un) := by
  refine M_start (by decide) (Nat.le_of_ble_eq_true rfl) ?_
  intro p e s m args below meth c A Q ls X Y hW hl
  have hx := X.1.1
  have hb := X.1.2.1
  have hl : lv_has ls 2 [(0, .ref (h 23)), (1, .int u)] := hl
  refine lv_iload_n hx hb d_RuleText_add_0 rfl (lv_at hl 1 rfl) ?_
  refine N_if_lt_R hx hb  (tgt := 20) d_RuleText_add_1 (by decide) (fun c1 => ?_) (fun c1 => ?_)
  · refine lv_iconst (v := (nI 0)) hx hb d_RuleText_add_20 (by decide +kernel) ?_
    exact R_zret X Y hW rfl false (by decide +kernel) rfl d_RuleText_add_21
  · refine lv_iload_n hx hb d_RuleText_add_4 rfl (lv_at hl 1 rfl) ?_
    refine lv_sipush (v := (nI 255)) hx hb d_RuleText_add_5 (by decide +kernel) ?_
    refine N_icmp_gt_RN hx hb (by decide) (tgt := 20) d_RuleText_add_8 (by decide) (fun c8 => ?_) (fun c8 => ?_)
    · refine lv_iconst (v := (nI 0)) hx hb d_RuleText_add_20 (by decide +kernel) ?_
      exact R_zret X Y hW rfl false (by decide +kernel) rfl d_RuleText_add_21
    · refine lv_aload_n hx hb d_RuleText_add_11 rfl (lv_at hl 0 rfl) ?_
      refine R_get X hW i_RuleText rfl 1 (by decide) kf_RuleText_13 0 rfl rfl d_RuleText_add_12 ?_
      refine lv_bipush (v := (nI 100)) hx hb d_RuleText_add_15 (by decide +kernel) ?_
      refine N_icmp_lt_NN hx hb (by omega) (by decide) (tgt := 22) d_RuleText_add_17 (by decide) (fun c17 => ?_) (fun c17 => ?_)
      · exfalso; omega
      · refine lv_iconst (v := (nI 0)) hx hb d_RuleText_add_20 (by decide +kernel) ?_
        exact R_zret X Y hW rfl false (by decide +kernel) rfl d_RuleText_add_21

set_option maxHeartbeats 4000000 in
set_option maxRecDepth 100000 in
theorem c_RuleText_clear (l : Launch) (G : va_G) (cI cZ cJ : ClassId) (h : Nat → Nat) (tl : Nat) (un : Nat → Nat)   : Ct l G (tyL cI cZ cJ) y_RuleText_clear b_RuleText_clear 1 none (rmL 0) [.ref (h 23)] (w_Txt h cI cZ cJ tl un) none (w_Txt h cI cZ cJ 0 un) := by
  refine M_start (by decide) (Nat.le_of_ble_eq_true rfl) ?_
  intro p e s m args below meth c A Q ls X Y hW hl
  have hx := X.1.1
  have hb := X.1.2.1
  have hl : lv_has ls 1 [(0, .ref (h 23))] := hl
  refine lv_aload_n hx hb d_RuleText_clear_0 rfl (lv_at hl 0 rfl) ?_
  refine lv_iconst (v := (nI 0)) hx hb d_RuleText_clear_1 (by decide +kernel) ?_
  refine R_put X hW i_RuleText rfl t_RuleText t_RuleText_ok n_RuleText 1 (by decide) kf_RuleText_13 rfl (ty := .int) (by decide +kernel) 0 rfl (v := .int (nI 0)) rfl rfl (Nat.le_of_ble_eq_true rfl) d_RuleText_clear_2 (fun H locs hW => ?_)
  have hW : Wr G A s.heap (w_Txt h cI cZ cJ 0 un) H locs := hW
  exact R_vret X Y hW rfl rfl d_RuleText_clear_5

set_option maxHeartbeats 4000000 in
set_option maxRecDepth 100000 in
theorem c_RuleText_refusal (l : Launch) (G : va_G) (cI cZ cJ : ClassId) (h : Nat → Nat)  (k : Nat)  : Ct l G (tyL cI cZ cJ) y_RuleText_refusal b_RuleText_refusal 1 (some .int) (rmL 0) [.int (nI k)] (w_Nil h cI cZ cJ) (some (.int ((-1) - (nI k)))) (w_Nil h cI cZ cJ) := by
  refine M_start (by decide) (Nat.le_of_ble_eq_true rfl) ?_
  intro p e s m args below meth c A Q ls X Y hW hl
  have hx := X.1.1
  have hb := X.1.2.1
  have hl : lv_has ls 1 [(0, .int (nI k))] := hl
  refine lv_iconst (v := (-1)) hx hb d_RuleText_refusal_0 (by decide +kernel) ?_
  refine lv_iload_n hx hb d_RuleText_refusal_1 rfl (lv_at hl 0 rfl) ?_
  refine lv_isub hx hb d_RuleText_refusal_2 ?_
  exact R_iret X Y hW rfl rfl d_RuleText_refusal_3

set_option maxHeartbeats 4000000 in
set_option maxRecDepth 100000 in
theorem c_RuleText_endOfDigits (l : Launch) (G : va_G) (cI cZ cJ : ClassId) (h : Nat → Nat) (tl : Nat) (un : Nat → Nat) (x : Nat) (hx0 : x ≤ 101) (htl : tl ≤ 100) (hun : ∀ i, i < 100 → un i ≤ 255) : Ct l G (tyL cI cZ cJ) y_RuleText_endOfDigits b_RuleText_endOfDigits 3 (some .int) (rmL 0) [.ref (h 23), .int (nI x)] (w_Txt h cI cZ cJ tl un) (some (.int (nI (eodG un tl x 5 x)))) (w_Txt h cI cZ cJ tl un) := by
  refine M_start (by decide) (Nat.le_of_ble_eq_true rfl) ?_
  intro p e s m args below meth c A Q ls X Y hW hl
  have hx := X.1.1
  have hb := X.1.2.1
  have hl : lv_has ls 3 [(0, .ref (h 23)), (1, .int (nI x))] := hl
  refine lv_iload_n hx hb d_RuleText_endOfDigits_0 rfl (lv_at hl 1 rfl) ?_
  refine lv_istore_n (lv' := [(2, .int (nI x)), (0, .ref (h 23)), (1, .int (nI x))]) hx hb d_RuleText_endOfDigits_1 rfl hl (by decide) rfl (fun ls hl => ?_)
  have L2 : ∀ (n : Nat) (k : Nat) (hk : x ≤ k ∧ k ≤ x + 4) (hn : x + 4 - k < n) (he : eodG un tl x n k = eodG un tl x 5 x) (H : Heap) (locs : List Loc) (hW : Wr G A s.heap (w_Txt h cI cZ cJ tl un) H locs) (ls : Array Slot) (hl : lv_has ls 3 [(0, .ref (h 23)), (1, .int (nI x)), (2, .int (nI k))]), W p l e (rmL 0) s m args below meth c H locs 0 0 Q (F0 m 2 ls []) := by
    intro n
    induction n with
    | zero =>
      intro k hk hn he H locs hW ls hl
      exfalso; omega
    | succ n ih2 =>
      intro k hk hn he H locs hW ls hl
      refine lv_iload_n hx hb d_RuleText_endOfDigits_2 rfl (lv_at hl 2 rfl) ?_
      refine lv_aload_n hx hb d_RuleText_endOfDigits_3 rfl (lv_at hl 0 rfl) ?_
      refine R_get X hW i_RuleText rfl 1 (by decide) kf_RuleText_13 0 rfl rfl d_RuleText_endOfDigits_4 ?_
      refine N_icmp_ge_NN hx hb (by omega) (by omega) (tgt := 45) d_RuleText_endOfDigits_7 (by decide) (fun c7 => ?_) (fun c7 => ?_)
      · refine lv_iload_n hx hb d_RuleText_endOfDigits_45 rfl (lv_at hl 2 rfl) ?_
        exact R_iret X Y hW rfl (by rw [← he, eodG, if_neg (by omega)]) d_RuleText_endOfDigits_46
      · refine lv_iload_n hx hb d_RuleText_endOfDigits_10 rfl (lv_at hl 2 rfl) ?_
        refine lv_iload_n hx hb d_RuleText_endOfDigits_11 rfl (lv_at hl 1 rfl) ?_
        refine lv_iconst (v := (nI 4)) hx hb d_RuleText_endOfDigits_12 (by decide +kernel) ?_
        refine N_iadd hx hb d_RuleText_endOfDigits_13 ?_
        refine N_icmp_ge_NN hx hb (by omega) (by omega) (tgt := 45) d_RuleText_endOfDigits_14 (by decide) (fun c14 => ?_) (fun c14 => ?_)
        · refine lv_iload_n hx hb d_RuleText_endOfDigits_45 rfl (lv_at hl 2 rfl) ?_
          exact R_iret X Y hW rfl (by rw [← he, eodG, if_neg (by omega)]) d_RuleText_endOfDigits_46
        · have q1 := hun k (by omega)
          refine lv_aload_n hx hb d_RuleText_endOfDigits_17 rfl (lv_at hl 0 rfl) ?_
          refine R_get X hW i_RuleText rfl 0 (by decide) kf_RuleText_9 0 rfl rfl d_RuleText_endOfDigits_18 ?_
          refine lv_iload_n hx hb d_RuleText_endOfDigits_21 rfl (lv_at hl 2 rfl) ?_
          refine R_iald X hW (t0 := 0) rfl 1 rfl (k := k) (by omega) (by decide) d_RuleText_endOfDigits_22 ?_
          refine lv_bipush (v := (nI 48)) hx hb d_RuleText_endOfDigits_23 (by decide +kernel) ?_
          refine N_icmp_lt_NN hx hb (by omega) (by decide) (tgt := 45) d_RuleText_endOfDigits_25 (by decide) (fun c25 => ?_) (fun c25 => ?_)
          · refine lv_iload_n hx hb d_RuleText_endOfDigits_45 rfl (lv_at hl 2 rfl) ?_
            exact R_iret X Y hW rfl (by rw [← he, eodG, if_neg (by omega)]) d_RuleText_endOfDigits_46
          · refine lv_aload_n hx hb d_RuleText_endOfDigits_28 rfl (lv_at hl 0 rfl) ?_
            refine R_get X hW i_RuleText rfl 0 (by decide) kf_RuleText_9 0 rfl rfl d_RuleText_endOfDigits_29 ?_
            refine lv_iload_n hx hb d_RuleText_endOfDigits_32 rfl (lv_at hl 2 rfl) ?_
            refine R_iald X hW (t0 := 0) rfl 1 rfl (k := k) (by omega) (by decide) d_RuleText_endOfDigits_33 ?_
            refine lv_bipush (v := (nI 57)) hx hb d_RuleText_endOfDigits_34 (by decide +kernel) ?_
            refine N_icmp_gt_NN hx hb (by omega) (by decide) (tgt := 45) d_RuleText_endOfDigits_36 (by decide) (fun c36 => ?_) (fun c36 => ?_)
            · refine lv_iload_n hx hb d_RuleText_endOfDigits_45 rfl (lv_at hl 2 rfl) ?_
              exact R_iret X Y hW rfl (by rw [← he, eodG, if_neg (by omega)]) d_RuleText_endOfDigits_46
            · refine lv_iinc (v := (nI (k + 1))) (lv' := [(2, .int (nI (k + 1))), (0, .ref (h 23)), (1, .int (nI x))]) hx hb d_RuleText_endOfDigits_39 hl (k := 2) rfl (N_inc k) (by decide) rfl (fun ls hl => ?_)
              refine lv_goto (tgt := 2) hx hb d_RuleText_endOfDigits_42 (by decide) ?_
              exact ih2 (k + 1) (by omega) (by omega) (by rw [← he, eodG, if_pos (by omega)]) _ _ hW ls (lv_sub hl [1, 2, 0] rfl)
  exact L2 5 x (by omega) (by omega) rfl _ _ hW ls (lv_sub hl [1, 2, 0] rfl)

set_option maxHeartbeats 4000000 in
set_option maxRecDepth 100000 in
theorem c_RuleText_number (l : Launch) (G : va_G) (cI cZ cJ : ClassId) (h : Nat → Nat) (tl : Nat) (un : Nat → Nat) (x : Nat) (y : Nat) (hx0 : x ≤ y ∧ y ≤ 100) (hun : ∀ i, x ≤ i → i < y → 48 ≤ un i) : Ct l G (tyL cI cZ cJ) y_RuleText_number b_RuleText_number 5 (some .int) (rmL 0) [.ref (h 23), .int (nI x), .int (nI y)] (w_Txt h cI cZ cJ tl un) (some (.int (nI (numG un (y - x) x 0)))) (w_Txt h cI cZ cJ tl un) := by
  refine M_start (by decide) (Nat.le_of_ble_eq_true rfl) ?_
  intro p e s m args below meth c A Q ls X Y hW hl
  have hx := X.1.1
  have hb := X.1.2.1
  have hl : lv_has ls 5 [(0, .ref (h 23)), (1, .int (nI x)), (2, .int (nI y))] := hl
  refine lv_iconst (v := (nI 0)) hx hb d_RuleText_number_0 (by decide +kernel) ?_
  refine lv_istore_n (lv' := [(3, .int (nI 0)), (0, .ref (h 23)), (1, .int (nI x)), (2, .int (nI y))]) hx hb d_RuleText_number_1 rfl hl (by decide) rfl (fun ls hl => ?_)
  refine lv_iload_n hx hb d_RuleText_number_2 rfl (lv_at hl 2 rfl) ?_
  refine lv_istore (lv' := [(4, .int (nI x)), (3, .int (nI 0)), (0, .ref (h 23)), (1, .int (nI x)), (2, .int (nI y))]) hx hb d_RuleText_number_3 hl (by decide) rfl (fun ls hl => ?_)
  have L5 : ∀ (n : Nat) (v : Nat) (i : Nat) (hi : x ≤ i ∧ i + n = y) (he : numG un n i v = numG un (y - x) x 0) (H : Heap) (locs : List Loc) (hW : Wr G A s.heap (w_Txt h cI cZ cJ tl un) H locs) (ls : Array Slot) (hl : lv_has ls 5 [(0, .ref (h 23)), (1, .int (nI x)), (2, .int (nI y)), (3, .int (nI v)), (4, .int (nI i))]), W p l e (rmL 0) s m args below meth c H locs 0 0 Q (F0 m 5 ls []) := by
    intro n
    induction n with
    | zero =>
      intro v i hi he H locs hW ls hl
      refine lv_iload hx hb d_RuleText_number_5 (lv_at hl 4 rfl) ?_
      refine lv_iload_n hx hb d_RuleText_number_7 rfl (lv_at hl 2 rfl) ?_
      refine N_icmp_ge_NN hx hb (by omega) (by omega) (tgt := 33) d_RuleText_number_8 (by decide) (fun c8 => ?_) (fun c8 => ?_)
      · refine lv_iload_n hx hb d_RuleText_number_33 rfl (lv_at hl 3 rfl) ?_
        exact R_iret X Y hW rfl (by rw [← he]; rfl) d_RuleText_number_34
      · exfalso; omega
    | succ n ih5 =>
      intro v i hi he H locs hW ls hl
      refine lv_iload hx hb d_RuleText_number_5 (lv_at hl 4 rfl) ?_
      refine lv_iload_n hx hb d_RuleText_number_7 rfl (lv_at hl 2 rfl) ?_
      refine N_icmp_ge_NN hx hb (by omega) (by omega) (tgt := 33) d_RuleText_number_8 (by decide) (fun c8 => ?_) (fun c8 => ?_)
      · exfalso; omega
      · refine lv_iload_n hx hb d_RuleText_number_11 rfl (lv_at hl 3 rfl) ?_
        refine lv_bipush (v := (nI 10)) hx hb d_RuleText_number_12 (by decide +kernel) ?_
        refine N_imul hx hb d_RuleText_number_14 ?_
        refine lv_aload_n hx hb d_RuleText_number_15 rfl (lv_at hl 0 rfl) ?_
        refine R_get X hW i_RuleText rfl 0 (by decide) kf_RuleText_9 0 rfl rfl d_RuleText_number_16 ?_
        refine lv_iload hx hb d_RuleText_number_19 (lv_at hl 4 rfl) ?_
        refine R_iald X hW (t0 := 0) rfl 1 rfl (k := i) (by omega) (by decide) d_RuleText_number_21 ?_
        refine lv_bipush (v := (nI 48)) hx hb d_RuleText_number_22 (by decide +kernel) ?_
        refine N_isub (r := (un i) - 48) hx hb (hun i (by omega) (by omega)) (by omega) d_RuleText_number_24 ?_
        refine N_iadd hx hb d_RuleText_number_25 ?_
        refine lv_istore_n (lv' := [(3, .int (nI ((v * 10) + ((un i) - 48)))), (0, .ref (h 23)), (1, .int (nI x)), (2, .int (nI y)), (4, .int (nI i))]) hx hb d_RuleText_number_26 rfl hl (by decide) rfl (fun ls hl => ?_)
        refine lv_iinc (v := (nI (i + 1))) (lv' := [(4, .int (nI (i + 1))), (3, .int (nI ((v * 10) + ((un i) - 48)))), (0, .ref (h 23)), (1, .int (nI x)), (2, .int (nI y))]) hx hb d_RuleText_number_27 hl (k := 4) rfl (N_inc i) (by decide) rfl (fun ls hl => ?_)
        refine lv_goto (tgt := 5) hx hb d_RuleText_number_30 (by decide) ?_
        exact ih5 ((v * 10) + ((un i) - 48)) (i + 1) (by omega) (by rw [← he]; rfl) _ _ hW ls (lv_sub hl [2, 3, 4, 1, 0] rfl)
  exact L5 (y - x) 0 x (by omega) rfl _ _ hW ls (lv_sub hl [2, 3, 4, 1, 0] rfl)

theorem km_Rules_16 : Cond.methodLink "ContestRows$Rules" 16 arraycopyName ∈ TBL := TBL_t (List.mem_append_left _ (List.mem_of_getElem? (i := 214) rfl)) rfl
theorem kv_copy : Cond.native arraycopyName ∈ TBL := TBL_t (List.mem_append_left _ (List.mem_of_getElem? (i := 216) rfl)) rfl
theorem kt_copy : Cond.static arraycopyName ∈ TBL := TBL_t (List.mem_append_left _ (List.mem_of_getElem? (i := 215) rfl)) rfl
theorem kn_System : Cond.initialized "java/lang/System" ∈ TBL := TBL_t (List.mem_append_left _ (List.mem_of_getElem? (i := 8) rfl)) rfl
set_option maxHeartbeats 4000000 in
set_option maxRecDepth 100000 in
theorem c_Rules_beginTelling (l : Launch) (G : va_G) (cI cZ cJ : ClassId) (h : Nat → Nat) (nw : Nat → Nat) (td : Nat → Nat)   : Ct l G (tyL cI cZ cJ) y_Rules_beginTelling b_Rules_beginTelling 1 none (rmL 1) [.ref (h 25)] (w_Rul h cI cZ cJ nw td) none (w_Rul h cI cZ cJ nw (cpyN 5 nw td)) := by
  refine M_start (by decide) (Nat.le_of_ble_eq_true rfl) ?_
  intro p e s m args below meth c A Q ls X Y hW hl
  have hx := X.1.1
  have hb := X.1.2.1
  have hl : lv_has ls 1 [(0, .ref (h 25))] := hl
  refine lv_aload_n hx hb d_Rules_beginTelling_0 rfl (lv_at hl 0 rfl) ?_
  refine R_get X hW i_Rules rfl 0 (by decide) kf_Rules_7 0 rfl rfl d_Rules_beginTelling_1 ?_
  refine lv_iconst (v := (nI 0)) hx hb d_Rules_beginTelling_4 (by decide +kernel) ?_
  refine lv_aload_n hx hb d_Rules_beginTelling_5 rfl (lv_at hl 0 rfl) ?_
  refine R_get X hW i_Rules rfl 1 (by decide) kf_Rules_13 0 rfl rfl d_Rules_beginTelling_6 ?_
  refine lv_iconst (v := (nI 0)) hx hb d_Rules_beginTelling_9 (by decide +kernel) ?_
  refine lv_aload_n hx hb d_Rules_beginTelling_10 rfl (lv_at hl 0 rfl) ?_
  refine R_get X hW i_Rules rfl 0 (by decide) kf_Rules_7 0 rfl rfl d_Rules_beginTelling_11 ?_
  refine va_alen (v := nI 5) hx hb X.2.1 hW.1 1 0 rfl rfl rfl d_Rules_beginTelling_14 ?_
  refine R_copy X hW km_Rules_16 kv_copy kt_copy kn_System (X.1.2.2.1.trans hl.1.symm) 1 2 rfl rfl (by decide) (by decide) (by decide) d_Rules_beginTelling_15 (fun H locs hW => ?_)
  have hW : Wr G A s.heap (w_Rul h cI cZ cJ nw (cpyN 5 nw td)) H locs := hW
  exact R_vret X Y hW rfl rfl d_Rules_beginTelling_18

set_option maxHeartbeats 4000000 in
set_option maxRecDepth 100000 in
theorem c_Rules_endTelling (l : Launch) (G : va_G) (cI cZ cJ : ClassId) (h : Nat → Nat) (nw : Nat → Nat) (td : Nat → Nat)   : Ct l G (tyL cI cZ cJ) y_Rules_endTelling b_Rules_endTelling 1 none (rmL 1) [.ref (h 25)] (w_Rul h cI cZ cJ nw td) none (w_Rul h cI cZ cJ (cpyN 5 td nw) td) := by
  refine M_start (by decide) (Nat.le_of_ble_eq_true rfl) ?_
  intro p e s m args below meth c A Q ls X Y hW hl
  have hx := X.1.1
  have hb := X.1.2.1
  have hl : lv_has ls 1 [(0, .ref (h 25))] := hl
  refine lv_aload_n hx hb d_Rules_endTelling_0 rfl (lv_at hl 0 rfl) ?_
  refine R_get X hW i_Rules rfl 1 (by decide) kf_Rules_13 0 rfl rfl d_Rules_endTelling_1 ?_
  refine lv_iconst (v := (nI 0)) hx hb d_Rules_endTelling_4 (by decide +kernel) ?_
  refine lv_aload_n hx hb d_Rules_endTelling_5 rfl (lv_at hl 0 rfl) ?_
  refine R_get X hW i_Rules rfl 0 (by decide) kf_Rules_7 0 rfl rfl d_Rules_endTelling_6 ?_
  refine lv_iconst (v := (nI 0)) hx hb d_Rules_endTelling_9 (by decide +kernel) ?_
  refine lv_aload_n hx hb d_Rules_endTelling_10 rfl (lv_at hl 0 rfl) ?_
  refine R_get X hW i_Rules rfl 0 (by decide) kf_Rules_7 0 rfl rfl d_Rules_endTelling_11 ?_
  refine va_alen (v := nI 5) hx hb X.2.1 hW.1 1 0 rfl rfl rfl d_Rules_endTelling_14 ?_
  refine R_copy X hW km_Rules_16 kv_copy kt_copy kn_System (X.1.2.2.1.trans hl.1.symm) 2 1 rfl rfl (by decide) (by decide) (by decide) d_Rules_endTelling_15 (fun H locs hW => ?_)
  have hW : Wr G A s.heap (w_Rul h cI cZ cJ (cpyN 5 td nw) td) H locs := hW
  exact R_vret X Y hW rfl rfl d_Rules_endTelling_18

theorem km_Rules_22 : Cond.methodLink "ContestRows$Rules" 22 Lib.MathLoose.max_long.x ∈ TBL := TBL_t (List.mem_append_right _ (List.mem_append_left _ (List.mem_of_getElem? (i := 162) rfl))) rfl
theorem kt_maxl : Cond.static Lib.MathLoose.max_long.x ∈ TBL := TBL_t (List.mem_append_right _ (List.mem_append_left _ (List.mem_of_getElem? (i := 163) rfl))) rfl
theorem kb_maxl : Cond.code Lib.MathLoose.max_long.x Lib.MathLoose.max_long.code 4 (some .long) ∈ TBL := TBL_t (List.mem_append_right _ (List.mem_append_left _ (List.mem_of_getElem? (i := 164) rfl))) rfl
set_option maxHeartbeats 4000000 in
set_option maxRecDepth 100000 in
theorem c_Rules_worth (l : Launch) (G : va_G) (cI cZ cJ : ClassId) (h : Nat → Nat) (nw : Nat → Nat) (td : Nat → Nat) (g : Nat) (x : Nat) (w : Nat) (hg : g ≤ 100) (hx0 : x ≤ 1000000) (hw0 : w ≤ 300) (hnw : ∀ i, i < 5 → nw i ≤ 9999) : Ct l G (tyL cI cZ cJ) y_Rules_worth b_Rules_worth 10 (some .long) (rmL 1) [.ref (h 25), .int (nI g), .int (nI x), .int (nI w)] (w_Rul h cI cZ cJ nw td) (some (.long (lN (wth nw g x w)))) (w_Rul h cI cZ cJ nw td) := by
  refine M_start (by decide) (Nat.le_of_ble_eq_true rfl) ?_
  intro p e s m args below meth c A Q ls X Y hW hl
  have hx := X.1.1
  have hb := X.1.2.1
  have hl : lv_has ls 10 [(0, .ref (h 25)), (1, .int (nI g)), (2, .int (nI x)), (3, .int (nI w))] := hl
  have q0 := hnw 0 (by omega)
  have q1 := hnw 1 (by omega)
  have q2 := hnw 2 (by omega)
  refine lv_iload_n hx hb d_Rules_worth_0 rfl (lv_at hl 1 rfl) ?_
  refine N_i2l hx hb (by omega) d_Rules_worth_1 ?_
  refine lv_aload_n hx hb d_Rules_worth_2 rfl (lv_at hl 0 rfl) ?_
  refine R_get X hW i_Rules rfl 0 (by decide) kf_Rules_7 0 rfl rfl d_Rules_worth_3 ?_
  refine lv_iconst (v := (nI 0)) hx hb d_Rules_worth_6 (by decide +kernel) ?_
  refine R_iald X hW (t0 := 0) rfl 1 rfl (k := 0) (by omega) (by decide) d_Rules_worth_7 ?_
  refine N_i2l hx hb (by omega) d_Rules_worth_8 ?_
  refine N_lmul hx hb d_Rules_worth_9 ?_
  refine lv_lstore (lv' := [(4, .long (lN (g * (nw 0)))), (0, .ref (h 25)), (1, .int (nI g)), (2, .int (nI x)), (3, .int (nI w))]) hx hb d_Rules_worth_10 hl (by decide) rfl (fun ls hl => ?_)
  refine lv_iload_n hx hb d_Rules_worth_12 rfl (lv_at hl 2 rfl) ?_
  refine N_i2l hx hb (by omega) d_Rules_worth_13 ?_
  refine lv_aload_n hx hb d_Rules_worth_14 rfl (lv_at hl 1 rfl) ?_
  refine R_get X hW i_Rules rfl 0 (by decide) kf_Rules_7 0 rfl rfl d_Rules_worth_15 ?_
  refine lv_iconst (v := (nI 1)) hx hb d_Rules_worth_18 (by decide +kernel) ?_
  refine R_iald X hW (t0 := 0) rfl 1 rfl (k := 1) (by omega) (by decide) d_Rules_worth_19 ?_
  refine N_i2l hx hb (by omega) d_Rules_worth_20 ?_
  refine N_lmul hx hb d_Rules_worth_21 ?_
  refine lv_iload_n hx hb d_Rules_worth_22 rfl (lv_at hl 3 rfl) ?_
  refine lv_bipush (v := (nI 60)) hx hb d_Rules_worth_23 (by decide +kernel) ?_
  refine N_idiv hx hb (by omega) (by decide) (by decide) d_Rules_worth_25 ?_
  refine N_i2l hx hb (by omega) d_Rules_worth_26 ?_
  refine N_lmul hx hb d_Rules_worth_27 ?_
  refine lv_lstore (lv' := [(6, .long (lN ((g * (nw 1)) * (x / 60)))), (4, .long (lN (g * (nw 0)))), (0, .ref (h 25)), (1, .int (nI g)), (2, .int (nI x)), (3, .int (nI w))]) hx hb d_Rules_worth_28 hl (by decide) rfl (fun ls hl => ?_)
  refine lv_aload_n hx hb d_Rules_worth_30 rfl (lv_at hl 2 rfl) ?_
  refine R_get X hW i_Rules rfl 0 (by decide) kf_Rules_7 0 rfl rfl d_Rules_worth_31 ?_
  refine lv_iconst (v := (nI 2)) hx hb d_Rules_worth_34 (by decide +kernel) ?_
  refine R_iald X hW (t0 := 0) rfl 1 rfl (k := 2) (by omega) (by decide) d_Rules_worth_35 ?_
  refine N_i2l hx hb (by omega) d_Rules_worth_36 ?_
  refine lv_iload_n hx hb d_Rules_worth_37 rfl (lv_at hl 5 rfl) ?_
  refine N_i2l hx hb (by omega) d_Rules_worth_38 ?_
  refine N_lmul hx hb d_Rules_worth_39 ?_
  refine lv_lstore (lv' := [(8, .long (lN ((nw 2) * w))), (6, .long (lN ((g * (nw 1)) * (x / 60)))), (4, .long (lN (g * (nw 0)))), (0, .ref (h 25)), (1, .int (nI g)), (2, .int (nI x)), (3, .int (nI w))]) hx hb d_Rules_worth_40 hl (by decide) rfl (fun ls hl => ?_)
  refine lv_lconst (v := lN 0) hx hb d_Rules_worth_42 (by decide +kernel) ?_
  refine lv_lload hx hb d_Rules_worth_43 (lv_at hl 2 rfl) ?_
  refine lv_lload hx hb d_Rules_worth_45 (lv_at hl 1 rfl) ?_
  refine lv_lsub hx hb d_Rules_worth_47 ?_
  refine lv_lload hx hb d_Rules_worth_48 (lv_at hl 0 rfl) ?_
  refine lv_lsub hx hb d_Rules_worth_50 ?_
  refine va_mmax_long hx hb (X.1.2.2.1.trans hl.1.symm) X.1.2.2.2.1 (X.1.2.2.2.2 _ km_Rules_22) (X.1.2.2.2.2 _ kt_maxl) (X.1.2.2.2.2 _ kn_Math) (X.1.2.2.2.2 _ kb_maxl) (by decide) (by decide) (Nat.zero_le _) (Nat.zero_le _) d_Rules_worth_51 ?_
  exact R_lret X Y hW rfl (by rw [wth_max hg hx0 hw0 q0 q1 q2]) d_Rules_worth_54
end
section
theorem kf_Top_26 : Cond.fieldLink "ContestRows" 26 "ContestRows" "submissions" "LContestRows$Submissions;" ∈ TBL := TBL_t (List.mem_append_left _ (List.mem_of_getElem? (i := 144) rfl)) rfl
theorem kf_Top_159 : Cond.fieldLink "ContestRows" 159 "ContestRows$Submissions" "seconds" "[I" ∈ TBL := TBL_t (List.mem_append_left _ (List.mem_of_getElem? (i := 93) rfl)) rfl
theorem kf_Top_19 : Cond.fieldLink "ContestRows" 19 "ContestRows" "persons" "LContestRows$Persons;" ∈ TBL := TBL_t (List.mem_append_left _ (List.mem_of_getElem? (i := 143) rfl)) rfl
theorem kf_Top_84 : Cond.fieldLink "ContestRows" 84 "ContestRows$Persons" "starts" "[I" ∈ TBL := TBL_t (List.mem_append_left _ (List.mem_of_getElem? (i := 61) rfl)) rfl
theorem kf_Top_142 : Cond.fieldLink "ContestRows" 142 "ContestRows$Submissions" "persons" "[I" ∈ TBL := TBL_t (List.mem_append_left _ (List.mem_of_getElem? (i := 89) rfl)) rfl
set_option maxHeartbeats 4000000 in
set_option maxRecDepth 100000 in
theorem c_Top_secondsFromStart (l : Launch) (G : va_G) (cI cZ cJ : ClassId) (h : Nat → Nat) (wr : Nat → Nat) (se : Nat → Bool) (ga : Nat → Option Nat) (tw : Nat → Option Nat) (np : Nat) (tot : Nat) (gr : Nat → Nat) (fa : Nat → Nat) (re : Nat → Bool) (ss : Nat → Nat) (sc : Nat → Nat) (ne : Nat) (stt : Nat → Option Nat) (sco : Nat → Nat) (tim : Nat → Nat) (cnt : Nat → Nat) (ns : Nat) (sp : Nat → Nat) (sq : Nat → Nat) (sec : Nat → Nat) (rt : Nat → Bool) (it : Nat → Nat) (ans : Nat → Nat) (tl : Nat) (un : Nat → Nat) (nw : Nat → Nat) (td : Nat → Nat) (b : Nat) (s0 : Nat) (hb0 : b < 300) (hsp : sp b < 20) (hs0 : stt (sp b) = some s0) (hle : s0 ≤ sec b) : Ct l G (tyL cI cZ cJ) y_Top_secondsFromStart b_Top_secondsFromStart 2 (some .int) (rmL 0) [.ref (h 0), .int (nI b)] (w_All h cI cZ cJ wr se ga tw np tot gr fa re ss sc ne stt sco tim cnt ns sp sq sec rt it ans tl un nw td) (some (.int (nI (sec b - s0)))) (w_All h cI cZ cJ wr se ga tw np tot gr fa re ss sc ne stt sco tim cnt ns sp sq sec rt it ans tl un nw td) := by
  refine M_start (by decide) (Nat.le_of_ble_eq_true rfl) ?_
  intro p e s m args below meth c A Q ls X Y hW hl
  have hx := X.1.1
  have hb := X.1.2.1
  have hl : lv_has ls 2 [(0, .ref (h 0)), (1, .int (nI b))] := hl
  refine lv_aload_n hx hb d_Top_secondsFromStart_0 rfl (lv_at hl 0 rfl) ?_
  refine R_get X hW i_Top rfl 2 (by decide) kf_Top_26 0 rfl rfl d_Top_secondsFromStart_1 ?_
  refine R_get X hW i_Submissions rfl 2 (by decide) kf_Top_159 16 rfl rfl d_Top_secondsFromStart_4 ?_
  refine lv_iload_n hx hb d_Top_secondsFromStart_7 rfl (lv_at hl 1 rfl) ?_
  refine R_iald X hW (t0 := 0) rfl 19 rfl (k := b) (by omega) (by decide) d_Top_secondsFromStart_8 ?_
  refine lv_aload_n hx hb d_Top_secondsFromStart_9 rfl (lv_at hl 0 rfl) ?_
  refine R_get X hW i_Top rfl 1 (by decide) kf_Top_19 0 rfl rfl d_Top_secondsFromStart_10 ?_
  refine R_get X hW i_Persons rfl 0 (by decide) kf_Top_84 11 rfl rfl d_Top_secondsFromStart_13 ?_
  refine lv_aload_n hx hb d_Top_secondsFromStart_16 rfl (lv_at hl 0 rfl) ?_
  refine R_get X hW i_Top rfl 2 (by decide) kf_Top_26 0 rfl rfl d_Top_secondsFromStart_17 ?_
  refine R_get X hW i_Submissions rfl 0 (by decide) kf_Top_142 16 rfl rfl d_Top_secondsFromStart_20 ?_
  refine lv_iload_n hx hb d_Top_secondsFromStart_23 rfl (lv_at hl 1 rfl) ?_
  refine R_iald X hW (t0 := 0) rfl 17 rfl (k := b) (by omega) (by decide) d_Top_secondsFromStart_24 ?_
  refine R_iald X hW (t0 := 0) rfl 12 rfl (k := (sp b)) (by omega) (by decide) d_Top_secondsFromStart_25 ?_
  refine W.eq (g2 := F0 m 26 ls (.int (nI s0) :: .int (nI (sec b)) :: [])) (by rw [hs0]; first | done | rfl) ?_
  refine N_isub (r := (sec b) - s0) hx hb (by omega) (by omega) d_Top_secondsFromStart_26 ?_
  exact R_iret X Y hW rfl rfl d_Top_secondsFromStart_27

theorem kf_Top_172 : Cond.fieldLink "ContestRows" 172 "ContestRows$Submissions" "puzzles" "[I" ∈ TBL := TBL_t (List.mem_append_left _ (List.mem_of_getElem? (i := 91) rfl)) rfl
theorem kf_Top_48 : Cond.fieldLink "ContestRows" 48 "ContestRows" "settled" "[Z" ∈ TBL := TBL_t (List.mem_append_left _ (List.mem_of_getElem? (i := 148) rfl)) rfl
theorem kf_Top_92 : Cond.fieldLink "ContestRows" 92 "ContestRows$Submissions" "rights" "[Z" ∈ TBL := TBL_t (List.mem_append_left _ (List.mem_of_getElem? (i := 95) rfl)) rfl
theorem kb_Top_secondsFromStart : Cond.code y_Top_secondsFromStart b_Top_secondsFromStart 2 (some .int) ∈ TBL := TBL_t (List.mem_append_right _ (List.mem_append_left _ (List.mem_of_getElem? (i := 132) rfl))) rfl
theorem kn_Top : Cond.initialized "ContestRows" ∈ TBL := TBL_t (List.mem_append_left _ (List.mem_of_getElem? (i := 1) rfl)) rfl
theorem km_Top_95 : Cond.methodLink "ContestRows" 95 y_Top_secondsFromStart ∈ TBL := TBL_t (List.mem_append_right _ (List.mem_append_left _ (List.mem_of_getElem? (i := 129) rfl))) rfl
theorem cw_Top_95 : Cw "ContestRows" 95 y_Top_secondsFromStart b_Top_secondsFromStart 2 (some .int) 1 := ⟨kb_Top_secondsFromStart, kn_Top, km_Top_95, by decide +kernel⟩
theorem ki_Top_secondsFromStart : Cond.instanceMethod y_Top_secondsFromStart ∈ TBL := TBL_t (List.mem_append_right _ (List.mem_append_left _ (List.mem_of_getElem? (i := 131) rfl))) rfl
theorem ks_Top_secondsFromStart : Cond.selects "ContestRows" y_Top_secondsFromStart y_Top_secondsFromStart ∈ TBL := TBL_in (List.mem_append_left _ (List.mem_map.mpr ⟨(y_Top_secondsFromStart, 9), by decide +kernel, rfl⟩)) rfl
theorem kf_Top_40 : Cond.fieldLink "ContestRows" 40 "ContestRows" "inForce" "LContestRows$Rules;" ∈ TBL := TBL_t (List.mem_append_left _ (List.mem_of_getElem? (i := 146) rfl)) rfl
theorem kb_Rules_isLate : Cond.code y_Rules_isLate b_Rules_isLate 2 (some .boolean) ∈ TBL := TBL_t (List.mem_append_right _ (List.mem_append_left _ (List.mem_of_getElem? (i := 136) rfl))) rfl
theorem kn_Rules : Cond.initialized "ContestRows$Rules" ∈ TBL := TBL_t (List.mem_append_left _ (List.mem_of_getElem? (i := 6) rfl)) rfl
theorem km_Top_98 : Cond.methodLink "ContestRows" 98 y_Rules_isLate ∈ TBL := TBL_t (List.mem_append_right _ (List.mem_append_left _ (List.mem_of_getElem? (i := 133) rfl))) rfl
theorem cw_Top_98 : Cw "ContestRows" 98 y_Rules_isLate b_Rules_isLate 2 (some .boolean) 1 := ⟨kb_Rules_isLate, kn_Rules, km_Top_98, by decide +kernel⟩
theorem ki_Rules_isLate : Cond.instanceMethod y_Rules_isLate ∈ TBL := TBL_t (List.mem_append_right _ (List.mem_append_left _ (List.mem_of_getElem? (i := 134) rfl))) rfl
theorem ks_Rules_isLate : Cond.selects "ContestRows$Rules" y_Rules_isLate y_Rules_isLate ∈ TBL := TBL_t (List.mem_append_right _ (List.mem_append_left _ (List.mem_of_getElem? (i := 135) rfl))) rfl
theorem kf_Top_52 : Cond.fieldLink "ContestRows" 52 "ContestRows" "gained" "[J" ∈ TBL := TBL_t (List.mem_append_left _ (List.mem_of_getElem? (i := 149) rfl)) rfl
theorem kf_Top_10 : Cond.fieldLink "ContestRows" 10 "ContestRows" "puzzles" "LContestRows$Puzzles;" ∈ TBL := TBL_t (List.mem_append_left _ (List.mem_of_getElem? (i := 142) rfl)) rfl
theorem kf_Top_174 : Cond.fieldLink "ContestRows" 174 "ContestRows$Puzzles" "grades" "[I" ∈ TBL := TBL_t (List.mem_append_left _ (List.mem_of_getElem? (i := 30) rfl)) rfl
theorem kf_Top_44 : Cond.fieldLink "ContestRows" 44 "ContestRows" "wrongs" "[I" ∈ TBL := TBL_t (List.mem_append_left _ (List.mem_of_getElem? (i := 147) rfl)) rfl
theorem kb_Rules_worth : Cond.code y_Rules_worth b_Rules_worth 10 (some .long) ∈ TBL := TBL_t (List.mem_append_right _ (List.mem_append_left _ (List.mem_of_getElem? (i := 161) rfl))) rfl
theorem km_Top_177 : Cond.methodLink "ContestRows" 177 y_Rules_worth ∈ TBL := TBL_t (List.mem_append_right _ (List.mem_append_left _ (List.mem_of_getElem? (i := 158) rfl))) rfl
theorem cw_Top_177 : Cw "ContestRows" 177 y_Rules_worth b_Rules_worth 10 (some .long) 3 := ⟨kb_Rules_worth, kn_Rules, km_Top_177, by decide +kernel⟩
theorem ki_Rules_worth : Cond.instanceMethod y_Rules_worth ∈ TBL := TBL_t (List.mem_append_right _ (List.mem_append_left _ (List.mem_of_getElem? (i := 159) rfl))) rfl
theorem ks_Rules_worth : Cond.selects "ContestRows$Rules" y_Rules_worth y_Rules_worth ∈ TBL := TBL_t (List.mem_append_right _ (List.mem_append_left _ (List.mem_of_getElem? (i := 160) rfl))) rfl
theorem kb_Persons_addToSums : Cond.code y_Persons_addToSums b_Persons_addToSums 5 none ∈ TBL := TBL_t (List.mem_append_right _ (List.mem_append_left _ (List.mem_of_getElem? (i := 168) rfl))) rfl
theorem km_Top_181 : Cond.methodLink "ContestRows" 181 y_Persons_addToSums ∈ TBL := TBL_t (List.mem_append_right _ (List.mem_append_left _ (List.mem_of_getElem? (i := 165) rfl))) rfl
theorem cw_Top_181 : Cw "ContestRows" 181 y_Persons_addToSums b_Persons_addToSums 5 none 3 := ⟨kb_Persons_addToSums, kn_Persons, km_Top_181, by decide +kernel⟩
theorem ki_Persons_addToSums : Cond.instanceMethod y_Persons_addToSums ∈ TBL := TBL_t (List.mem_append_right _ (List.mem_append_left _ (List.mem_of_getElem? (i := 166) rfl))) rfl
theorem ks_Persons_addToSums : Cond.selects "ContestRows$Persons" y_Persons_addToSums y_Persons_addToSums ∈ TBL := TBL_t (List.mem_append_right _ (List.mem_append_left _ (List.mem_of_getElem? (i := 167) rfl))) rfl
set_option maxHeartbeats 4000000 in
set_option maxRecDepth 100000 in
theorem c_Top_take (l : Launch) (G : va_G) (cI cZ cJ : ClassId) (h : Nat → Nat) (wr : Nat → Nat) (se : Nat → Bool) (ga : Nat → Option Nat) (tw : Nat → Option Nat) (np : Nat) (tot : Nat) (gr : Nat → Nat) (fa : Nat → Nat) (re : Nat → Bool) (ss : Nat → Nat) (sc : Nat → Nat) (ne : Nat) (stt : Nat → Option Nat) (sco : Nat → Nat) (tim : Nat → Nat) (cnt : Nat → Nat) (ns : Nat) (sp : Nat → Nat) (sq : Nat → Nat) (sec : Nat → Nat) (rt : Nat → Bool) (it : Nat → Nat) (ans : Nat → Nat) (tl : Nat) (un : Nat → Nat) (nw : Nat → Nat) (td : Nat → Nat) (x : Nat) (b : Nat) (s0 : Nat) (hx0 : x < 20) (hb0 : b < 300) (hsp : sp b < 20) (hsq : sq b < 20) (hs0 : stt (sp b) = some s0) (hle : s0 ≤ sec b) (hse : sec b ≤ 1000000) (hgr : gr (sq b) ≤ 100) (hnw : ∀ i, i < 5 → nw i ≤ 9999) (hwr : wr (sq b) ≤ 300) : Ct l G (tyL cI cZ cJ) y_Top_take b_Top_take 5 none (rmL 2) [.ref (h 0), .int (nI x), .int (nI b)] (w_All h cI cZ cJ wr se ga tw np tot gr fa re ss sc ne stt sco tim cnt ns sp sq sec rt it ans tl un nw td) none (w_All h cI cZ cJ ((tkF gr nw sp sq sec rt stt x b (wr, se, ga, sco, tim, cnt)).1) ((tkF gr nw sp sq sec rt stt x b (wr, se, ga, sco, tim, cnt)).2.1) ((tkF gr nw sp sq sec rt stt x b (wr, se, ga, sco, tim, cnt)).2.2.1) tw np tot gr fa re ss sc ne stt ((tkF gr nw sp sq sec rt stt x b (wr, se, ga, sco, tim, cnt)).2.2.2.1) ((tkF gr nw sp sq sec rt stt x b (wr, se, ga, sco, tim, cnt)).2.2.2.2.1) ((tkF gr nw sp sq sec rt stt x b (wr, se, ga, sco, tim, cnt)).2.2.2.2.2) ns sp sq sec rt it ans tl un nw td) := by
  refine M_start (by decide) (Nat.le_of_ble_eq_true rfl) ?_
  intro p e s m args below meth c A Q ls X Y hW hl
  have hx := X.1.1
  have hb := X.1.2.1
  have hl : lv_has ls 5 [(0, .ref (h 0)), (1, .int (nI x)), (2, .int (nI b))] := hl
  have hsf : sfs sec sp stt b = sec b - s0 := by simp [sfs, hs0]
  refine lv_aload_n hx hb d_Top_take_0 rfl (lv_at hl 0 rfl) ?_
  refine R_get X hW i_Top rfl 2 (by decide) kf_Top_26 0 rfl rfl d_Top_take_1 ?_
  refine R_get X hW i_Submissions rfl 1 (by decide) kf_Top_172 16 rfl rfl d_Top_take_4 ?_
  refine lv_iload_n hx hb d_Top_take_7 rfl (lv_at hl 2 rfl) ?_
  refine R_iald X hW (t0 := 0) rfl 18 rfl (k := b) (by omega) (by decide) d_Top_take_8 ?_
  refine lv_istore_n (lv' := [(3, .int (nI (sq b))), (0, .ref (h 0)), (1, .int (nI x)), (2, .int (nI b))]) hx hb d_Top_take_9 rfl hl (by decide) rfl (fun ls hl => ?_)
  refine lv_aload_n hx hb d_Top_take_10 rfl (lv_at hl 1 rfl) ?_
  refine R_get X hW i_Top rfl 6 (by decide) kf_Top_48 0 rfl rfl d_Top_take_11 ?_
  refine lv_iload_n hx hb d_Top_take_14 rfl (lv_at hl 0 rfl) ?_
  refine R_zald X hW (t0 := 1) rfl 2 rfl (k := (sq b)) (by omega) (by decide) d_Top_take_15 ?_
  refine N_if_eq_B hx hb  (tgt := 20) d_Top_take_16 (by decide) (fun c16 => ?_) (fun c16 => ?_)
  · refine lv_aload_n hx hb d_Top_take_20 rfl (lv_at hl 1 rfl) ?_
    refine R_get X hW i_Top rfl 2 (by decide) kf_Top_26 0 rfl rfl d_Top_take_21 ?_
    refine R_get X hW i_Submissions rfl 3 (by decide) kf_Top_92 16 rfl rfl d_Top_take_24 ?_
    refine lv_iload_n hx hb d_Top_take_27 rfl (lv_at hl 3 rfl) ?_
    refine R_zald X hW (t0 := 1) rfl 20 rfl (k := b) (by omega) (by decide) d_Top_take_28 ?_
    refine N_if_ne_B hx hb  (tgt := 43) d_Top_take_29 (by decide) (fun c29 => ?_) (fun c29 => ?_)
    · refine lv_aload_n hx hb d_Top_take_43 rfl (lv_at hl 1 rfl) ?_
      refine R_get X hW i_Top rfl 6 (by decide) kf_Top_48 0 rfl rfl d_Top_take_44 ?_
      refine lv_iload_n hx hb d_Top_take_47 rfl (lv_at hl 0 rfl) ?_
      refine lv_iconst (v := (nI 1)) hx hb d_Top_take_48 (by decide +kernel) ?_
      refine R_zast X hW (t0 := 1) rfl 2 rfl (k := (sq b)) (by omega) (by decide) true (by decide +kernel) d_Top_take_49 (fun H locs hW => ?_)
      have hW : Wr G A s.heap (w_All h cI cZ cJ wr (va_up se (sq b) true) ga tw np tot gr fa re ss sc ne stt sco tim cnt ns sp sq sec rt it ans tl un nw td) H locs := hW
      refine lv_aload_n hx hb d_Top_take_50 rfl (lv_at hl 1 rfl) ?_
      refine lv_iload_n hx hb d_Top_take_51 rfl (lv_at hl 3 rfl) ?_
      refine R_callV (q0 := 0) (c_Top_secondsFromStart l G cI cZ cJ h wr (va_up se (sq b) true) ga tw np tot gr fa re ss sc ne stt sco tim cnt ns sp sq sec rt it ans tl un nw td b s0 hb0 hsp hs0 hle) X rfl hW cw_Top_95 ki_Top_secondsFromStart ks_Top_secondsFromStart rfl rfl ⟨rfl, rfl⟩ ⟨by decide, by decide⟩ ⟨Nat.zero_le _, Nat.zero_le _⟩ [true, true, true, true, true, true, true, true, true, true, true, true, true, true, true, true, true, true, true, true, true, true, true, true, true, true, true, true] rfl (Nat.le_of_ble_eq_true rfl) rfl rfl hl.1 rfl rfl (Nat.le_of_ble_eq_true rfl) d_Top_take_52 rfl (fun H locs hW => ?_)
      have hW : Wr G A s.heap (w_All h cI cZ cJ wr (va_up se (sq b) true) ga tw np tot gr fa re ss sc ne stt sco tim cnt ns sp sq sec rt it ans tl un nw td) H locs := hW
      refine lv_istore (lv' := [(4, .int (nI (sec b - s0))), (3, .int (nI (sq b))), (0, .ref (h 0)), (1, .int (nI x)), (2, .int (nI b))]) hx hb d_Top_take_55 hl (by decide) rfl (fun ls hl => ?_)
      refine lv_aload_n hx hb d_Top_take_57 rfl (lv_at hl 2 rfl) ?_
      refine R_get X hW i_Top rfl 4 (by decide) kf_Top_40 0 rfl rfl d_Top_take_58 ?_
      refine lv_iload hx hb d_Top_take_61 (lv_at hl 0 rfl) ?_
      refine R_callV (q0 := 25) (c_Rules_isLate l G cI cZ cJ h nw td (sec b - s0) (by omega) hnw) X rfl hW cw_Top_98 ki_Rules_isLate ks_Rules_isLate rfl rfl ⟨rfl, rfl⟩ ⟨by decide, by decide⟩ ⟨Nat.zero_le _, Nat.zero_le _⟩ [false, false, false, false, false, false, false, false, false, false, false, false, false, false, false, false, false, false, false, false, false, false, false, false, false, true, true, true] rfl (Nat.le_of_ble_eq_true rfl) rfl rfl hl.1 rfl rfl (Nat.le_of_ble_eq_true rfl) d_Top_take_63 rfl (fun H locs hW => ?_)
      have hW : Wr G A s.heap (w_All h cI cZ cJ wr (va_up se (sq b) true) ga tw np tot gr fa re ss sc ne stt sco tim cnt ns sp sq sec rt it ans tl un nw td) H locs := hW
      refine N_if_eq_B hx hb  (tgt := 70) d_Top_take_66 (by decide) (fun c66 => ?_) (fun c66 => ?_)
      · refine lv_aload_n hx hb d_Top_take_70 rfl (lv_at hl 2 rfl) ?_
        refine R_get X hW i_Top rfl 7 (by decide) kf_Top_52 0 rfl rfl d_Top_take_71 ?_
        refine lv_iload_n hx hb d_Top_take_74 rfl (lv_at hl 1 rfl) ?_
        refine lv_aload_n hx hb d_Top_take_75 rfl (lv_at hl 2 rfl) ?_
        refine R_get X hW i_Top rfl 4 (by decide) kf_Top_40 0 rfl rfl d_Top_take_76 ?_
        refine lv_aload_n hx hb d_Top_take_79 rfl (lv_at hl 2 rfl) ?_
        refine R_get X hW i_Top rfl 0 (by decide) kf_Top_10 0 rfl rfl d_Top_take_80 ?_
        refine R_get X hW i_Puzzles rfl 0 (by decide) kf_Top_174 5 rfl rfl d_Top_take_83 ?_
        refine lv_iload_n hx hb d_Top_take_86 rfl (lv_at hl 1 rfl) ?_
        refine R_iald X hW (t0 := 0) rfl 6 rfl (k := (sq b)) (by omega) (by decide) d_Top_take_87 ?_
        refine lv_iload hx hb d_Top_take_88 (lv_at hl 0 rfl) ?_
        refine lv_aload_n hx hb d_Top_take_90 rfl (lv_at hl 2 rfl) ?_
        refine R_get X hW i_Top rfl 5 (by decide) kf_Top_44 0 rfl rfl d_Top_take_91 ?_
        refine lv_iload_n hx hb d_Top_take_94 rfl (lv_at hl 1 rfl) ?_
        refine R_iald X hW (t0 := 0) rfl 1 rfl (k := (sq b)) (by omega) (by decide) d_Top_take_95 ?_
        refine R_callV (q0 := 25) (c_Rules_worth l G cI cZ cJ h nw td (gr (sq b)) (sec b - s0) (wr (sq b)) hgr (by omega) hwr hnw) X rfl hW cw_Top_177 ki_Rules_worth ks_Rules_worth rfl rfl ⟨rfl, rfl⟩ ⟨by decide, by decide⟩ ⟨Nat.zero_le _, Nat.zero_le _⟩ [false, false, false, false, false, false, false, false, false, false, false, false, false, false, false, false, false, false, false, false, false, false, false, false, false, true, true, true] rfl (Nat.le_of_ble_eq_true rfl) rfl rfl hl.1 rfl rfl (Nat.le_of_ble_eq_true rfl) d_Top_take_96 rfl (fun H locs hW => ?_)
        have hW : Wr G A s.heap (w_All h cI cZ cJ wr (va_up se (sq b) true) ga tw np tot gr fa re ss sc ne stt sco tim cnt ns sp sq sec rt it ans tl un nw td) H locs := hW
        refine R_last X hW (t0 := 2) rfl 3 rfl (k := (sq b)) (by omega) (by decide) (some (wth nw (gr (sq b)) (sec b - s0) (wr (sq b)))) rfl d_Top_take_99 (fun H locs hW => ?_)
        have hW : Wr G A s.heap (w_All h cI cZ cJ wr (va_up se (sq b) true) (va_up ga (sq b) (some (wth nw (gr (sq b)) (sec b - s0) (wr (sq b))))) tw np tot gr fa re ss sc ne stt sco tim cnt ns sp sq sec rt it ans tl un nw td) H locs := hW
        refine lv_aload_n hx hb d_Top_take_100 rfl (lv_at hl 2 rfl) ?_
        refine R_get X hW i_Top rfl 1 (by decide) kf_Top_19 0 rfl rfl d_Top_take_101 ?_
        refine lv_iload_n hx hb d_Top_take_104 rfl (lv_at hl 3 rfl) ?_
        refine lv_aload_n hx hb d_Top_take_105 rfl (lv_at hl 2 rfl) ?_
        refine R_get X hW i_Top rfl 7 (by decide) kf_Top_52 0 rfl rfl d_Top_take_106 ?_
        refine lv_iload_n hx hb d_Top_take_109 rfl (lv_at hl 1 rfl) ?_
        refine R_lald X hW (t0 := 2) rfl 3 rfl (k := (sq b)) (by omega) (by decide) d_Top_take_110 ?_
        refine W.eq (g2 := F0 m 111 ls (.long (lN (wth nw (gr (sq b)) (sec b - s0) (wr (sq b)))) :: .int (nI x) :: .ref (h 11) :: [])) (by rw [va_up_self]; first | done | rfl) ?_
        refine lv_iload hx hb d_Top_take_111 (lv_at hl 0 rfl) ?_
        refine R_callV (q0 := 11) (c_Persons_addToSums l G cI cZ cJ h ne stt sco tim cnt x (wth nw (gr (sq b)) (sec b - s0) (wr (sq b))) (sec b - s0) hx0 (by omega)) X rfl hW cw_Top_181 ki_Persons_addToSums ks_Persons_addToSums rfl rfl ⟨rfl, rfl⟩ ⟨by decide, by decide⟩ ⟨Nat.zero_le _, Nat.zero_le _⟩ [false, false, false, false, false, false, false, false, false, false, false, true, true, true, true, true, false, false, false, false, false, false, false, false, false, false, false, false] rfl (Nat.le_of_ble_eq_true rfl) rfl rfl hl.1 rfl rfl (Nat.le_of_ble_eq_true rfl) d_Top_take_113 rfl (fun H locs hW => ?_)
        have hW : Wr G A s.heap (w_All h cI cZ cJ wr (va_up se (sq b) true) (va_up ga (sq b) (some (wth nw (gr (sq b)) (sec b - s0) (wr (sq b))))) tw np tot gr fa re ss sc ne stt (va_up sco x (sco x + (wth nw (gr (sq b)) (sec b - s0) (wr (sq b))))) (va_up tim x (tim x + (sec b - s0))) (va_up cnt x (cnt x + 1)) ns sp sq sec rt it ans tl un nw td) H locs := hW
        exact R_vret X Y hW (by rw [show tkF gr nw sp sq sec rt stt x b (wr, se, ga, sco, tim, cnt) = (wr, va_up se (sq b) true, va_up ga (sq b) (some (wth nw (gr (sq b)) (sec b - s0) (wr (sq b)))), va_up sco x (sco x + (wth nw (gr (sq b)) (sec b - s0) (wr (sq b)))), va_up tim x (tim x + (sec b - s0)), va_up cnt x (cnt x + 1)) from by unfold tkF; dsimp only; rw [if_neg (by simp [c16]), if_neg (by simp [c29]), if_neg (by rw [hsf]; simpa using c66), hsf]]) rfl d_Top_take_116
      · exact R_vret X Y hW (by rw [show tkF gr nw sp sq sec rt stt x b (wr, se, ga, sco, tim, cnt) = (wr, va_up se (sq b) true, ga, sco, tim, cnt) from by unfold tkF; dsimp only; rw [if_neg (by simp [c16]), if_neg (by simp [c29]), if_pos (by rw [hsf]; simpa using c66)]]) rfl d_Top_take_69
    · refine lv_aload_n hx hb d_Top_take_32 rfl (lv_at hl 1 rfl) ?_
      refine R_get X hW i_Top rfl 5 (by decide) kf_Top_44 0 rfl rfl d_Top_take_33 ?_
      refine lv_iload_n hx hb d_Top_take_36 rfl (lv_at hl 0 rfl) ?_
      refine lv_dup2_11 hx hb d_Top_take_37 rfl rfl ?_
      refine R_iald X hW (t0 := 0) rfl 1 rfl (k := (sq b)) (by omega) (by decide) d_Top_take_38 ?_
      refine lv_iconst (v := (nI 1)) hx hb d_Top_take_39 (by decide +kernel) ?_
      refine N_iadd hx hb d_Top_take_40 ?_
      refine R_iast X hW (t0 := 0) rfl 1 rfl (k := (sq b)) (by omega) (by decide) ((wr (sq b)) + 1) rfl d_Top_take_41 (fun H locs hW => ?_)
      have hW : Wr G A s.heap (w_All h cI cZ cJ (va_up wr (sq b) ((wr (sq b)) + 1)) se ga tw np tot gr fa re ss sc ne stt sco tim cnt ns sp sq sec rt it ans tl un nw td) H locs := hW
      exact R_vret X Y hW (by rw [show tkF gr nw sp sq sec rt stt x b (wr, se, ga, sco, tim, cnt) = (va_up wr (sq b) ((wr (sq b)) + 1), se, ga, sco, tim, cnt) from by unfold tkF; dsimp only; rw [if_neg (by simp [c16]), if_pos c29]]) rfl d_Top_take_42
  · exact R_vret X Y hW (by rw [show tkF gr nw sp sq sec rt stt x b (wr, se, ga, sco, tim, cnt) = (wr, se, ga, sco, tim, cnt) from by unfold tkF; dsimp only; rw [if_pos c16]]) rfl d_Top_take_19

theorem kb_Persons_clearSums : Cond.code y_Persons_clearSums b_Persons_clearSums 2 none ∈ TBL := TBL_t (List.mem_append_right _ (List.mem_append_left _ (List.mem_of_getElem? (i := 153) rfl))) rfl
theorem km_Top_162 : Cond.methodLink "ContestRows" 162 y_Persons_clearSums ∈ TBL := TBL_t (List.mem_append_right _ (List.mem_append_left _ (List.mem_of_getElem? (i := 150) rfl))) rfl
theorem cw_Top_162 : Cw "ContestRows" 162 y_Persons_clearSums b_Persons_clearSums 2 none 1 := ⟨kb_Persons_clearSums, kn_Persons, km_Top_162, by decide +kernel⟩
theorem ki_Persons_clearSums : Cond.instanceMethod y_Persons_clearSums ∈ TBL := TBL_t (List.mem_append_right _ (List.mem_append_left _ (List.mem_of_getElem? (i := 151) rfl))) rfl
theorem ks_Persons_clearSums : Cond.selects "ContestRows$Persons" y_Persons_clearSums y_Persons_clearSums ∈ TBL := TBL_t (List.mem_append_right _ (List.mem_append_left _ (List.mem_of_getElem? (i := 152) rfl))) rfl
theorem kf_Top_134 : Cond.fieldLink "ContestRows" 134 "ContestRows$Submissions" "many" "I" ∈ TBL := TBL_t (List.mem_append_left _ (List.mem_of_getElem? (i := 99) rfl)) rfl
theorem kf_Top_165 : Cond.fieldLink "ContestRows" 165 "ContestRows$Submissions" "inTime" "[I" ∈ TBL := TBL_t (List.mem_append_left _ (List.mem_of_getElem? (i := 97) rfl)) rfl
theorem kb_Top_take : Cond.code y_Top_take b_Top_take 5 none ∈ TBL := TBL_t (List.mem_append_right _ (List.mem_append_left _ (List.mem_of_getElem? (i := 157) rfl))) rfl
theorem km_Top_168 : Cond.methodLink "ContestRows" 168 y_Top_take ∈ TBL := TBL_t (List.mem_append_right _ (List.mem_append_left _ (List.mem_of_getElem? (i := 154) rfl))) rfl
theorem cw_Top_168 : Cw "ContestRows" 168 y_Top_take b_Top_take 5 none 2 := ⟨kb_Top_take, kn_Top, km_Top_168, by decide +kernel⟩
theorem ki_Top_take : Cond.instanceMethod y_Top_take ∈ TBL := TBL_t (List.mem_append_right _ (List.mem_append_left _ (List.mem_of_getElem? (i := 156) rfl))) rfl
theorem ks_Top_take : Cond.selects "ContestRows" y_Top_take y_Top_take ∈ TBL := TBL_in (List.mem_append_left _ (List.mem_map.mpr ⟨(y_Top_take, 9), by decide +kernel, rfl⟩)) rfl
theorem kl_Top_101 : Cond.constantLong "ContestRows" 101 (-1) ∈ TBL := TBL_t (List.mem_append_right _ (List.mem_append_left _ (List.mem_of_getElem? (i := 141) rfl))) rfl
set_option maxHeartbeats 4000000 in
set_option maxRecDepth 100000 in
theorem c_Top_workOut (l : Launch) (G : va_G) (cI cZ cJ : ClassId) (h : Nat → Nat) (wr : Nat → Nat) (se : Nat → Bool) (ga : Nat → Option Nat) (tw : Nat → Option Nat) (np : Nat) (tot : Nat) (gr : Nat → Nat) (fa : Nat → Nat) (re : Nat → Bool) (ss : Nat → Nat) (sc : Nat → Nat) (ne : Nat) (stt : Nat → Option Nat) (sco : Nat → Nat) (tim : Nat → Nat) (cnt : Nat → Nat) (ns : Nat) (sp : Nat → Nat) (sq : Nat → Nat) (sec : Nat → Nat) (rt : Nat → Bool) (it : Nat → Nat) (ans : Nat → Nat) (tl : Nat) (un : Nat → Nat) (nw : Nat → Nat) (td : Nat → Nat) (x : Nat) (hx0 : x < 20) (hI : IS np ne ns gr nw sp sq sec it ans stt) : Ct l G (tyL cI cZ cJ) y_Top_workOut b_Top_workOut 4 none (rmL 3) [.ref (h 0), .int (nI x)] (w_All h cI cZ cJ wr se ga tw np tot gr fa re ss sc ne stt sco tim cnt ns sp sq sec rt it ans tl un nw td) none (w_All h cI cZ cJ ((woF gr nw sp sq sec it rt stt ns x (wr, se, ga, sco, tim, cnt)).1) ((woF gr nw sp sq sec it rt stt ns x (wr, se, ga, sco, tim, cnt)).2.1) ((woF gr nw sp sq sec it rt stt ns x (wr, se, ga, sco, tim, cnt)).2.2.1) tw np tot gr fa re ss sc ne stt ((woF gr nw sp sq sec it rt stt ns x (wr, se, ga, sco, tim, cnt)).2.2.2.1) ((woF gr nw sp sq sec it rt stt ns x (wr, se, ga, sco, tim, cnt)).2.2.2.2.1) ((woF gr nw sp sq sec it rt stt ns x (wr, se, ga, sco, tim, cnt)).2.2.2.2.2) ns sp sq sec rt it ans tl un nw td) := by
  refine M_start (by decide) (Nat.le_of_ble_eq_true rfl) ?_
  intro p e s m args below meth c A Q ls X Y hW hl
  have hx := X.1.1
  have hb := X.1.2.1
  have hl : lv_has ls 4 [(0, .ref (h 0)), (1, .int (nI x))] := hl
  obtain ⟨z1, z2, z3, z4, z5, z6, z7, z8, z9, z10, z11, z12, z13⟩ := id hI
  refine lv_iconst (v := (nI 0)) hx hb d_Top_workOut_0 (by decide +kernel) ?_
  refine lv_istore_n (lv' := [(2, .int (nI 0)), (0, .ref (h 0)), (1, .int (nI x))]) hx hb d_Top_workOut_1 rfl hl (by decide) rfl (fun ls hl => ?_)
  have L2 : ∀ (n : Nat) (i : Nat) (hi : i + n = 20) (H : Heap) (locs : List Loc) (hW : Wr G A s.heap (w_All h cI cZ cJ (upK 0 i wr) (upK false i se) (upK none i ga) tw np tot gr fa re ss sc ne stt sco tim cnt ns sp sq sec rt it ans tl un nw td) H locs) (ls : Array Slot) (hl : lv_has ls 4 [(0, .ref (h 0)), (1, .int (nI x)), (2, .int (nI i))]), W p l e (rmL 3) s m args below meth c H locs 0 0 Q (F0 m 2 ls []) := by
    intro n
    induction n with
    | zero =>
      intro i hi H locs hW ls hl
      refine lv_iload_n hx hb d_Top_workOut_2 rfl (lv_at hl 2 rfl) ?_
      refine lv_bipush (v := (nI 20)) hx hb d_Top_workOut_3 (by decide +kernel) ?_
      refine N_icmp_ge_NN hx hb (by omega) (by decide) (tgt := 37) d_Top_workOut_5 (by decide) (fun c5 => ?_) (fun c5 => ?_)
      · have e9 : 20 = i := by omega
        subst e9
        refine lv_aload_n hx hb d_Top_workOut_37 rfl (lv_at hl 0 rfl) ?_
        refine R_get X hW i_Top rfl 1 (by decide) kf_Top_19 0 rfl rfl d_Top_workOut_38 ?_
        refine lv_iload_n hx hb d_Top_workOut_41 rfl (lv_at hl 1 rfl) ?_
        refine R_callV (q0 := 11) (c_Persons_clearSums l G cI cZ cJ h ne stt sco tim cnt x hx0) X rfl hW cw_Top_162 ki_Persons_clearSums ks_Persons_clearSums rfl rfl ⟨rfl, rfl⟩ ⟨by decide, by decide⟩ ⟨Nat.zero_le _, Nat.zero_le _⟩ [false, false, false, false, false, false, false, false, false, false, false, true, true, true, true, true, false, false, false, false, false, false, false, false, false, false, false, false] rfl (Nat.le_of_ble_eq_true rfl) rfl rfl hl.1 rfl rfl (Nat.le_of_ble_eq_true rfl) d_Top_workOut_42 rfl (fun H locs hW => ?_)
        have hW : Wr G A s.heap (w_All h cI cZ cJ (upK 0 20 wr) (upK false 20 se) (upK none 20 ga) tw np tot gr fa re ss sc ne stt (va_up sco x 0) (va_up tim x 0) (va_up cnt x 0) ns sp sq sec rt it ans tl un nw td) H locs := hW
        refine lv_iconst (v := (nI 0)) hx hb d_Top_workOut_45 (by decide +kernel) ?_
        refine lv_istore_n (lv' := [(2, .int (nI 0)), (0, .ref (h 0)), (1, .int (nI x))]) hx hb d_Top_workOut_46 rfl hl (by decide) rfl (fun ls hl => ?_)
        have L47 : ∀ (n2 : Nat) (i2 : Nat) (u : TkS) (hi2 : i2 + n2 = ns) (hu : ∀ j, j < 20 → u.1 j ≤ i2) (he : woG gr nw sp sq sec it rt stt x n2 i2 u = woF gr nw sp sq sec it rt stt ns x (wr, se, ga, sco, tim, cnt)) (H : Heap) (locs : List Loc) (hW : Wr G A s.heap (w_All h cI cZ cJ u.1 u.2.1 u.2.2.1 tw np tot gr fa re ss sc ne stt u.2.2.2.1 u.2.2.2.2.1 u.2.2.2.2.2 ns sp sq sec rt it ans tl un nw td) H locs) (ls : Array Slot) (hl : lv_has ls 4 [(0, .ref (h 0)), (1, .int (nI x)), (2, .int (nI i2))]), W p l e (rmL 3) s m args below meth c H locs 0 0 Q (F0 m 47 ls []) := by
          intro n2
          induction n2 with
          | zero =>
            intro i2 u hi2 hu he H locs hW ls hl
            refine lv_iload_n hx hb d_Top_workOut_47 rfl (lv_at hl 2 rfl) ?_
            refine lv_aload_n hx hb d_Top_workOut_48 rfl (lv_at hl 0 rfl) ?_
            refine R_get X hW i_Top rfl 2 (by decide) kf_Top_26 0 rfl rfl d_Top_workOut_49 ?_
            refine R_get X hW i_Submissions rfl 5 (by decide) kf_Top_134 16 rfl rfl d_Top_workOut_52 ?_
            refine N_icmp_ge_NN hx hb (by omega) (by omega) (tgt := 93) d_Top_workOut_55 (by decide) (fun c55 => ?_) (fun c55 => ?_)
            · exact R_vret X Y hW (by rw [← he]; rfl) rfl d_Top_workOut_93
            · exfalso; omega
          | succ n2 ih47 =>
            intro i2 u hi2 hu he H locs hW ls hl
            refine lv_iload_n hx hb d_Top_workOut_47 rfl (lv_at hl 2 rfl) ?_
            refine lv_aload_n hx hb d_Top_workOut_48 rfl (lv_at hl 0 rfl) ?_
            refine R_get X hW i_Top rfl 2 (by decide) kf_Top_26 0 rfl rfl d_Top_workOut_49 ?_
            refine R_get X hW i_Submissions rfl 5 (by decide) kf_Top_134 16 rfl rfl d_Top_workOut_52 ?_
            refine N_icmp_ge_NN hx hb (by omega) (by omega) (tgt := 93) d_Top_workOut_55 (by decide) (fun c55 => ?_) (fun c55 => ?_)
            · exfalso; omega
            · refine lv_aload_n hx hb d_Top_workOut_58 rfl (lv_at hl 0 rfl) ?_
              refine R_get X hW i_Top rfl 2 (by decide) kf_Top_26 0 rfl rfl d_Top_workOut_59 ?_
              refine R_get X hW i_Submissions rfl 4 (by decide) kf_Top_165 16 rfl rfl d_Top_workOut_62 ?_
              refine lv_iload_n hx hb d_Top_workOut_65 rfl (lv_at hl 2 rfl) ?_
              refine R_iald X hW (t0 := 0) rfl 21 rfl (k := i2) (by omega) (by decide) d_Top_workOut_66 ?_
              refine lv_istore_n (lv' := [(3, .int (nI (it i2))), (0, .ref (h 0)), (1, .int (nI x)), (2, .int (nI i2))]) hx hb d_Top_workOut_67 rfl hl (by decide) rfl (fun ls hl => ?_)
              have y1 := z9 i2 (by omega)
              have y2 := z13 (it i2) (by omega)
              obtain ⟨s0, hs0, hle⟩ := z11 (it i2) y1
              have y3 := z4 (sq (it i2)) y2.2
              have y4 := z8 (it i2) (by omega)
              have y5 := hu (sq (it i2)) y2.2
              refine lv_aload_n hx hb d_Top_workOut_68 rfl (lv_at hl 1 rfl) ?_
              refine R_get X hW i_Top rfl 2 (by decide) kf_Top_26 0 rfl rfl d_Top_workOut_69 ?_
              refine R_get X hW i_Submissions rfl 0 (by decide) kf_Top_142 16 rfl rfl d_Top_workOut_72 ?_
              refine lv_iload_n hx hb d_Top_workOut_75 rfl (lv_at hl 0 rfl) ?_
              refine R_iald X hW (t0 := 0) rfl 17 rfl (k := (it i2)) (by omega) (by decide) d_Top_workOut_76 ?_
              refine lv_iload_n hx hb d_Top_workOut_77 rfl (lv_at hl 2 rfl) ?_
              refine N_icmp_ne_NN hx hb (by omega) (by omega) (tgt := 87) d_Top_workOut_78 (by decide) (fun c78 => ?_) (fun c78 => ?_)
              · refine lv_iinc (v := (nI (i2 + 1))) (lv' := [(2, .int (nI (i2 + 1))), (3, .int (nI (it i2))), (0, .ref (h 0)), (1, .int (nI x))]) hx hb d_Top_workOut_87 hl (k := 3) rfl (N_inc i2) (by decide) rfl (fun ls hl => ?_)
                refine lv_goto (tgt := 47) hx hb d_Top_workOut_90 (by decide) ?_
                exact ih47 (i2 + 1) u (by omega) (fun j hj => by have := hu j hj; omega) (by rw [← he, woG, if_neg c78]) _ _ hW ls (lv_sub hl [2, 3, 0] rfl)
              · refine lv_aload_n hx hb d_Top_workOut_81 rfl (lv_at hl 1 rfl) ?_
                refine lv_iload_n hx hb d_Top_workOut_82 rfl (lv_at hl 2 rfl) ?_
                refine lv_iload_n hx hb d_Top_workOut_83 rfl (lv_at hl 0 rfl) ?_
                refine R_callV (q0 := 0) (c_Top_take l G cI cZ cJ h u.1 u.2.1 u.2.2.1 tw np tot gr fa re ss sc ne stt u.2.2.2.1 u.2.2.2.2.1 u.2.2.2.2.2 ns sp sq sec rt it ans tl un nw td x (it i2) s0 hx0 (by omega) y2.1 y2.2 hs0 hle y4 y3 z5 (by omega)) X rfl hW cw_Top_168 ki_Top_take ks_Top_take rfl rfl ⟨rfl, rfl⟩ ⟨by decide, by decide⟩ ⟨Nat.zero_le _, Nat.zero_le _⟩ [true, true, true, true, true, true, true, true, true, true, true, true, true, true, true, true, true, true, true, true, true, true, true, true, true, true, true, true] rfl (Nat.le_of_ble_eq_true rfl) rfl rfl hl.1 rfl rfl (Nat.le_of_ble_eq_true rfl) d_Top_workOut_84 rfl (fun H locs hW => ?_)
                have hW : Wr G A s.heap (w_All h cI cZ cJ ((tkF gr nw sp sq sec rt stt x (it i2) (u.1, u.2.1, u.2.2.1, u.2.2.2.1, u.2.2.2.2.1, u.2.2.2.2.2)).1) ((tkF gr nw sp sq sec rt stt x (it i2) (u.1, u.2.1, u.2.2.1, u.2.2.2.1, u.2.2.2.2.1, u.2.2.2.2.2)).2.1) ((tkF gr nw sp sq sec rt stt x (it i2) (u.1, u.2.1, u.2.2.1, u.2.2.2.1, u.2.2.2.2.1, u.2.2.2.2.2)).2.2.1) tw np tot gr fa re ss sc ne stt ((tkF gr nw sp sq sec rt stt x (it i2) (u.1, u.2.1, u.2.2.1, u.2.2.2.1, u.2.2.2.2.1, u.2.2.2.2.2)).2.2.2.1) ((tkF gr nw sp sq sec rt stt x (it i2) (u.1, u.2.1, u.2.2.1, u.2.2.2.1, u.2.2.2.2.1, u.2.2.2.2.2)).2.2.2.2.1) ((tkF gr nw sp sq sec rt stt x (it i2) (u.1, u.2.1, u.2.2.1, u.2.2.2.1, u.2.2.2.2.1, u.2.2.2.2.2)).2.2.2.2.2) ns sp sq sec rt it ans tl un nw td) H locs := hW
                refine lv_iinc (v := (nI (i2 + 1))) (lv' := [(2, .int (nI (i2 + 1))), (3, .int (nI (it i2))), (0, .ref (h 0)), (1, .int (nI x))]) hx hb d_Top_workOut_87 hl (k := 3) rfl (N_inc i2) (by decide) rfl (fun ls hl => ?_)
                refine lv_goto (tgt := 47) hx hb d_Top_workOut_90 (by decide) ?_
                exact ih47 (i2 + 1) (tkF gr nw sp sq sec rt stt x (it i2) (u.1, u.2.1, u.2.2.1, u.2.2.2.1, u.2.2.2.2.1, u.2.2.2.2.2)) (by omega) (tk_wr hu) (by rw [← he, woG, if_pos c78]) _ _ hW ls (lv_sub hl [2, 3, 0] rfl)
        exact L47 ns 0 (upK 0 20 wr, upK false 20 se, upK none 20 ga, va_up sco x 0, va_up tim x 0, va_up cnt x 0) (by omega) (fun j hj => by dsimp only; rw [upK_lt _ _ _ _ hj]; omega) rfl _ _ hW ls (lv_sub hl [1, 2, 0] rfl)
      · exfalso; omega
    | succ n ih2 =>
      intro i hi H locs hW ls hl
      refine lv_iload_n hx hb d_Top_workOut_2 rfl (lv_at hl 2 rfl) ?_
      refine lv_bipush (v := (nI 20)) hx hb d_Top_workOut_3 (by decide +kernel) ?_
      refine N_icmp_ge_NN hx hb (by omega) (by decide) (tgt := 37) d_Top_workOut_5 (by decide) (fun c5 => ?_) (fun c5 => ?_)
      · exfalso; omega
      · refine lv_aload_n hx hb d_Top_workOut_8 rfl (lv_at hl 0 rfl) ?_
        refine R_get X hW i_Top rfl 5 (by decide) kf_Top_44 0 rfl rfl d_Top_workOut_9 ?_
        refine lv_iload_n hx hb d_Top_workOut_12 rfl (lv_at hl 2 rfl) ?_
        refine lv_iconst (v := (nI 0)) hx hb d_Top_workOut_13 (by decide +kernel) ?_
        refine R_iast X hW (t0 := 0) rfl 1 rfl (k := i) (by omega) (by decide) 0 rfl d_Top_workOut_14 (fun H locs hW => ?_)
        have hW : Wr G A s.heap (w_All h cI cZ cJ (va_up (upK 0 i wr) i 0) (upK false i se) (upK none i ga) tw np tot gr fa re ss sc ne stt sco tim cnt ns sp sq sec rt it ans tl un nw td) H locs := hW
        refine lv_aload_n hx hb d_Top_workOut_15 rfl (lv_at hl 0 rfl) ?_
        refine R_get X hW i_Top rfl 6 (by decide) kf_Top_48 0 rfl rfl d_Top_workOut_16 ?_
        refine lv_iload_n hx hb d_Top_workOut_19 rfl (lv_at hl 2 rfl) ?_
        refine lv_iconst (v := (nI 0)) hx hb d_Top_workOut_20 (by decide +kernel) ?_
        refine R_zast X hW (t0 := 1) rfl 2 rfl (k := i) (by omega) (by decide) false (by decide +kernel) d_Top_workOut_21 (fun H locs hW => ?_)
        have hW : Wr G A s.heap (w_All h cI cZ cJ (va_up (upK 0 i wr) i 0) (va_up (upK false i se) i false) (upK none i ga) tw np tot gr fa re ss sc ne stt sco tim cnt ns sp sq sec rt it ans tl un nw td) H locs := hW
        refine lv_aload_n hx hb d_Top_workOut_22 rfl (lv_at hl 0 rfl) ?_
        refine R_get X hW i_Top rfl 7 (by decide) kf_Top_52 0 rfl rfl d_Top_workOut_23 ?_
        refine lv_iload_n hx hb d_Top_workOut_26 rfl (lv_at hl 2 rfl) ?_
        refine lv_ldc2 hx hb X.1.2.2.2.1 (X.1.2.2.2.2 _ kl_Top_101) d_Top_workOut_27 ?_
        refine R_last X hW (t0 := 2) rfl 3 rfl (k := i) (by omega) (by decide) none rfl d_Top_workOut_30 (fun H locs hW => ?_)
        have hW : Wr G A s.heap (w_All h cI cZ cJ (va_up (upK 0 i wr) i 0) (va_up (upK false i se) i false) (va_up (upK none i ga) i none) tw np tot gr fa re ss sc ne stt sco tim cnt ns sp sq sec rt it ans tl un nw td) H locs := hW
        refine lv_iinc (v := (nI (i + 1))) (lv' := [(2, .int (nI (i + 1))), (0, .ref (h 0)), (1, .int (nI x))]) hx hb d_Top_workOut_31 hl (k := 2) rfl (N_inc i) (by decide) rfl (fun ls hl => ?_)
        refine lv_goto (tgt := 2) hx hb d_Top_workOut_34 (by decide) ?_
        exact ih2 (i + 1) (by omega) _ _ hW ls (lv_sub hl [1, 2, 0] rfl)
  exact L2 20 0 (by omega) _ _ hW ls (lv_sub hl [1, 2, 0] rfl)

theorem kf_Top_144 : Cond.fieldLink "ContestRows" 144 "ContestRows$Persons" "many" "I" ∈ TBL := TBL_t (List.mem_append_left _ (List.mem_of_getElem? (i := 69) rfl)) rfl
theorem kb_Top_workOut : Cond.code y_Top_workOut b_Top_workOut 4 none ∈ TBL := TBL_t (List.mem_append_right _ (List.mem_append_left _ (List.mem_of_getElem? (i := 149) rfl))) rfl
theorem km_Top_114 : Cond.methodLink "ContestRows" 114 y_Top_workOut ∈ TBL := TBL_t (List.mem_append_right _ (List.mem_append_left _ (List.mem_of_getElem? (i := 146) rfl))) rfl
theorem cw_Top_114 : Cw "ContestRows" 114 y_Top_workOut b_Top_workOut 4 none 1 := ⟨kb_Top_workOut, kn_Top, km_Top_114, by decide +kernel⟩
theorem ki_Top_workOut : Cond.instanceMethod y_Top_workOut ∈ TBL := TBL_t (List.mem_append_right _ (List.mem_append_left _ (List.mem_of_getElem? (i := 148) rfl))) rfl
theorem ks_Top_workOut : Cond.selects "ContestRows" y_Top_workOut y_Top_workOut ∈ TBL := TBL_in (List.mem_append_left _ (List.mem_map.mpr ⟨(y_Top_workOut, 9), by decide +kernel, rfl⟩)) rfl
set_option maxHeartbeats 4000000 in
set_option maxRecDepth 100000 in
theorem c_Top_workOutAll (l : Launch) (G : va_G) (cI cZ cJ : ClassId) (h : Nat → Nat) (wr : Nat → Nat) (se : Nat → Bool) (ga : Nat → Option Nat) (tw : Nat → Option Nat) (np : Nat) (tot : Nat) (gr : Nat → Nat) (fa : Nat → Nat) (re : Nat → Bool) (ss : Nat → Nat) (sc : Nat → Nat) (ne : Nat) (stt : Nat → Option Nat) (sco : Nat → Nat) (tim : Nat → Nat) (cnt : Nat → Nat) (ns : Nat) (sp : Nat → Nat) (sq : Nat → Nat) (sec : Nat → Nat) (rt : Nat → Bool) (it : Nat → Nat) (ans : Nat → Nat) (tl : Nat) (un : Nat → Nat) (nw : Nat → Nat) (td : Nat → Nat)  (hI : IS np ne ns gr nw sp sq sec it ans stt) : Ct l G (tyL cI cZ cJ) y_Top_workOutAll b_Top_workOutAll 2 none (rmL 4) [.ref (h 0)] (w_All h cI cZ cJ wr se ga tw np tot gr fa re ss sc ne stt sco tim cnt ns sp sq sec rt it ans tl un nw td) none (w_All h cI cZ cJ ((waF gr nw sp sq sec it rt stt ns ne (wr, se, ga, sco, tim, cnt)).1) ((waF gr nw sp sq sec it rt stt ns ne (wr, se, ga, sco, tim, cnt)).2.1) ((waF gr nw sp sq sec it rt stt ns ne (wr, se, ga, sco, tim, cnt)).2.2.1) tw np tot gr fa re ss sc ne stt ((waF gr nw sp sq sec it rt stt ns ne (wr, se, ga, sco, tim, cnt)).2.2.2.1) ((waF gr nw sp sq sec it rt stt ns ne (wr, se, ga, sco, tim, cnt)).2.2.2.2.1) ((waF gr nw sp sq sec it rt stt ns ne (wr, se, ga, sco, tim, cnt)).2.2.2.2.2) ns sp sq sec rt it ans tl un nw td) := by
  refine M_start (by decide) (Nat.le_of_ble_eq_true rfl) ?_
  intro p e s m args below meth c A Q ls X Y hW hl
  have hx := X.1.1
  have hb := X.1.2.1
  have hl : lv_has ls 2 [(0, .ref (h 0))] := hl
  obtain ⟨z1, z2, z3, z4, z5, z6, z7, z8, z9, z10, z11, z12, z13⟩ := id hI
  refine lv_iconst (v := (nI 0)) hx hb d_Top_workOutAll_0 (by decide +kernel) ?_
  refine lv_istore_n (lv' := [(1, .int (nI 0)), (0, .ref (h 0))]) hx hb d_Top_workOutAll_1 rfl hl (by decide) rfl (fun ls hl => ?_)
  have L2 : ∀ (n : Nat) (i : Nat) (u : TkS) (hi : i + n = ne) (he : u = waF gr nw sp sq sec it rt stt ns i (wr, se, ga, sco, tim, cnt)) (H : Heap) (locs : List Loc) (hW : Wr G A s.heap (w_All h cI cZ cJ u.1 u.2.1 u.2.2.1 tw np tot gr fa re ss sc ne stt u.2.2.2.1 u.2.2.2.2.1 u.2.2.2.2.2 ns sp sq sec rt it ans tl un nw td) H locs) (ls : Array Slot) (hl : lv_has ls 2 [(0, .ref (h 0)), (1, .int (nI i))]), W p l e (rmL 4) s m args below meth c H locs 0 0 Q (F0 m 2 ls []) := by
    intro n
    induction n with
    | zero =>
      intro i u hi he H locs hW ls hl
      refine lv_iload_n hx hb d_Top_workOutAll_2 rfl (lv_at hl 1 rfl) ?_
      refine lv_aload_n hx hb d_Top_workOutAll_3 rfl (lv_at hl 0 rfl) ?_
      refine R_get X hW i_Top rfl 1 (by decide) kf_Top_19 0 rfl rfl d_Top_workOutAll_4 ?_
      refine R_get X hW i_Persons rfl 4 (by decide) kf_Top_144 11 rfl rfl d_Top_workOutAll_7 ?_
      refine N_icmp_ge_NN hx hb (by omega) (by omega) (tgt := 24) d_Top_workOutAll_10 (by decide) (fun c10 => ?_) (fun c10 => ?_)
      · exact R_vret X Y hW (by rw [he, show i = ne by omega]) rfl d_Top_workOutAll_24
      · exfalso; omega
    | succ n ih2 =>
      intro i u hi he H locs hW ls hl
      refine lv_iload_n hx hb d_Top_workOutAll_2 rfl (lv_at hl 1 rfl) ?_
      refine lv_aload_n hx hb d_Top_workOutAll_3 rfl (lv_at hl 0 rfl) ?_
      refine R_get X hW i_Top rfl 1 (by decide) kf_Top_19 0 rfl rfl d_Top_workOutAll_4 ?_
      refine R_get X hW i_Persons rfl 4 (by decide) kf_Top_144 11 rfl rfl d_Top_workOutAll_7 ?_
      refine N_icmp_ge_NN hx hb (by omega) (by omega) (tgt := 24) d_Top_workOutAll_10 (by decide) (fun c10 => ?_) (fun c10 => ?_)
      · exfalso; omega
      · refine lv_aload_n hx hb d_Top_workOutAll_13 rfl (lv_at hl 0 rfl) ?_
        refine lv_iload_n hx hb d_Top_workOutAll_14 rfl (lv_at hl 1 rfl) ?_
        refine R_callV (q0 := 0) (c_Top_workOut l G cI cZ cJ h u.1 u.2.1 u.2.2.1 tw np tot gr fa re ss sc ne stt u.2.2.2.1 u.2.2.2.2.1 u.2.2.2.2.2 ns sp sq sec rt it ans tl un nw td i (by omega) hI) X rfl hW cw_Top_114 ki_Top_workOut ks_Top_workOut rfl rfl ⟨rfl, rfl⟩ ⟨by decide, by decide⟩ ⟨Nat.zero_le _, Nat.zero_le _⟩ [true, true, true, true, true, true, true, true, true, true, true, true, true, true, true, true, true, true, true, true, true, true, true, true, true, true, true, true] rfl (Nat.le_of_ble_eq_true rfl) rfl rfl hl.1 rfl rfl (Nat.le_of_ble_eq_true rfl) d_Top_workOutAll_15 rfl (fun H locs hW => ?_)
        have hW : Wr G A s.heap (w_All h cI cZ cJ ((woF gr nw sp sq sec it rt stt ns i (u.1, u.2.1, u.2.2.1, u.2.2.2.1, u.2.2.2.2.1, u.2.2.2.2.2)).1) ((woF gr nw sp sq sec it rt stt ns i (u.1, u.2.1, u.2.2.1, u.2.2.2.1, u.2.2.2.2.1, u.2.2.2.2.2)).2.1) ((woF gr nw sp sq sec it rt stt ns i (u.1, u.2.1, u.2.2.1, u.2.2.2.1, u.2.2.2.2.1, u.2.2.2.2.2)).2.2.1) tw np tot gr fa re ss sc ne stt ((woF gr nw sp sq sec it rt stt ns i (u.1, u.2.1, u.2.2.1, u.2.2.2.1, u.2.2.2.2.1, u.2.2.2.2.2)).2.2.2.1) ((woF gr nw sp sq sec it rt stt ns i (u.1, u.2.1, u.2.2.1, u.2.2.2.1, u.2.2.2.2.1, u.2.2.2.2.2)).2.2.2.2.1) ((woF gr nw sp sq sec it rt stt ns i (u.1, u.2.1, u.2.2.1, u.2.2.2.1, u.2.2.2.2.1, u.2.2.2.2.2)).2.2.2.2.2) ns sp sq sec rt it ans tl un nw td) H locs := hW
        refine lv_iinc (v := (nI (i + 1))) (lv' := [(1, .int (nI (i + 1))), (0, .ref (h 0))]) hx hb d_Top_workOutAll_18 hl (k := 1) rfl (N_inc i) (by decide) rfl (fun ls hl => ?_)
        refine lv_goto (tgt := 2) hx hb d_Top_workOutAll_21 (by decide) ?_
        exact ih2 (i + 1) (woF gr nw sp sq sec it rt stt ns i (u.1, u.2.1, u.2.2.1, u.2.2.2.1, u.2.2.2.2.1, u.2.2.2.2.2)) (by omega) (by rw [he]; rfl) _ _ hW ls (lv_sub hl [1, 0] rfl)
  exact L2 ne 0 (wr, se, ga, sco, tim, cnt) (by omega) rfl _ _ hW ls (lv_sub hl [1, 0] rfl)
end
section
theorem kb_Persons_add : Cond.code y_Persons_add b_Persons_add 1 (some .int) ∈ TBL := TBL_t (List.mem_append_left _ (List.mem_of_getElem? (i := 193) rfl)) rfl
theorem km_Top_63 : Cond.methodLink "ContestRows" 63 y_Persons_add ∈ TBL := TBL_t (List.mem_append_left _ (List.mem_of_getElem? (i := 190) rfl)) rfl
theorem cw_Top_63 : Cw "ContestRows" 63 y_Persons_add b_Persons_add 1 (some .int) 0 := ⟨kb_Persons_add, kn_Persons, km_Top_63, by decide +kernel⟩
theorem ki_Persons_add : Cond.instanceMethod y_Persons_add ∈ TBL := TBL_t (List.mem_append_left _ (List.mem_of_getElem? (i := 191) rfl)) rfl
theorem ks_Persons_add : Cond.selects "ContestRows$Persons" y_Persons_add y_Persons_add ∈ TBL := TBL_t (List.mem_append_left _ (List.mem_of_getElem? (i := 192) rfl)) rfl
set_option maxHeartbeats 4000000 in
set_option maxRecDepth 100000 in
theorem c_Top_person_ok (l : Launch) (G : va_G) (cI cZ cJ : ClassId) (h : Nat → Nat) (wr : Nat → Nat) (se : Nat → Bool) (ga : Nat → Option Nat) (tw : Nat → Option Nat) (np : Nat) (tot : Nat) (gr : Nat → Nat) (fa : Nat → Nat) (re : Nat → Bool) (ss : Nat → Nat) (sc : Nat → Nat) (ne : Nat) (stt : Nat → Option Nat) (sco : Nat → Nat) (tim : Nat → Nat) (cnt : Nat → Nat) (ns : Nat) (sp : Nat → Nat) (sq : Nat → Nat) (sec : Nat → Nat) (rt : Nat → Bool) (it : Nat → Nat) (ans : Nat → Nat) (tl : Nat) (un : Nat → Nat) (nw : Nat → Nat) (td : Nat → Nat)  (hn : ne < 20) : Ct l G (tyL cI cZ cJ) y_Top_person b_Top_person 1 (some .int) (rmL 1) [.ref (h 0)] (w_All h cI cZ cJ wr se ga tw np tot gr fa re ss sc ne stt sco tim cnt ns sp sq sec rt it ans tl un nw td) (some (.int (nI ne))) (w_All h cI cZ cJ wr se ga tw np tot gr fa re ss sc (ne + 1) (va_up stt ne none) sco tim cnt ns sp sq sec rt it ans tl un nw td) := by
  refine M_start (by decide) (Nat.le_of_ble_eq_true rfl) ?_
  intro p e s m args below meth c A Q ls X Y hW hl
  have hx := X.1.1
  have hb := X.1.2.1
  have hl : lv_has ls 1 [(0, .ref (h 0))] := hl
  refine lv_aload_n hx hb d_Top_person_0 rfl (lv_at hl 0 rfl) ?_
  refine R_get X hW i_Top rfl 1 (by decide) kf_Top_19 0 rfl rfl d_Top_person_1 ?_
  refine R_callV (q0 := 11) (c_Persons_add_ok l G cI cZ cJ h ne stt sco tim cnt hn) X rfl hW cw_Top_63 ki_Persons_add ks_Persons_add rfl rfl ⟨rfl, rfl⟩ ⟨by decide, by decide⟩ ⟨Nat.zero_le _, Nat.zero_le _⟩ [false, false, false, false, false, false, false, false, false, false, false, true, true, true, true, true, false, false, false, false, false, false, false, false, false, false, false, false] rfl (Nat.le_of_ble_eq_true rfl) rfl rfl hl.1 rfl rfl (Nat.le_of_ble_eq_true rfl) d_Top_person_4 rfl (fun H locs hW => ?_)
  have hW : Wr G A s.heap (w_All h cI cZ cJ wr se ga tw np tot gr fa re ss sc (ne + 1) (va_up stt ne none) sco tim cnt ns sp sq sec rt it ans tl un nw td) H locs := hW
  exact R_iret X Y hW rfl rfl d_Top_person_7

set_option maxHeartbeats 4000000 in
set_option maxRecDepth 100000 in
theorem c_Top_person_full (l : Launch) (G : va_G) (cI cZ cJ : ClassId) (h : Nat → Nat) (wr : Nat → Nat) (se : Nat → Bool) (ga : Nat → Option Nat) (tw : Nat → Option Nat) (np : Nat) (tot : Nat) (gr : Nat → Nat) (fa : Nat → Nat) (re : Nat → Bool) (ss : Nat → Nat) (sc : Nat → Nat) (ne : Nat) (stt : Nat → Option Nat) (sco : Nat → Nat) (tim : Nat → Nat) (cnt : Nat → Nat) (ns : Nat) (sp : Nat → Nat) (sq : Nat → Nat) (sec : Nat → Nat) (rt : Nat → Bool) (it : Nat → Nat) (ans : Nat → Nat) (tl : Nat) (un : Nat → Nat) (nw : Nat → Nat) (td : Nat → Nat)  (hn : ne = 20) : Ct l G (tyL cI cZ cJ) y_Top_person b_Top_person 1 (some .int) (rmL 1) [.ref (h 0)] (w_All h cI cZ cJ wr se ga tw np tot gr fa re ss sc ne stt sco tim cnt ns sp sq sec rt it ans tl un nw td) (some (.int (-1))) (w_All h cI cZ cJ wr se ga tw np tot gr fa re ss sc ne stt sco tim cnt ns sp sq sec rt it ans tl un nw td) := by
  refine M_start (by decide) (Nat.le_of_ble_eq_true rfl) ?_
  intro p e s m args below meth c A Q ls X Y hW hl
  have hx := X.1.1
  have hb := X.1.2.1
  have hl : lv_has ls 1 [(0, .ref (h 0))] := hl
  refine lv_aload_n hx hb d_Top_person_0 rfl (lv_at hl 0 rfl) ?_
  refine R_get X hW i_Top rfl 1 (by decide) kf_Top_19 0 rfl rfl d_Top_person_1 ?_
  refine R_callV (q0 := 11) (c_Persons_add_full l G cI cZ cJ h ne stt sco tim cnt hn) X rfl hW cw_Top_63 ki_Persons_add ks_Persons_add rfl rfl ⟨rfl, rfl⟩ ⟨by decide, by decide⟩ ⟨Nat.zero_le _, Nat.zero_le _⟩ [false, false, false, false, false, false, false, false, false, false, false, true, true, true, true, true, false, false, false, false, false, false, false, false, false, false, false, false] rfl (Nat.le_of_ble_eq_true rfl) rfl rfl hl.1 rfl rfl (Nat.le_of_ble_eq_true rfl) d_Top_person_4 rfl (fun H locs hW => ?_)
  have hW : Wr G A s.heap (w_All h cI cZ cJ wr se ga tw np tot gr fa re ss sc ne stt sco tim cnt ns sp sq sec rt it ans tl un nw td) H locs := hW
  exact R_iret X Y hW rfl rfl d_Top_person_7

theorem kf_Top_33 : Cond.fieldLink "ContestRows" 33 "ContestRows" "text" "LContestRows$RuleText;" ∈ TBL := TBL_t (List.mem_append_left _ (List.mem_of_getElem? (i := 145) rfl)) rfl
theorem kb_RuleText_add : Cond.code y_RuleText_add b_RuleText_add 2 (some .boolean) ∈ TBL := TBL_t (List.mem_append_left _ (List.mem_of_getElem? (i := 201) rfl)) rfl
theorem kn_RuleText : Cond.initialized "ContestRows$RuleText" ∈ TBL := TBL_t (List.mem_append_left _ (List.mem_of_getElem? (i := 5) rfl)) rfl
theorem km_Top_66 : Cond.methodLink "ContestRows" 66 y_RuleText_add ∈ TBL := TBL_t (List.mem_append_left _ (List.mem_of_getElem? (i := 198) rfl)) rfl
theorem cw_Top_66 : Cw "ContestRows" 66 y_RuleText_add b_RuleText_add 2 (some .boolean) 1 := ⟨kb_RuleText_add, kn_RuleText, km_Top_66, by decide +kernel⟩
theorem ki_RuleText_add : Cond.instanceMethod y_RuleText_add ∈ TBL := TBL_t (List.mem_append_left _ (List.mem_of_getElem? (i := 199) rfl)) rfl
theorem ks_RuleText_add : Cond.selects "ContestRows$RuleText" y_RuleText_add y_RuleText_add ∈ TBL := TBL_t (List.mem_append_left _ (List.mem_of_getElem? (i := 200) rfl)) rfl
set_option maxHeartbeats 4000000 in
set_option maxRecDepth 100000 in
theorem c_Top_unit_ok (l : Launch) (G : va_G) (cI cZ cJ : ClassId) (h : Nat → Nat) (wr : Nat → Nat) (se : Nat → Bool) (ga : Nat → Option Nat) (tw : Nat → Option Nat) (np : Nat) (tot : Nat) (gr : Nat → Nat) (fa : Nat → Nat) (re : Nat → Bool) (ss : Nat → Nat) (sc : Nat → Nat) (ne : Nat) (stt : Nat → Option Nat) (sco : Nat → Nat) (tim : Nat → Nat) (cnt : Nat → Nat) (ns : Nat) (sp : Nat → Nat) (sq : Nat → Nat) (sec : Nat → Nat) (rt : Nat → Bool) (it : Nat → Nat) (ans : Nat → Nat) (tl : Nat) (un : Nat → Nat) (nw : Nat → Nat) (td : Nat → Nat) (u : Nat) (hu : u ≤ 255) (hn : tl < 100) : Ct l G (tyL cI cZ cJ) y_Top_unit b_Top_unit 2 (some .boolean) (rmL 1) [.ref (h 0), .int (nI u)] (w_All h cI cZ cJ wr se ga tw np tot gr fa re ss sc ne stt sco tim cnt ns sp sq sec rt it ans tl un nw td) (some (.int (bI true))) (w_All h cI cZ cJ wr se ga tw np tot gr fa re ss sc ne stt sco tim cnt ns sp sq sec rt it ans (tl + 1) (va_up un tl u) nw td) := by
  refine M_start (by decide) (Nat.le_of_ble_eq_true rfl) ?_
  intro p e s m args below meth c A Q ls X Y hW hl
  have hx := X.1.1
  have hb := X.1.2.1
  have hl : lv_has ls 2 [(0, .ref (h 0)), (1, .int (nI u))] := hl
  refine lv_aload_n hx hb d_Top_unit_0 rfl (lv_at hl 0 rfl) ?_
  refine R_get X hW i_Top rfl 3 (by decide) kf_Top_33 0 rfl rfl d_Top_unit_1 ?_
  refine lv_iload_n hx hb d_Top_unit_4 rfl (lv_at hl 1 rfl) ?_
  refine R_callV (q0 := 23) (c_RuleText_add_ok l G cI cZ cJ h tl un u hu hn) X rfl hW cw_Top_66 ki_RuleText_add ks_RuleText_add rfl rfl ⟨rfl, rfl⟩ ⟨by decide, by decide⟩ ⟨Nat.zero_le _, Nat.zero_le _⟩ [false, false, false, false, false, false, false, false, false, false, false, false, false, false, false, false, false, false, false, false, false, false, false, true, true, false, false, false] rfl (Nat.le_of_ble_eq_true rfl) rfl rfl hl.1 rfl rfl (Nat.le_of_ble_eq_true rfl) d_Top_unit_5 rfl (fun H locs hW => ?_)
  have hW : Wr G A s.heap (w_All h cI cZ cJ wr se ga tw np tot gr fa re ss sc ne stt sco tim cnt ns sp sq sec rt it ans (tl + 1) (va_up un tl u) nw td) H locs := hW
  exact R_zret X Y hW rfl true rfl rfl d_Top_unit_8

set_option maxHeartbeats 4000000 in
set_option maxRecDepth 100000 in
theorem c_Top_unit_bad (l : Launch) (G : va_G) (cI cZ cJ : ClassId) (h : Nat → Nat) (wr : Nat → Nat) (se : Nat → Bool) (ga : Nat → Option Nat) (tw : Nat → Option Nat) (np : Nat) (tot : Nat) (gr : Nat → Nat) (fa : Nat → Nat) (re : Nat → Bool) (ss : Nat → Nat) (sc : Nat → Nat) (ne : Nat) (stt : Nat → Option Nat) (sco : Nat → Nat) (tim : Nat → Nat) (cnt : Nat → Nat) (ns : Nat) (sp : Nat → Nat) (sq : Nat → Nat) (sec : Nat → Nat) (rt : Nat → Bool) (it : Nat → Nat) (ans : Nat → Nat) (tl : Nat) (un : Nat → Nat) (nw : Nat → Nat) (td : Nat → Nat) (u : Int32) (hu : ¬ (0 ≤ u.toInt ∧ u.toInt ≤ 255 ∧ tl < 100)) (hn : tl ≤ 100) : Ct l G (tyL cI cZ cJ) y_Top_unit b_Top_unit 2 (some .boolean) (rmL 1) [.ref (h 0), .int u] (w_All h cI cZ cJ wr se ga tw np tot gr fa re ss sc ne stt sco tim cnt ns sp sq sec rt it ans tl un nw td) (some (.int (bI false))) (w_All h cI cZ cJ wr se ga tw np tot gr fa re ss sc ne stt sco tim cnt ns sp sq sec rt it ans tl un nw td) := by
  refine M_start (by decide) (Nat.le_of_ble_eq_true rfl) ?_
  intro p e s m args below meth c A Q ls X Y hW hl
  have hx := X.1.1
  have hb := X.1.2.1
  have hl : lv_has ls 2 [(0, .ref (h 0)), (1, .int u)] := hl
  refine lv_aload_n hx hb d_Top_unit_0 rfl (lv_at hl 0 rfl) ?_
  refine R_get X hW i_Top rfl 3 (by decide) kf_Top_33 0 rfl rfl d_Top_unit_1 ?_
  refine lv_iload_n hx hb d_Top_unit_4 rfl (lv_at hl 1 rfl) ?_
  refine R_callV (q0 := 23) (c_RuleText_add_bad l G cI cZ cJ h tl un u hu hn) X rfl hW cw_Top_66 ki_RuleText_add ks_RuleText_add rfl rfl ⟨rfl, rfl⟩ ⟨by decide, by decide⟩ ⟨Nat.zero_le _, Nat.zero_le _⟩ [false, false, false, false, false, false, false, false, false, false, false, false, false, false, false, false, false, false, false, false, false, false, false, true, true, false, false, false] rfl (Nat.le_of_ble_eq_true rfl) rfl rfl hl.1 rfl rfl (Nat.le_of_ble_eq_true rfl) d_Top_unit_5 rfl (fun H locs hW => ?_)
  have hW : Wr G A s.heap (w_All h cI cZ cJ wr se ga tw np tot gr fa re ss sc ne stt sco tim cnt ns sp sq sec rt it ans tl un nw td) H locs := hW
  exact R_zret X Y hW rfl false rfl rfl d_Top_unit_8

theorem kb_Persons_has : Cond.code y_Persons_has b_Persons_has 2 (some .boolean) ∈ TBL := TBL_t (List.mem_append_right _ (List.mem_append_left _ (List.mem_of_getElem? (i := 95) rfl))) rfl
theorem km_Top_76 : Cond.methodLink "ContestRows" 76 y_Persons_has ∈ TBL := TBL_t (List.mem_append_right _ (List.mem_append_left _ (List.mem_of_getElem? (i := 92) rfl))) rfl
theorem cw_Top_76 : Cw "ContestRows" 76 y_Persons_has b_Persons_has 2 (some .boolean) 1 := ⟨kb_Persons_has, kn_Persons, km_Top_76, by decide +kernel⟩
theorem ki_Persons_has : Cond.instanceMethod y_Persons_has ∈ TBL := TBL_t (List.mem_append_right _ (List.mem_append_left _ (List.mem_of_getElem? (i := 93) rfl))) rfl
theorem ks_Persons_has : Cond.selects "ContestRows$Persons" y_Persons_has y_Persons_has ∈ TBL := TBL_t (List.mem_append_right _ (List.mem_append_left _ (List.mem_of_getElem? (i := 94) rfl))) rfl
theorem kc_Top_79 : Cond.constant "ContestRows" 79 1000000 ∈ TBL := TBL_t (List.mem_append_right _ (List.mem_append_left _ (List.mem_of_getElem? (i := 96) rfl))) rfl
set_option maxHeartbeats 4000000 in
set_option maxRecDepth 100000 in
theorem c_Top_start_bad (l : Launch) (G : va_G) (cI cZ cJ : ClassId) (h : Nat → Nat) (wr : Nat → Nat) (se : Nat → Bool) (ga : Nat → Option Nat) (tw : Nat → Option Nat) (np : Nat) (tot : Nat) (gr : Nat → Nat) (fa : Nat → Nat) (re : Nat → Bool) (ss : Nat → Nat) (sc : Nat → Nat) (ne : Nat) (stt : Nat → Option Nat) (sco : Nat → Nat) (tim : Nat → Nat) (cnt : Nat → Nat) (ns : Nat) (sp : Nat → Nat) (sq : Nat → Nat) (sec : Nat → Nat) (rt : Nat → Bool) (it : Nat → Nat) (ans : Nat → Nat) (tl : Nat) (un : Nat → Nat) (nw : Nat → Nat) (td : Nat → Nat) (x : Int32) (y : Int32) (hbad : ¬ (inB x ne = true ∧ 0 ≤ y.toInt ∧ y.toInt ≤ 1000000)) (hI : IS np ne ns gr nw sp sq sec it ans stt) : Ct l G (tyL cI cZ cJ) y_Top_start b_Top_start 3 (some .boolean) (rmL 1) [.ref (h 0), .int x, .int y] (w_All h cI cZ cJ wr se ga tw np tot gr fa re ss sc ne stt sco tim cnt ns sp sq sec rt it ans tl un nw td) (some (.int (bI false))) (w_All h cI cZ cJ wr se ga tw np tot gr fa re ss sc ne stt sco tim cnt ns sp sq sec rt it ans tl un nw td) := by
  refine M_start (by decide) (Nat.le_of_ble_eq_true rfl) ?_
  intro p e s m args below meth c A Q ls X Y hW hl
  have hx := X.1.1
  have hb := X.1.2.1
  have hl : lv_has ls 3 [(0, .ref (h 0)), (1, .int x), (2, .int y)] := hl
  obtain ⟨z1, z2, z3, z4, z5, z6, z7, z8, z9, z10, z11, z12, z13⟩ := id hI
  refine lv_aload_n hx hb d_Top_start_0 rfl (lv_at hl 0 rfl) ?_
  refine R_get X hW i_Top rfl 1 (by decide) kf_Top_19 0 rfl rfl d_Top_start_1 ?_
  refine lv_iload_n hx hb d_Top_start_4 rfl (lv_at hl 1 rfl) ?_
  refine R_callV (q0 := 11) (c_Persons_has l G cI cZ cJ h ne stt sco tim cnt x (by omega)) X rfl hW cw_Top_76 ki_Persons_has ks_Persons_has rfl rfl ⟨rfl, rfl⟩ ⟨by decide, by decide⟩ ⟨Nat.zero_le _, Nat.zero_le _⟩ [false, false, false, false, false, false, false, false, false, false, false, true, true, true, true, true, false, false, false, false, false, false, false, false, false, false, false, false] rfl (Nat.le_of_ble_eq_true rfl) rfl rfl hl.1 rfl rfl (Nat.le_of_ble_eq_true rfl) d_Top_start_5 rfl (fun H locs hW => ?_)
  have hW : Wr G A s.heap (w_All h cI cZ cJ wr se ga tw np tot gr fa re ss sc ne stt sco tim cnt ns sp sq sec rt it ans tl un nw td) H locs := hW
  refine N_if_eq_B hx hb  (tgt := 21) d_Top_start_8 (by decide) (fun c8 => ?_) (fun c8 => ?_)
  · refine lv_iconst (v := (nI 0)) hx hb d_Top_start_21 (by decide +kernel) ?_
    exact R_zret X Y hW rfl false (by decide +kernel) rfl d_Top_start_22
  · refine lv_iload_n hx hb d_Top_start_11 rfl (lv_at hl 2 rfl) ?_
    refine N_if_lt_R hx hb  (tgt := 21) d_Top_start_12 (by decide) (fun c12 => ?_) (fun c12 => ?_)
    · refine lv_iconst (v := (nI 0)) hx hb d_Top_start_21 (by decide +kernel) ?_
      exact R_zret X Y hW rfl false (by decide +kernel) rfl d_Top_start_22
    · refine lv_iload_n hx hb d_Top_start_15 rfl (lv_at hl 2 rfl) ?_
      refine lv_ldc hx hb X.1.2.2.2.1 (X.1.2.2.2.2 _ kc_Top_79) d_Top_start_16 ?_
      refine W.eq (g2 := F0 m 18 ls (.int (nI 1000000) :: .int y :: [])) rfl ?_
      refine N_icmp_le_RN hx hb (by decide) (tgt := 23) d_Top_start_18 (by decide) (fun c18 => ?_) (fun c18 => ?_)
      · exact absurd ⟨c8, by omega, by omega⟩ hbad
      · refine lv_iconst (v := (nI 0)) hx hb d_Top_start_21 (by decide +kernel) ?_
        exact R_zret X Y hW rfl false (by decide +kernel) rfl d_Top_start_22

theorem kb_Submissions_anyEarlier : Cond.code y_Submissions_anyEarlier b_Submissions_anyEarlier 4 (some .boolean) ∈ TBL := TBL_t (List.mem_append_right _ (List.mem_append_left _ (List.mem_of_getElem? (i := 100) rfl))) rfl
theorem km_Top_80 : Cond.methodLink "ContestRows" 80 y_Submissions_anyEarlier ∈ TBL := TBL_t (List.mem_append_right _ (List.mem_append_left _ (List.mem_of_getElem? (i := 97) rfl))) rfl
theorem cw_Top_80 : Cw "ContestRows" 80 y_Submissions_anyEarlier b_Submissions_anyEarlier 4 (some .boolean) 2 := ⟨kb_Submissions_anyEarlier, kn_Submissions, km_Top_80, by decide +kernel⟩
theorem ki_Submissions_anyEarlier : Cond.instanceMethod y_Submissions_anyEarlier ∈ TBL := TBL_t (List.mem_append_right _ (List.mem_append_left _ (List.mem_of_getElem? (i := 98) rfl))) rfl
theorem ks_Submissions_anyEarlier : Cond.selects "ContestRows$Submissions" y_Submissions_anyEarlier y_Submissions_anyEarlier ∈ TBL := TBL_t (List.mem_append_right _ (List.mem_append_left _ (List.mem_of_getElem? (i := 99) rfl))) rfl
set_option maxHeartbeats 4000000 in
set_option maxRecDepth 100000 in
theorem c_Top_start_early (l : Launch) (G : va_G) (cI cZ cJ : ClassId) (h : Nat → Nat) (wr : Nat → Nat) (se : Nat → Bool) (ga : Nat → Option Nat) (tw : Nat → Option Nat) (np : Nat) (tot : Nat) (gr : Nat → Nat) (fa : Nat → Nat) (re : Nat → Bool) (ss : Nat → Nat) (sc : Nat → Nat) (ne : Nat) (stt : Nat → Option Nat) (sco : Nat → Nat) (tim : Nat → Nat) (cnt : Nat → Nat) (ns : Nat) (sp : Nat → Nat) (sq : Nat → Nat) (sec : Nat → Nat) (rt : Nat → Bool) (it : Nat → Nat) (ans : Nat → Nat) (tl : Nat) (un : Nat → Nat) (nw : Nat → Nat) (td : Nat → Nat) (x : Nat) (y : Nat) (hx0 : x < ne) (hy0 : y ≤ 1000000) (hany : anyG (fun i => decide (sp i = x ∧ sec i < y)) ns 0 = true) (hI : IS np ne ns gr nw sp sq sec it ans stt) : Ct l G (tyL cI cZ cJ) y_Top_start b_Top_start 3 (some .boolean) (rmL 1) [.ref (h 0), .int (nI x), .int (nI y)] (w_All h cI cZ cJ wr se ga tw np tot gr fa re ss sc ne stt sco tim cnt ns sp sq sec rt it ans tl un nw td) (some (.int (bI false))) (w_All h cI cZ cJ wr se ga tw np tot gr fa re ss sc ne stt sco tim cnt ns sp sq sec rt it ans tl un nw td) := by
  refine M_start (by decide) (Nat.le_of_ble_eq_true rfl) ?_
  intro p e s m args below meth c A Q ls X Y hW hl
  have hx := X.1.1
  have hb := X.1.2.1
  have hl : lv_has ls 3 [(0, .ref (h 0)), (1, .int (nI x)), (2, .int (nI y))] := hl
  obtain ⟨z1, z2, z3, z4, z5, z6, z7, z8, z9, z10, z11, z12, z13⟩ := id hI
  refine lv_aload_n hx hb d_Top_start_0 rfl (lv_at hl 0 rfl) ?_
  refine R_get X hW i_Top rfl 1 (by decide) kf_Top_19 0 rfl rfl d_Top_start_1 ?_
  refine lv_iload_n hx hb d_Top_start_4 rfl (lv_at hl 1 rfl) ?_
  refine R_callV (q0 := 11) (c_Persons_has l G cI cZ cJ h ne stt sco tim cnt (nI x) (by omega)) X rfl hW cw_Top_76 ki_Persons_has ks_Persons_has rfl rfl ⟨rfl, rfl⟩ ⟨by decide, by decide⟩ ⟨Nat.zero_le _, Nat.zero_le _⟩ [false, false, false, false, false, false, false, false, false, false, false, true, true, true, true, true, false, false, false, false, false, false, false, false, false, false, false, false] rfl (Nat.le_of_ble_eq_true rfl) rfl rfl hl.1 rfl rfl (Nat.le_of_ble_eq_true rfl) d_Top_start_5 rfl (fun H locs hW => ?_)
  have hW : Wr G A s.heap (w_All h cI cZ cJ wr se ga tw np tot gr fa re ss sc ne stt sco tim cnt ns sp sq sec rt it ans tl un nw td) H locs := hW
  refine N_if_eq_B hx hb  (tgt := 21) d_Top_start_8 (by decide) (fun c8 => ?_) (fun c8 => ?_)
  · exfalso; rw [inB_nI (by omega) (by omega)] at c8; cases c8
  · refine lv_iload_n hx hb d_Top_start_11 rfl (lv_at hl 2 rfl) ?_
    refine N_if_lt_N hx hb (by omega) (tgt := 21) d_Top_start_12 (by decide) (fun c12 => ?_) (fun c12 => ?_)
    · exfalso; omega
    · refine lv_iload_n hx hb d_Top_start_15 rfl (lv_at hl 2 rfl) ?_
      refine lv_ldc hx hb X.1.2.2.2.1 (X.1.2.2.2.2 _ kc_Top_79) d_Top_start_16 ?_
      refine W.eq (g2 := F0 m 18 ls (.int (nI 1000000) :: .int (nI y) :: [])) rfl ?_
      refine N_icmp_le_NN hx hb (by omega) (by decide) (tgt := 23) d_Top_start_18 (by decide) (fun c18 => ?_) (fun c18 => ?_)
      · refine lv_aload_n hx hb d_Top_start_23 rfl (lv_at hl 0 rfl) ?_
        refine R_get X hW i_Top rfl 2 (by decide) kf_Top_26 0 rfl rfl d_Top_start_24 ?_
        refine lv_iload_n hx hb d_Top_start_27 rfl (lv_at hl 1 rfl) ?_
        refine lv_iload_n hx hb d_Top_start_28 rfl (lv_at hl 2 rfl) ?_
        refine R_callV (q0 := 16) (c_Submissions_anyEarlier l G cI cZ cJ h ns sp sq sec rt it ans x y (by omega) (by omega) z3 (fun i hi => by have := z13 i hi; omega) (fun i hi => by have := z8 i hi; omega)) X rfl hW cw_Top_80 ki_Submissions_anyEarlier ks_Submissions_anyEarlier rfl rfl ⟨rfl, rfl⟩ ⟨by decide, by decide⟩ ⟨Nat.zero_le _, Nat.zero_le _⟩ [false, false, false, false, false, false, false, false, false, false, false, false, false, false, false, false, true, true, true, true, true, true, true, false, false, false, false, false] rfl (Nat.le_of_ble_eq_true rfl) rfl rfl hl.1 rfl rfl (Nat.le_of_ble_eq_true rfl) d_Top_start_29 rfl (fun H locs hW => ?_)
        have hW : Wr G A s.heap (w_All h cI cZ cJ wr se ga tw np tot gr fa re ss sc ne stt sco tim cnt ns sp sq sec rt it ans tl un nw td) H locs := hW
        refine N_if_eq_B hx hb  (tgt := 37) d_Top_start_32 (by decide) (fun c32 => ?_) (fun c32 => ?_)
        · exfalso; rw [hany] at c32; cases c32
        · refine lv_iconst (v := (nI 0)) hx hb d_Top_start_35 (by decide +kernel) ?_
          exact R_zret X Y hW rfl false (by decide +kernel) rfl d_Top_start_36
      · exfalso; omega

set_option maxHeartbeats 4000000 in
set_option maxRecDepth 100000 in
theorem c_Top_start_ok (l : Launch) (G : va_G) (cI cZ cJ : ClassId) (h : Nat → Nat) (wr : Nat → Nat) (se : Nat → Bool) (ga : Nat → Option Nat) (tw : Nat → Option Nat) (np : Nat) (tot : Nat) (gr : Nat → Nat) (fa : Nat → Nat) (re : Nat → Bool) (ss : Nat → Nat) (sc : Nat → Nat) (ne : Nat) (stt : Nat → Option Nat) (sco : Nat → Nat) (tim : Nat → Nat) (cnt : Nat → Nat) (ns : Nat) (sp : Nat → Nat) (sq : Nat → Nat) (sec : Nat → Nat) (rt : Nat → Bool) (it : Nat → Nat) (ans : Nat → Nat) (tl : Nat) (un : Nat → Nat) (nw : Nat → Nat) (td : Nat → Nat) (x : Nat) (y : Nat) (hx0 : x < ne) (hy0 : y ≤ 1000000) (hany : anyG (fun i => decide (sp i = x ∧ sec i < y)) ns 0 = false) (hI : IS np ne ns gr nw sp sq sec it ans stt) : Ct l G (tyL cI cZ cJ) y_Top_start b_Top_start 3 (some .boolean) (rmL 1) [.ref (h 0), .int (nI x), .int (nI y)] (w_All h cI cZ cJ wr se ga tw np tot gr fa re ss sc ne stt sco tim cnt ns sp sq sec rt it ans tl un nw td) (some (.int (bI true))) (w_All h cI cZ cJ wr se ga tw np tot gr fa re ss sc ne (va_up stt x (some y)) sco tim cnt ns sp sq sec rt it ans tl un nw td) := by
  refine M_start (by decide) (Nat.le_of_ble_eq_true rfl) ?_
  intro p e s m args below meth c A Q ls X Y hW hl
  have hx := X.1.1
  have hb := X.1.2.1
  have hl : lv_has ls 3 [(0, .ref (h 0)), (1, .int (nI x)), (2, .int (nI y))] := hl
  obtain ⟨z1, z2, z3, z4, z5, z6, z7, z8, z9, z10, z11, z12, z13⟩ := id hI
  refine lv_aload_n hx hb d_Top_start_0 rfl (lv_at hl 0 rfl) ?_
  refine R_get X hW i_Top rfl 1 (by decide) kf_Top_19 0 rfl rfl d_Top_start_1 ?_
  refine lv_iload_n hx hb d_Top_start_4 rfl (lv_at hl 1 rfl) ?_
  refine R_callV (q0 := 11) (c_Persons_has l G cI cZ cJ h ne stt sco tim cnt (nI x) (by omega)) X rfl hW cw_Top_76 ki_Persons_has ks_Persons_has rfl rfl ⟨rfl, rfl⟩ ⟨by decide, by decide⟩ ⟨Nat.zero_le _, Nat.zero_le _⟩ [false, false, false, false, false, false, false, false, false, false, false, true, true, true, true, true, false, false, false, false, false, false, false, false, false, false, false, false] rfl (Nat.le_of_ble_eq_true rfl) rfl rfl hl.1 rfl rfl (Nat.le_of_ble_eq_true rfl) d_Top_start_5 rfl (fun H locs hW => ?_)
  have hW : Wr G A s.heap (w_All h cI cZ cJ wr se ga tw np tot gr fa re ss sc ne stt sco tim cnt ns sp sq sec rt it ans tl un nw td) H locs := hW
  refine N_if_eq_B hx hb  (tgt := 21) d_Top_start_8 (by decide) (fun c8 => ?_) (fun c8 => ?_)
  · exfalso; rw [inB_nI (by omega) (by omega)] at c8; cases c8
  · refine lv_iload_n hx hb d_Top_start_11 rfl (lv_at hl 2 rfl) ?_
    refine N_if_lt_N hx hb (by omega) (tgt := 21) d_Top_start_12 (by decide) (fun c12 => ?_) (fun c12 => ?_)
    · exfalso; omega
    · refine lv_iload_n hx hb d_Top_start_15 rfl (lv_at hl 2 rfl) ?_
      refine lv_ldc hx hb X.1.2.2.2.1 (X.1.2.2.2.2 _ kc_Top_79) d_Top_start_16 ?_
      refine W.eq (g2 := F0 m 18 ls (.int (nI 1000000) :: .int (nI y) :: [])) rfl ?_
      refine N_icmp_le_NN hx hb (by omega) (by decide) (tgt := 23) d_Top_start_18 (by decide) (fun c18 => ?_) (fun c18 => ?_)
      · refine lv_aload_n hx hb d_Top_start_23 rfl (lv_at hl 0 rfl) ?_
        refine R_get X hW i_Top rfl 2 (by decide) kf_Top_26 0 rfl rfl d_Top_start_24 ?_
        refine lv_iload_n hx hb d_Top_start_27 rfl (lv_at hl 1 rfl) ?_
        refine lv_iload_n hx hb d_Top_start_28 rfl (lv_at hl 2 rfl) ?_
        refine R_callV (q0 := 16) (c_Submissions_anyEarlier l G cI cZ cJ h ns sp sq sec rt it ans x y (by omega) (by omega) z3 (fun i hi => by have := z13 i hi; omega) (fun i hi => by have := z8 i hi; omega)) X rfl hW cw_Top_80 ki_Submissions_anyEarlier ks_Submissions_anyEarlier rfl rfl ⟨rfl, rfl⟩ ⟨by decide, by decide⟩ ⟨Nat.zero_le _, Nat.zero_le _⟩ [false, false, false, false, false, false, false, false, false, false, false, false, false, false, false, false, true, true, true, true, true, true, true, false, false, false, false, false] rfl (Nat.le_of_ble_eq_true rfl) rfl rfl hl.1 rfl rfl (Nat.le_of_ble_eq_true rfl) d_Top_start_29 rfl (fun H locs hW => ?_)
        have hW : Wr G A s.heap (w_All h cI cZ cJ wr se ga tw np tot gr fa re ss sc ne stt sco tim cnt ns sp sq sec rt it ans tl un nw td) H locs := hW
        refine N_if_eq_B hx hb  (tgt := 37) d_Top_start_32 (by decide) (fun c32 => ?_) (fun c32 => ?_)
        · refine lv_aload_n hx hb d_Top_start_37 rfl (lv_at hl 0 rfl) ?_
          refine R_get X hW i_Top rfl 1 (by decide) kf_Top_19 0 rfl rfl d_Top_start_38 ?_
          refine R_get X hW i_Persons rfl 0 (by decide) kf_Top_84 11 rfl rfl d_Top_start_41 ?_
          refine lv_iload_n hx hb d_Top_start_44 rfl (lv_at hl 1 rfl) ?_
          refine lv_iload_n hx hb d_Top_start_45 rfl (lv_at hl 2 rfl) ?_
          refine R_iast X hW (t0 := 0) rfl 12 rfl (k := x) (by omega) (by decide) (some y) rfl d_Top_start_46 (fun H locs hW => ?_)
          have hW : Wr G A s.heap (w_All h cI cZ cJ wr se ga tw np tot gr fa re ss sc ne (va_up stt x (some y)) sco tim cnt ns sp sq sec rt it ans tl un nw td) H locs := hW
          refine lv_iconst (v := (nI 1)) hx hb d_Top_start_47 (by decide +kernel) ?_
          exact R_zret X Y hW rfl true (by decide +kernel) rfl d_Top_start_48
        · exfalso; rw [hany] at c32; cases c32
      · exfalso; omega

theorem kb_Submissions_has : Cond.code y_Submissions_has b_Submissions_has 2 (some .boolean) ∈ TBL := TBL_t (List.mem_append_right _ (List.mem_append_left _ (List.mem_of_getElem? (i := 124) rfl))) rfl
theorem km_Top_91 : Cond.methodLink "ContestRows" 91 y_Submissions_has ∈ TBL := TBL_t (List.mem_append_right _ (List.mem_append_left _ (List.mem_of_getElem? (i := 121) rfl))) rfl
theorem cw_Top_91 : Cw "ContestRows" 91 y_Submissions_has b_Submissions_has 2 (some .boolean) 1 := ⟨kb_Submissions_has, kn_Submissions, km_Top_91, by decide +kernel⟩
theorem ki_Submissions_has : Cond.instanceMethod y_Submissions_has ∈ TBL := TBL_t (List.mem_append_right _ (List.mem_append_left _ (List.mem_of_getElem? (i := 122) rfl))) rfl
theorem ks_Submissions_has : Cond.selects "ContestRows$Submissions" y_Submissions_has y_Submissions_has ∈ TBL := TBL_t (List.mem_append_right _ (List.mem_append_left _ (List.mem_of_getElem? (i := 123) rfl))) rfl
set_option maxHeartbeats 4000000 in
set_option maxRecDepth 100000 in
theorem c_Top_correct_none (l : Launch) (G : va_G) (cI cZ cJ : ClassId) (h : Nat → Nat) (wr : Nat → Nat) (se : Nat → Bool) (ga : Nat → Option Nat) (tw : Nat → Option Nat) (np : Nat) (tot : Nat) (gr : Nat → Nat) (fa : Nat → Nat) (re : Nat → Bool) (ss : Nat → Nat) (sc : Nat → Nat) (ne : Nat) (stt : Nat → Option Nat) (sco : Nat → Nat) (tim : Nat → Nat) (cnt : Nat → Nat) (ns : Nat) (sp : Nat → Nat) (sq : Nat → Nat) (sec : Nat → Nat) (rt : Nat → Bool) (it : Nat → Nat) (ans : Nat → Nat) (tl : Nat) (un : Nat → Nat) (nw : Nat → Nat) (td : Nat → Nat) (x : Int32) (b : Bool) (hbad : inB x ns = false) (hns : ns ≤ 300) : Ct l G (tyL cI cZ cJ) y_Top_correct b_Top_correct 3 (some .boolean) (rmL 1) [.ref (h 0), .int x, .int (bI b)] (w_All h cI cZ cJ wr se ga tw np tot gr fa re ss sc ne stt sco tim cnt ns sp sq sec rt it ans tl un nw td) (some (.int (bI false))) (w_All h cI cZ cJ wr se ga tw np tot gr fa re ss sc ne stt sco tim cnt ns sp sq sec rt it ans tl un nw td) := by
  refine M_start (by decide) (Nat.le_of_ble_eq_true rfl) ?_
  intro p e s m args below meth c A Q ls X Y hW hl
  have hx := X.1.1
  have hb := X.1.2.1
  have hl : lv_has ls 3 [(0, .ref (h 0)), (1, .int x), (2, .int (bI b))] := hl
  refine lv_aload_n hx hb d_Top_correct_0 rfl (lv_at hl 0 rfl) ?_
  refine R_get X hW i_Top rfl 2 (by decide) kf_Top_26 0 rfl rfl d_Top_correct_1 ?_
  refine lv_iload_n hx hb d_Top_correct_4 rfl (lv_at hl 1 rfl) ?_
  refine R_callV (q0 := 16) (c_Submissions_has l G cI cZ cJ h ns sp sq sec rt it ans x (by omega)) X rfl hW cw_Top_91 ki_Submissions_has ks_Submissions_has rfl rfl ⟨rfl, rfl⟩ ⟨by decide, by decide⟩ ⟨Nat.zero_le _, Nat.zero_le _⟩ [false, false, false, false, false, false, false, false, false, false, false, false, false, false, false, false, true, true, true, true, true, true, true, false, false, false, false, false] rfl (Nat.le_of_ble_eq_true rfl) rfl rfl hl.1 rfl rfl (Nat.le_of_ble_eq_true rfl) d_Top_correct_5 rfl (fun H locs hW => ?_)
  have hW : Wr G A s.heap (w_All h cI cZ cJ wr se ga tw np tot gr fa re ss sc ne stt sco tim cnt ns sp sq sec rt it ans tl un nw td) H locs := hW
  refine N_if_eq_B hx hb  (tgt := 24) d_Top_correct_8 (by decide) (fun c8 => ?_) (fun c8 => ?_)
  · refine lv_iconst (v := (nI 0)) hx hb d_Top_correct_24 (by decide +kernel) ?_
    exact R_zret X Y hW rfl false (by decide +kernel) rfl d_Top_correct_25
  · exfalso; rw [hbad] at c8; cases c8

set_option maxHeartbeats 4000000 in
set_option maxRecDepth 100000 in
theorem c_Top_correct_same (l : Launch) (G : va_G) (cI cZ cJ : ClassId) (h : Nat → Nat) (wr : Nat → Nat) (se : Nat → Bool) (ga : Nat → Option Nat) (tw : Nat → Option Nat) (np : Nat) (tot : Nat) (gr : Nat → Nat) (fa : Nat → Nat) (re : Nat → Bool) (ss : Nat → Nat) (sc : Nat → Nat) (ne : Nat) (stt : Nat → Option Nat) (sco : Nat → Nat) (tim : Nat → Nat) (cnt : Nat → Nat) (ns : Nat) (sp : Nat → Nat) (sq : Nat → Nat) (sec : Nat → Nat) (rt : Nat → Bool) (it : Nat → Nat) (ans : Nat → Nat) (tl : Nat) (un : Nat → Nat) (nw : Nat → Nat) (td : Nat → Nat) (x : Nat) (b : Bool) (hx0 : x < ns) (hns : ns ≤ 300) (hb0 : rt x = b) : Ct l G (tyL cI cZ cJ) y_Top_correct b_Top_correct 3 (some .boolean) (rmL 1) [.ref (h 0), .int (nI x), .int (bI b)] (w_All h cI cZ cJ wr se ga tw np tot gr fa re ss sc ne stt sco tim cnt ns sp sq sec rt it ans tl un nw td) (some (.int (bI false))) (w_All h cI cZ cJ wr se ga tw np tot gr fa re ss sc ne stt sco tim cnt ns sp sq sec rt it ans tl un nw td) := by
  refine M_start (by decide) (Nat.le_of_ble_eq_true rfl) ?_
  intro p e s m args below meth c A Q ls X Y hW hl
  have hx := X.1.1
  have hb := X.1.2.1
  have hl : lv_has ls 3 [(0, .ref (h 0)), (1, .int (nI x)), (2, .int (bI b))] := hl
  refine lv_aload_n hx hb d_Top_correct_0 rfl (lv_at hl 0 rfl) ?_
  refine R_get X hW i_Top rfl 2 (by decide) kf_Top_26 0 rfl rfl d_Top_correct_1 ?_
  refine lv_iload_n hx hb d_Top_correct_4 rfl (lv_at hl 1 rfl) ?_
  refine R_callV (q0 := 16) (c_Submissions_has l G cI cZ cJ h ns sp sq sec rt it ans (nI x) (by omega)) X rfl hW cw_Top_91 ki_Submissions_has ks_Submissions_has rfl rfl ⟨rfl, rfl⟩ ⟨by decide, by decide⟩ ⟨Nat.zero_le _, Nat.zero_le _⟩ [false, false, false, false, false, false, false, false, false, false, false, false, false, false, false, false, true, true, true, true, true, true, true, false, false, false, false, false] rfl (Nat.le_of_ble_eq_true rfl) rfl rfl hl.1 rfl rfl (Nat.le_of_ble_eq_true rfl) d_Top_correct_5 rfl (fun H locs hW => ?_)
  have hW : Wr G A s.heap (w_All h cI cZ cJ wr se ga tw np tot gr fa re ss sc ne stt sco tim cnt ns sp sq sec rt it ans tl un nw td) H locs := hW
  refine N_if_eq_B hx hb  (tgt := 24) d_Top_correct_8 (by decide) (fun c8 => ?_) (fun c8 => ?_)
  · exfalso; rw [inB_nI (by omega) (by omega)] at c8; cases c8
  · refine lv_aload_n hx hb d_Top_correct_11 rfl (lv_at hl 0 rfl) ?_
    refine R_get X hW i_Top rfl 2 (by decide) kf_Top_26 0 rfl rfl d_Top_correct_12 ?_
    refine R_get X hW i_Submissions rfl 3 (by decide) kf_Top_92 16 rfl rfl d_Top_correct_15 ?_
    refine lv_iload_n hx hb d_Top_correct_18 rfl (lv_at hl 1 rfl) ?_
    refine R_zald X hW (t0 := 1) rfl 20 rfl (k := x) (by omega) (by decide) d_Top_correct_19 ?_
    refine lv_iload_n hx hb d_Top_correct_20 rfl (lv_at hl 2 rfl) ?_
    refine N_icmp_ne_BB hx hb (tgt := 26) d_Top_correct_21 (by decide) (fun c21 => ?_) (fun c21 => ?_)
    · exact absurd hb0 c21
    · refine lv_iconst (v := (nI 0)) hx hb d_Top_correct_24 (by decide +kernel) ?_
      exact R_zret X Y hW rfl false (by decide +kernel) rfl d_Top_correct_25

set_option maxHeartbeats 4000000 in
set_option maxRecDepth 100000 in
theorem c_Top_correct_ok (l : Launch) (G : va_G) (cI cZ cJ : ClassId) (h : Nat → Nat) (wr : Nat → Nat) (se : Nat → Bool) (ga : Nat → Option Nat) (tw : Nat → Option Nat) (np : Nat) (tot : Nat) (gr : Nat → Nat) (fa : Nat → Nat) (re : Nat → Bool) (ss : Nat → Nat) (sc : Nat → Nat) (ne : Nat) (stt : Nat → Option Nat) (sco : Nat → Nat) (tim : Nat → Nat) (cnt : Nat → Nat) (ns : Nat) (sp : Nat → Nat) (sq : Nat → Nat) (sec : Nat → Nat) (rt : Nat → Bool) (it : Nat → Nat) (ans : Nat → Nat) (tl : Nat) (un : Nat → Nat) (nw : Nat → Nat) (td : Nat → Nat) (x : Nat) (b : Bool) (hx0 : x < ns) (hns : ns ≤ 300) (hb0 : rt x ≠ b) : Ct l G (tyL cI cZ cJ) y_Top_correct b_Top_correct 3 (some .boolean) (rmL 1) [.ref (h 0), .int (nI x), .int (bI b)] (w_All h cI cZ cJ wr se ga tw np tot gr fa re ss sc ne stt sco tim cnt ns sp sq sec rt it ans tl un nw td) (some (.int (bI true))) (w_All h cI cZ cJ wr se ga tw np tot gr fa re ss sc ne stt sco tim cnt ns sp sq sec (va_up rt x b) it ans tl un nw td) := by
  refine M_start (by decide) (Nat.le_of_ble_eq_true rfl) ?_
  intro p e s m args below meth c A Q ls X Y hW hl
  have hx := X.1.1
  have hb := X.1.2.1
  have hl : lv_has ls 3 [(0, .ref (h 0)), (1, .int (nI x)), (2, .int (bI b))] := hl
  refine lv_aload_n hx hb d_Top_correct_0 rfl (lv_at hl 0 rfl) ?_
  refine R_get X hW i_Top rfl 2 (by decide) kf_Top_26 0 rfl rfl d_Top_correct_1 ?_
  refine lv_iload_n hx hb d_Top_correct_4 rfl (lv_at hl 1 rfl) ?_
  refine R_callV (q0 := 16) (c_Submissions_has l G cI cZ cJ h ns sp sq sec rt it ans (nI x) (by omega)) X rfl hW cw_Top_91 ki_Submissions_has ks_Submissions_has rfl rfl ⟨rfl, rfl⟩ ⟨by decide, by decide⟩ ⟨Nat.zero_le _, Nat.zero_le _⟩ [false, false, false, false, false, false, false, false, false, false, false, false, false, false, false, false, true, true, true, true, true, true, true, false, false, false, false, false] rfl (Nat.le_of_ble_eq_true rfl) rfl rfl hl.1 rfl rfl (Nat.le_of_ble_eq_true rfl) d_Top_correct_5 rfl (fun H locs hW => ?_)
  have hW : Wr G A s.heap (w_All h cI cZ cJ wr se ga tw np tot gr fa re ss sc ne stt sco tim cnt ns sp sq sec rt it ans tl un nw td) H locs := hW
  refine N_if_eq_B hx hb  (tgt := 24) d_Top_correct_8 (by decide) (fun c8 => ?_) (fun c8 => ?_)
  · exfalso; rw [inB_nI (by omega) (by omega)] at c8; cases c8
  · refine lv_aload_n hx hb d_Top_correct_11 rfl (lv_at hl 0 rfl) ?_
    refine R_get X hW i_Top rfl 2 (by decide) kf_Top_26 0 rfl rfl d_Top_correct_12 ?_
    refine R_get X hW i_Submissions rfl 3 (by decide) kf_Top_92 16 rfl rfl d_Top_correct_15 ?_
    refine lv_iload_n hx hb d_Top_correct_18 rfl (lv_at hl 1 rfl) ?_
    refine R_zald X hW (t0 := 1) rfl 20 rfl (k := x) (by omega) (by decide) d_Top_correct_19 ?_
    refine lv_iload_n hx hb d_Top_correct_20 rfl (lv_at hl 2 rfl) ?_
    refine N_icmp_ne_BB hx hb (tgt := 26) d_Top_correct_21 (by decide) (fun c21 => ?_) (fun c21 => ?_)
    · refine lv_aload_n hx hb d_Top_correct_26 rfl (lv_at hl 0 rfl) ?_
      refine R_get X hW i_Top rfl 2 (by decide) kf_Top_26 0 rfl rfl d_Top_correct_27 ?_
      refine R_get X hW i_Submissions rfl 3 (by decide) kf_Top_92 16 rfl rfl d_Top_correct_30 ?_
      refine lv_iload_n hx hb d_Top_correct_33 rfl (lv_at hl 1 rfl) ?_
      refine lv_iload_n hx hb d_Top_correct_34 rfl (lv_at hl 2 rfl) ?_
      refine R_zast X hW (t0 := 1) rfl 20 rfl (k := x) (by omega) (by decide) b rfl d_Top_correct_35 (fun H locs hW => ?_)
      have hW : Wr G A s.heap (w_All h cI cZ cJ wr se ga tw np tot gr fa re ss sc ne stt sco tim cnt ns sp sq sec (va_up rt x b) it ans tl un nw td) H locs := hW
      refine lv_iconst (v := (nI 1)) hx hb d_Top_correct_36 (by decide +kernel) ?_
      exact R_zret X Y hW rfl true (by decide +kernel) rfl d_Top_correct_37
    · exact absurd c21 hb0

set_option maxHeartbeats 4000000 in
set_option maxRecDepth 100000 in
theorem c_Top_late_none (l : Launch) (G : va_G) (cI cZ cJ : ClassId) (h : Nat → Nat) (wr : Nat → Nat) (se : Nat → Bool) (ga : Nat → Option Nat) (tw : Nat → Option Nat) (np : Nat) (tot : Nat) (gr : Nat → Nat) (fa : Nat → Nat) (re : Nat → Bool) (ss : Nat → Nat) (sc : Nat → Nat) (ne : Nat) (stt : Nat → Option Nat) (sco : Nat → Nat) (tim : Nat → Nat) (cnt : Nat → Nat) (ns : Nat) (sp : Nat → Nat) (sq : Nat → Nat) (sec : Nat → Nat) (rt : Nat → Bool) (it : Nat → Nat) (ans : Nat → Nat) (tl : Nat) (un : Nat → Nat) (nw : Nat → Nat) (td : Nat → Nat) (x : Int32) (hbad : inB x ns = false) (hns : ns ≤ 300) : Ct l G (tyL cI cZ cJ) y_Top_late b_Top_late 2 (some .boolean) (rmL 1) [.ref (h 0), .int x] (w_All h cI cZ cJ wr se ga tw np tot gr fa re ss sc ne stt sco tim cnt ns sp sq sec rt it ans tl un nw td) (some (.int (bI false))) (w_All h cI cZ cJ wr se ga tw np tot gr fa re ss sc ne stt sco tim cnt ns sp sq sec rt it ans tl un nw td) := by
  refine M_start (by decide) (Nat.le_of_ble_eq_true rfl) ?_
  intro p e s m args below meth c A Q ls X Y hW hl
  have hx := X.1.1
  have hb := X.1.2.1
  have hl : lv_has ls 2 [(0, .ref (h 0)), (1, .int x)] := hl
  refine lv_aload_n hx hb d_Top_late_0 rfl (lv_at hl 0 rfl) ?_
  refine R_get X hW i_Top rfl 2 (by decide) kf_Top_26 0 rfl rfl d_Top_late_1 ?_
  refine lv_iload_n hx hb d_Top_late_4 rfl (lv_at hl 1 rfl) ?_
  refine R_callV (q0 := 16) (c_Submissions_has l G cI cZ cJ h ns sp sq sec rt it ans x (by omega)) X rfl hW cw_Top_91 ki_Submissions_has ks_Submissions_has rfl rfl ⟨rfl, rfl⟩ ⟨by decide, by decide⟩ ⟨Nat.zero_le _, Nat.zero_le _⟩ [false, false, false, false, false, false, false, false, false, false, false, false, false, false, false, false, true, true, true, true, true, true, true, false, false, false, false, false] rfl (Nat.le_of_ble_eq_true rfl) rfl rfl hl.1 rfl rfl (Nat.le_of_ble_eq_true rfl) d_Top_late_5 rfl (fun H locs hW => ?_)
  have hW : Wr G A s.heap (w_All h cI cZ cJ wr se ga tw np tot gr fa re ss sc ne stt sco tim cnt ns sp sq sec rt it ans tl un nw td) H locs := hW
  refine N_if_eq_B hx hb  (tgt := 30) d_Top_late_8 (by decide) (fun c8 => ?_) (fun c8 => ?_)
  · refine lv_iconst (v := (nI 0)) hx hb d_Top_late_30 (by decide +kernel) ?_
    exact R_zret X Y hW rfl false (by decide +kernel) rfl d_Top_late_31
  · exfalso; rw [hbad] at c8; cases c8

set_option maxHeartbeats 4000000 in
set_option maxRecDepth 100000 in
theorem c_Top_late_some (l : Launch) (G : va_G) (cI cZ cJ : ClassId) (h : Nat → Nat) (wr : Nat → Nat) (se : Nat → Bool) (ga : Nat → Option Nat) (tw : Nat → Option Nat) (np : Nat) (tot : Nat) (gr : Nat → Nat) (fa : Nat → Nat) (re : Nat → Bool) (ss : Nat → Nat) (sc : Nat → Nat) (ne : Nat) (stt : Nat → Option Nat) (sco : Nat → Nat) (tim : Nat → Nat) (cnt : Nat → Nat) (ns : Nat) (sp : Nat → Nat) (sq : Nat → Nat) (sec : Nat → Nat) (rt : Nat → Bool) (it : Nat → Nat) (ans : Nat → Nat) (tl : Nat) (un : Nat → Nat) (nw : Nat → Nat) (td : Nat → Nat) (x : Nat) (s0 : Nat) (hx0 : x < ns) (hs0 : stt (sp x) = some s0) (hle : s0 ≤ sec x) (hI : IS np ne ns gr nw sp sq sec it ans stt) : Ct l G (tyL cI cZ cJ) y_Top_late b_Top_late 2 (some .boolean) (rmL 1) [.ref (h 0), .int (nI x)] (w_All h cI cZ cJ wr se ga tw np tot gr fa re ss sc ne stt sco tim cnt ns sp sq sec rt it ans tl un nw td) (some (.int (bI (decide (nw 3 < sec x - s0))))) (w_All h cI cZ cJ wr se ga tw np tot gr fa re ss sc ne stt sco tim cnt ns sp sq sec rt it ans tl un nw td) := by
  refine M_start (by decide) (Nat.le_of_ble_eq_true rfl) ?_
  intro p e s m args below meth c A Q ls X Y hW hl
  have hx := X.1.1
  have hb := X.1.2.1
  have hl : lv_has ls 2 [(0, .ref (h 0)), (1, .int (nI x))] := hl
  obtain ⟨z1, z2, z3, z4, z5, z6, z7, z8, z9, z10, z11, z12, z13⟩ := id hI
  have y4 := z8 x (by omega)
  refine lv_aload_n hx hb d_Top_late_0 rfl (lv_at hl 0 rfl) ?_
  refine R_get X hW i_Top rfl 2 (by decide) kf_Top_26 0 rfl rfl d_Top_late_1 ?_
  refine lv_iload_n hx hb d_Top_late_4 rfl (lv_at hl 1 rfl) ?_
  refine R_callV (q0 := 16) (c_Submissions_has l G cI cZ cJ h ns sp sq sec rt it ans (nI x) (by omega)) X rfl hW cw_Top_91 ki_Submissions_has ks_Submissions_has rfl rfl ⟨rfl, rfl⟩ ⟨by decide, by decide⟩ ⟨Nat.zero_le _, Nat.zero_le _⟩ [false, false, false, false, false, false, false, false, false, false, false, false, false, false, false, false, true, true, true, true, true, true, true, false, false, false, false, false] rfl (Nat.le_of_ble_eq_true rfl) rfl rfl hl.1 rfl rfl (Nat.le_of_ble_eq_true rfl) d_Top_late_5 rfl (fun H locs hW => ?_)
  have hW : Wr G A s.heap (w_All h cI cZ cJ wr se ga tw np tot gr fa re ss sc ne stt sco tim cnt ns sp sq sec rt it ans tl un nw td) H locs := hW
  refine N_if_eq_B hx hb  (tgt := 30) d_Top_late_8 (by decide) (fun c8 => ?_) (fun c8 => ?_)
  · exfalso; rw [inB_nI (by omega) (by omega)] at c8; cases c8
  · refine lv_aload_n hx hb d_Top_late_11 rfl (lv_at hl 0 rfl) ?_
    refine R_get X hW i_Top rfl 4 (by decide) kf_Top_40 0 rfl rfl d_Top_late_12 ?_
    refine lv_aload_n hx hb d_Top_late_15 rfl (lv_at hl 0 rfl) ?_
    refine lv_iload_n hx hb d_Top_late_16 rfl (lv_at hl 1 rfl) ?_
    refine R_callV (q0 := 0) (c_Top_secondsFromStart l G cI cZ cJ h wr se ga tw np tot gr fa re ss sc ne stt sco tim cnt ns sp sq sec rt it ans tl un nw td x s0 (by omega) (z13 x (by omega)).1 hs0 hle) X rfl hW cw_Top_95 ki_Top_secondsFromStart ks_Top_secondsFromStart rfl rfl ⟨rfl, rfl⟩ ⟨by decide, by decide⟩ ⟨Nat.zero_le _, Nat.zero_le _⟩ [true, true, true, true, true, true, true, true, true, true, true, true, true, true, true, true, true, true, true, true, true, true, true, true, true, true, true, true] rfl (Nat.le_of_ble_eq_true rfl) rfl rfl hl.1 rfl rfl (Nat.le_of_ble_eq_true rfl) d_Top_late_17 rfl (fun H locs hW => ?_)
    have hW : Wr G A s.heap (w_All h cI cZ cJ wr se ga tw np tot gr fa re ss sc ne stt sco tim cnt ns sp sq sec rt it ans tl un nw td) H locs := hW
    refine R_callV (q0 := 25) (c_Rules_isLate l G cI cZ cJ h nw td (sec x - s0) (by omega) z5) X rfl hW cw_Top_98 ki_Rules_isLate ks_Rules_isLate rfl rfl ⟨rfl, rfl⟩ ⟨by decide, by decide⟩ ⟨Nat.zero_le _, Nat.zero_le _⟩ [false, false, false, false, false, false, false, false, false, false, false, false, false, false, false, false, false, false, false, false, false, false, false, false, false, true, true, true] rfl (Nat.le_of_ble_eq_true rfl) rfl rfl hl.1 rfl rfl (Nat.le_of_ble_eq_true rfl) d_Top_late_20 rfl (fun H locs hW => ?_)
    have hW : Wr G A s.heap (w_All h cI cZ cJ wr se ga tw np tot gr fa re ss sc ne stt sco tim cnt ns sp sq sec rt it ans tl un nw td) H locs := hW
    refine N_if_eq_B hx hb  (tgt := 30) d_Top_late_23 (by decide) (fun c23 => ?_) (fun c23 => ?_)
    · refine lv_iconst (v := (nI 0)) hx hb d_Top_late_30 (by decide +kernel) ?_
      exact R_zret X Y hW rfl false (by decide +kernel) (by rw [c23]) d_Top_late_31
    · refine lv_iconst (v := (nI 1)) hx hb d_Top_late_26 (by decide +kernel) ?_
      refine lv_goto (tgt := 31) hx hb d_Top_late_27 (by decide) ?_
      exact R_zret X Y hW rfl true (by decide +kernel) (by rw [c23]) d_Top_late_31

theorem kb_Puzzles_has : Cond.code y_Puzzles_has b_Puzzles_has 2 (some .boolean) ∈ TBL := TBL_t (List.mem_append_right _ (List.mem_append_left _ (List.mem_of_getElem? (i := 108) rfl))) rfl
theorem km_Top_87 : Cond.methodLink "ContestRows" 87 y_Puzzles_has ∈ TBL := TBL_t (List.mem_append_right _ (List.mem_append_left _ (List.mem_of_getElem? (i := 105) rfl))) rfl
theorem cw_Top_87 : Cw "ContestRows" 87 y_Puzzles_has b_Puzzles_has 2 (some .boolean) 1 := ⟨kb_Puzzles_has, kn_Puzzles, km_Top_87, by decide +kernel⟩
theorem ki_Puzzles_has : Cond.instanceMethod y_Puzzles_has ∈ TBL := TBL_t (List.mem_append_right _ (List.mem_append_left _ (List.mem_of_getElem? (i := 106) rfl))) rfl
theorem ks_Puzzles_has : Cond.selects "ContestRows$Puzzles" y_Puzzles_has y_Puzzles_has ∈ TBL := TBL_t (List.mem_append_right _ (List.mem_append_left _ (List.mem_of_getElem? (i := 107) rfl))) rfl
set_option maxHeartbeats 4000000 in
set_option maxRecDepth 100000 in
theorem c_Top_even_bad (l : Launch) (G : va_G) (cI cZ cJ : ClassId) (h : Nat → Nat) (wr : Nat → Nat) (se : Nat → Bool) (ga : Nat → Option Nat) (tw : Nat → Option Nat) (np : Nat) (tot : Nat) (gr : Nat → Nat) (fa : Nat → Nat) (re : Nat → Bool) (ss : Nat → Nat) (sc : Nat → Nat) (ne : Nat) (stt : Nat → Option Nat) (sco : Nat → Nat) (tim : Nat → Nat) (cnt : Nat → Nat) (ns : Nat) (sp : Nat → Nat) (sq : Nat → Nat) (sec : Nat → Nat) (rt : Nat → Bool) (it : Nat → Nat) (ans : Nat → Nat) (tl : Nat) (un : Nat → Nat) (nw : Nat → Nat) (td : Nat → Nat) (k : Int32) (q : Int32) (hbad : ¬ (1 ≤ k.toInt ∧ k.toInt ≤ 6 ∧ inB q np = true)) (hn : np ≤ 20) : Ct l G (tyL cI cZ cJ) y_Top_even b_Top_even 3 (some .int) (rmL 1) [.ref (h 0), .int k, .int q] (w_All h cI cZ cJ wr se ga tw np tot gr fa re ss sc ne stt sco tim cnt ns sp sq sec rt it ans tl un nw td) (some (.int (-1))) (w_All h cI cZ cJ wr se ga tw np tot gr fa re ss sc ne stt sco tim cnt ns sp sq sec rt it ans tl un nw td) := by
  refine M_start (by decide) (Nat.le_of_ble_eq_true rfl) ?_
  intro p e s m args below meth c A Q ls X Y hW hl
  have hx := X.1.1
  have hb := X.1.2.1
  have hl : lv_has ls 3 [(0, .ref (h 0)), (1, .int k), (2, .int q)] := hl
  refine lv_iload_n hx hb d_Top_even_0 rfl (lv_at hl 1 rfl) ?_
  refine lv_iconst (v := (nI 1)) hx hb d_Top_even_1 (by decide +kernel) ?_
  refine N_icmp_lt_RN hx hb (by decide) (tgt := 22) d_Top_even_2 (by decide) (fun c2 => ?_) (fun c2 => ?_)
  · refine lv_iconst (v := (-1)) hx hb d_Top_even_22 (by decide +kernel) ?_
    exact R_iret X Y hW rfl rfl d_Top_even_23
  · refine lv_iload_n hx hb d_Top_even_5 rfl (lv_at hl 1 rfl) ?_
    refine lv_bipush (v := (nI 6)) hx hb d_Top_even_6 (by decide +kernel) ?_
    refine N_icmp_gt_RN hx hb (by decide) (tgt := 22) d_Top_even_8 (by decide) (fun c8 => ?_) (fun c8 => ?_)
    · refine lv_iconst (v := (-1)) hx hb d_Top_even_22 (by decide +kernel) ?_
      exact R_iret X Y hW rfl rfl d_Top_even_23
    · refine lv_aload_n hx hb d_Top_even_11 rfl (lv_at hl 0 rfl) ?_
      refine R_get X hW i_Top rfl 0 (by decide) kf_Top_10 0 rfl rfl d_Top_even_12 ?_
      refine lv_iload_n hx hb d_Top_even_15 rfl (lv_at hl 2 rfl) ?_
      refine R_callV (q0 := 5) (c_Puzzles_has l G cI cZ cJ h np tot gr fa re ss sc q (by omega)) X rfl hW cw_Top_87 ki_Puzzles_has ks_Puzzles_has rfl rfl ⟨rfl, rfl⟩ ⟨by decide, by decide⟩ ⟨Nat.zero_le _, Nat.zero_le _⟩ [false, false, false, false, false, true, true, true, true, true, true, false, false, false, false, false, false, false, false, false, false, false, false, false, false, false, false, false] rfl (Nat.le_of_ble_eq_true rfl) rfl rfl hl.1 rfl rfl (Nat.le_of_ble_eq_true rfl) d_Top_even_16 rfl (fun H locs hW => ?_)
      have hW : Wr G A s.heap (w_All h cI cZ cJ wr se ga tw np tot gr fa re ss sc ne stt sco tim cnt ns sp sq sec rt it ans tl un nw td) H locs := hW
      refine N_if_ne_B hx hb  (tgt := 24) d_Top_even_19 (by decide) (fun c19 => ?_) (fun c19 => ?_)
      · exact absurd ⟨by omega, by omega, c19⟩ hbad
      · refine lv_iconst (v := (-1)) hx hb d_Top_even_22 (by decide +kernel) ?_
        exact R_iret X Y hW rfl rfl d_Top_even_23

theorem kb_Puzzles_leastDifference : Cond.code y_Puzzles_leastDifference b_Puzzles_leastDifference 2 (some .int) ∈ TBL := TBL_t (List.mem_append_right _ (List.mem_append_right _ (List.mem_of_getElem? (i := 10) rfl))) rfl
theorem km_Top_156 : Cond.methodLink "ContestRows" 156 y_Puzzles_leastDifference ∈ TBL := TBL_t (List.mem_append_right _ (List.mem_append_right _ (List.mem_of_getElem? (i := 7) rfl))) rfl
theorem cw_Top_156 : Cw "ContestRows" 156 y_Puzzles_leastDifference b_Puzzles_leastDifference 2 (some .int) 0 := ⟨kb_Puzzles_leastDifference, kn_Puzzles, km_Top_156, by decide +kernel⟩
theorem ki_Puzzles_leastDifference : Cond.instanceMethod y_Puzzles_leastDifference ∈ TBL := TBL_t (List.mem_append_right _ (List.mem_append_right _ (List.mem_of_getElem? (i := 8) rfl))) rfl
theorem ks_Puzzles_leastDifference : Cond.selects "ContestRows$Puzzles" y_Puzzles_leastDifference y_Puzzles_leastDifference ∈ TBL := TBL_t (List.mem_append_right _ (List.mem_append_right _ (List.mem_of_getElem? (i := 9) rfl))) rfl
set_option maxHeartbeats 4000000 in
set_option maxRecDepth 100000 in
theorem c_Top_apart_none (l : Launch) (G : va_G) (cI cZ cJ : ClassId) (h : Nat → Nat) (wr : Nat → Nat) (se : Nat → Bool) (ga : Nat → Option Nat) (tw : Nat → Option Nat) (np : Nat) (tot : Nat) (gr : Nat → Nat) (fa : Nat → Nat) (re : Nat → Bool) (ss : Nat → Nat) (sc : Nat → Nat) (ne : Nat) (stt : Nat → Option Nat) (sco : Nat → Nat) (tim : Nat → Nat) (cnt : Nat → Nat) (ns : Nat) (sp : Nat → Nat) (sq : Nat → Nat) (sec : Nat → Nat) (rt : Nat → Bool) (it : Nat → Nat) (ans : Nat → Nat) (tl : Nat) (un : Nat → Nat) (nw : Nat → Nat) (td : Nat → Nat)  (hn : np = 0) : Ct l G (tyL cI cZ cJ) y_Top_apart b_Top_apart 1 (some .int) (rmL 1) [.ref (h 0)] (w_All h cI cZ cJ wr se ga tw np tot gr fa re ss sc ne stt sco tim cnt ns sp sq sec rt it ans tl un nw td) (some (.int (-1))) (w_All h cI cZ cJ wr se ga tw np tot gr fa re ss sc ne stt sco tim cnt ns sp sq sec rt it ans tl un nw td) := by
  refine M_start (by decide) (Nat.le_of_ble_eq_true rfl) ?_
  intro p e s m args below meth c A Q ls X Y hW hl
  have hx := X.1.1
  have hb := X.1.2.1
  have hl : lv_has ls 1 [(0, .ref (h 0))] := hl
  refine lv_aload_n hx hb d_Top_apart_0 rfl (lv_at hl 0 rfl) ?_
  refine R_get X hW i_Top rfl 0 (by decide) kf_Top_10 0 rfl rfl d_Top_apart_1 ?_
  refine R_callV (q0 := 5) (c_Puzzles_leastDifference_none l G cI cZ cJ h np tot gr fa re ss sc hn) X rfl hW cw_Top_156 ki_Puzzles_leastDifference ks_Puzzles_leastDifference rfl rfl ⟨rfl, rfl⟩ ⟨by decide, by decide⟩ ⟨Nat.zero_le _, Nat.zero_le _⟩ [false, false, false, false, false, true, true, true, true, true, true, false, false, false, false, false, false, false, false, false, false, false, false, false, false, false, false, false] rfl (Nat.le_of_ble_eq_true rfl) rfl rfl hl.1 rfl rfl (Nat.le_of_ble_eq_true rfl) d_Top_apart_4 rfl (fun H locs hW => ?_)
  have hW : Wr G A s.heap (w_All h cI cZ cJ wr se ga tw np tot gr fa re ss sc ne stt sco tim cnt ns sp sq sec rt it ans tl un nw td) H locs := hW
  exact R_iret X Y hW rfl rfl d_Top_apart_7

set_option maxHeartbeats 4000000 in
set_option maxRecDepth 100000 in
theorem c_Top_apart_some (l : Launch) (G : va_G) (cI cZ cJ : ClassId) (h : Nat → Nat) (wr : Nat → Nat) (se : Nat → Bool) (ga : Nat → Option Nat) (tw : Nat → Option Nat) (np : Nat) (tot : Nat) (gr : Nat → Nat) (fa : Nat → Nat) (re : Nat → Bool) (ss : Nat → Nat) (sc : Nat → Nat) (ne : Nat) (stt : Nat → Option Nat) (sco : Nat → Nat) (tim : Nat → Nat) (cnt : Nat → Nat) (ns : Nat) (sp : Nat → Nat) (sq : Nat → Nat) (sec : Nat → Nat) (rt : Nat → Bool) (it : Nat → Nat) (ans : Nat → Nat) (tl : Nat) (un : Nat → Nat) (nw : Nat → Nat) (td : Nat → Nat)  (hn : 0 < np ∧ np ≤ 20) (ht : tot ≤ 2000) : Ct l G (tyL cI cZ cJ) y_Top_apart b_Top_apart 1 (some .int) (rmL 1) [.ref (h 0)] (w_All h cI cZ cJ wr se ga tw np tot gr fa re ss sc ne stt sco tim cnt ns sp sq sec rt it ans tl un nw td) (some (.int (nI (tot - 2 * lowG re (tot / 2))))) (w_All h cI cZ cJ wr se ga tw np tot gr fa re ss sc ne stt sco tim cnt ns sp sq sec rt it ans tl un nw td) := by
  refine M_start (by decide) (Nat.le_of_ble_eq_true rfl) ?_
  intro p e s m args below meth c A Q ls X Y hW hl
  have hx := X.1.1
  have hb := X.1.2.1
  have hl : lv_has ls 1 [(0, .ref (h 0))] := hl
  refine lv_aload_n hx hb d_Top_apart_0 rfl (lv_at hl 0 rfl) ?_
  refine R_get X hW i_Top rfl 0 (by decide) kf_Top_10 0 rfl rfl d_Top_apart_1 ?_
  refine R_callV (q0 := 5) (c_Puzzles_leastDifference_some l G cI cZ cJ h np tot gr fa re ss sc hn ht) X rfl hW cw_Top_156 ki_Puzzles_leastDifference ks_Puzzles_leastDifference rfl rfl ⟨rfl, rfl⟩ ⟨by decide, by decide⟩ ⟨Nat.zero_le _, Nat.zero_le _⟩ [false, false, false, false, false, true, true, true, true, true, true, false, false, false, false, false, false, false, false, false, false, false, false, false, false, false, false, false] rfl (Nat.le_of_ble_eq_true rfl) rfl rfl hl.1 rfl rfl (Nat.le_of_ble_eq_true rfl) d_Top_apart_4 rfl (fun H locs hW => ?_)
  have hW : Wr G A s.heap (w_All h cI cZ cJ wr se ga tw np tot gr fa re ss sc ne stt sco tim cnt ns sp sq sec rt it ans tl un nw td) H locs := hW
  exact R_iret X Y hW rfl rfl d_Top_apart_7

theorem kb_Puzzles_add : Cond.code y_Puzzles_add b_Puzzles_add 2 (some .int) ∈ TBL := TBL_t (List.mem_append_left _ (List.mem_of_getElem? (i := 177) rfl)) rfl
theorem km_Top_59 : Cond.methodLink "ContestRows" 59 y_Puzzles_add ∈ TBL := TBL_t (List.mem_append_left _ (List.mem_of_getElem? (i := 174) rfl)) rfl
theorem cw_Top_59 : Cw "ContestRows" 59 y_Puzzles_add b_Puzzles_add 2 (some .int) 1 := ⟨kb_Puzzles_add, kn_Puzzles, km_Top_59, by decide +kernel⟩
theorem ki_Puzzles_add : Cond.instanceMethod y_Puzzles_add ∈ TBL := TBL_t (List.mem_append_left _ (List.mem_of_getElem? (i := 175) rfl)) rfl
theorem ks_Puzzles_add : Cond.selects "ContestRows$Puzzles" y_Puzzles_add y_Puzzles_add ∈ TBL := TBL_t (List.mem_append_left _ (List.mem_of_getElem? (i := 176) rfl)) rfl
set_option maxHeartbeats 4000000 in
set_option maxRecDepth 100000 in
theorem c_Top_puzzle_ok (l : Launch) (G : va_G) (cI cZ cJ : ClassId) (h : Nat → Nat) (wr : Nat → Nat) (se : Nat → Bool) (ga : Nat → Option Nat) (tw : Nat → Option Nat) (np : Nat) (tot : Nat) (gr : Nat → Nat) (fa : Nat → Nat) (re : Nat → Bool) (ss : Nat → Nat) (sc : Nat → Nat) (ne : Nat) (stt : Nat → Option Nat) (sco : Nat → Nat) (tim : Nat → Nat) (cnt : Nat → Nat) (ns : Nat) (sp : Nat → Nat) (sq : Nat → Nat) (sec : Nat → Nat) (rt : Nat → Bool) (it : Nat → Nat) (ans : Nat → Nat) (tl : Nat) (un : Nat → Nat) (nw : Nat → Nat) (td : Nat → Nat) (g : Nat) (hg : 1 ≤ g ∧ g ≤ 100) (hn : np < 20) (ht : tot ≤ 2000) (hfa : ∀ i, i < np → fa i < 20) (hgr : ∀ i, i < 20 → gr i ≤ 100) : Ct l G (tyL cI cZ cJ) y_Top_puzzle b_Top_puzzle 2 (some .int) (rmL 2) [.ref (h 0), .int (nI g)] (w_All h cI cZ cJ wr se ga tw np tot gr fa re ss sc ne stt sco tim cnt ns sp sq sec rt it ans tl un nw td) (some (.int (nI np))) (w_All h cI cZ cJ wr se ga tw (np + 1) (tot + g) (va_up gr np g) (insG (ltD (va_up gr np g)) np np fa) (rchG g 1000 (va_up re 0 true)) ss sc ne stt sco tim cnt ns sp sq sec rt it ans tl un nw td) := by
  refine M_start (by decide) (Nat.le_of_ble_eq_true rfl) ?_
  intro p e s m args below meth c A Q ls X Y hW hl
  have hx := X.1.1
  have hb := X.1.2.1
  have hl : lv_has ls 2 [(0, .ref (h 0)), (1, .int (nI g))] := hl
  refine lv_aload_n hx hb d_Top_puzzle_0 rfl (lv_at hl 0 rfl) ?_
  refine R_get X hW i_Top rfl 0 (by decide) kf_Top_10 0 rfl rfl d_Top_puzzle_1 ?_
  refine lv_iload_n hx hb d_Top_puzzle_4 rfl (lv_at hl 1 rfl) ?_
  refine R_callV (q0 := 5) (c_Puzzles_add_ok l G cI cZ cJ h np tot gr fa re ss sc g hg hn ht hfa hgr) X rfl hW cw_Top_59 ki_Puzzles_add ks_Puzzles_add rfl rfl ⟨rfl, rfl⟩ ⟨by decide, by decide⟩ ⟨Nat.zero_le _, Nat.zero_le _⟩ [false, false, false, false, false, true, true, true, true, true, true, false, false, false, false, false, false, false, false, false, false, false, false, false, false, false, false, false] rfl (Nat.le_of_ble_eq_true rfl) rfl rfl hl.1 rfl rfl (Nat.le_of_ble_eq_true rfl) d_Top_puzzle_5 rfl (fun H locs hW => ?_)
  have hW : Wr G A s.heap (w_All h cI cZ cJ wr se ga tw (np + 1) (tot + g) (va_up gr np g) (insG (ltD (va_up gr np g)) np np fa) (rchG g 1000 (va_up re 0 true)) ss sc ne stt sco tim cnt ns sp sq sec rt it ans tl un nw td) H locs := hW
  exact R_iret X Y hW rfl rfl d_Top_puzzle_8

set_option maxHeartbeats 4000000 in
set_option maxRecDepth 100000 in
theorem c_Top_puzzle_bad (l : Launch) (G : va_G) (cI cZ cJ : ClassId) (h : Nat → Nat) (wr : Nat → Nat) (se : Nat → Bool) (ga : Nat → Option Nat) (tw : Nat → Option Nat) (np : Nat) (tot : Nat) (gr : Nat → Nat) (fa : Nat → Nat) (re : Nat → Bool) (ss : Nat → Nat) (sc : Nat → Nat) (ne : Nat) (stt : Nat → Option Nat) (sco : Nat → Nat) (tim : Nat → Nat) (cnt : Nat → Nat) (ns : Nat) (sp : Nat → Nat) (sq : Nat → Nat) (sec : Nat → Nat) (rt : Nat → Bool) (it : Nat → Nat) (ans : Nat → Nat) (tl : Nat) (un : Nat → Nat) (nw : Nat → Nat) (td : Nat → Nat) (g : Int32) (hg : ¬ (1 ≤ g.toInt ∧ g.toInt ≤ 100 ∧ np < 20)) (hn : np ≤ 20) : Ct l G (tyL cI cZ cJ) y_Top_puzzle b_Top_puzzle 2 (some .int) (rmL 2) [.ref (h 0), .int g] (w_All h cI cZ cJ wr se ga tw np tot gr fa re ss sc ne stt sco tim cnt ns sp sq sec rt it ans tl un nw td) (some (.int (-1))) (w_All h cI cZ cJ wr se ga tw np tot gr fa re ss sc ne stt sco tim cnt ns sp sq sec rt it ans tl un nw td) := by
  refine M_start (by decide) (Nat.le_of_ble_eq_true rfl) ?_
  intro p e s m args below meth c A Q ls X Y hW hl
  have hx := X.1.1
  have hb := X.1.2.1
  have hl : lv_has ls 2 [(0, .ref (h 0)), (1, .int g)] := hl
  refine lv_aload_n hx hb d_Top_puzzle_0 rfl (lv_at hl 0 rfl) ?_
  refine R_get X hW i_Top rfl 0 (by decide) kf_Top_10 0 rfl rfl d_Top_puzzle_1 ?_
  refine lv_iload_n hx hb d_Top_puzzle_4 rfl (lv_at hl 1 rfl) ?_
  refine R_callV (q0 := 5) (c_Puzzles_add_bad l G cI cZ cJ h np tot gr fa re ss sc g hg hn) X rfl hW cw_Top_59 ki_Puzzles_add ks_Puzzles_add rfl rfl ⟨rfl, rfl⟩ ⟨by decide, by decide⟩ ⟨Nat.zero_le _, Nat.zero_le _⟩ [false, false, false, false, false, true, true, true, true, true, true, false, false, false, false, false, false, false, false, false, false, false, false, false, false, false, false, false] rfl (Nat.le_of_ble_eq_true rfl) rfl rfl hl.1 rfl rfl (Nat.le_of_ble_eq_true rfl) d_Top_puzzle_5 rfl (fun H locs hW => ?_)
  have hW : Wr G A s.heap (w_All h cI cZ cJ wr se ga tw np tot gr fa re ss sc ne stt sco tim cnt ns sp sq sec rt it ans tl un nw td) H locs := hW
  exact R_iret X Y hW rfl rfl d_Top_puzzle_8

set_option maxHeartbeats 4000000 in
set_option maxRecDepth 100000 in
theorem c_Top_submit_bad (l : Launch) (G : va_G) (cI cZ cJ : ClassId) (h : Nat → Nat) (wr : Nat → Nat) (se : Nat → Bool) (ga : Nat → Option Nat) (tw : Nat → Option Nat) (np : Nat) (tot : Nat) (gr : Nat → Nat) (fa : Nat → Nat) (re : Nat → Bool) (ss : Nat → Nat) (sc : Nat → Nat) (ne : Nat) (stt : Nat → Option Nat) (sco : Nat → Nat) (tim : Nat → Nat) (cnt : Nat → Nat) (ns : Nat) (sp : Nat → Nat) (sq : Nat → Nat) (sec : Nat → Nat) (rt : Nat → Bool) (it : Nat → Nat) (ans : Nat → Nat) (tl : Nat) (un : Nat → Nat) (nw : Nat → Nat) (td : Nat → Nat) (x : Int32) (y : Int32) (t : Int32) (w : Int32) (b : Bool) (hbad : ¬ (inB x ne = true ∧ inB y np = true ∧ 0 ≤ w.toInt)) (hI : IS np ne ns gr nw sp sq sec it ans stt) : Ct l G (tyL cI cZ cJ) y_Top_submit b_Top_submit 7 (some .int) (rmL 2) [.ref (h 0), .int x, .int y, .int t, .int w, .int (bI b)] (w_All h cI cZ cJ wr se ga tw np tot gr fa re ss sc ne stt sco tim cnt ns sp sq sec rt it ans tl un nw td) (some (.int (-1))) (w_All h cI cZ cJ wr se ga tw np tot gr fa re ss sc ne stt sco tim cnt ns sp sq sec rt it ans tl un nw td) := by
  refine M_start (by decide) (Nat.le_of_ble_eq_true rfl) ?_
  intro p e s m args below meth c A Q ls X Y hW hl
  have hx := X.1.1
  have hb := X.1.2.1
  have hl : lv_has ls 7 [(0, .ref (h 0)), (1, .int x), (2, .int y), (3, .int t), (4, .int w), (5, .int (bI b))] := hl
  obtain ⟨z1, z2, z3, z4, z5, z6, z7, z8, z9, z10, z11, z12, z13⟩ := id hI
  refine lv_aload_n hx hb d_Top_submit_0 rfl (lv_at hl 0 rfl) ?_
  refine R_get X hW i_Top rfl 1 (by decide) kf_Top_19 0 rfl rfl d_Top_submit_1 ?_
  refine lv_iload_n hx hb d_Top_submit_4 rfl (lv_at hl 1 rfl) ?_
  refine R_callV (q0 := 11) (c_Persons_has l G cI cZ cJ h ne stt sco tim cnt x (by omega)) X rfl hW cw_Top_76 ki_Persons_has ks_Persons_has rfl rfl ⟨rfl, rfl⟩ ⟨by decide, by decide⟩ ⟨Nat.zero_le _, Nat.zero_le _⟩ [false, false, false, false, false, false, false, false, false, false, false, true, true, true, true, true, false, false, false, false, false, false, false, false, false, false, false, false] rfl (Nat.le_of_ble_eq_true rfl) rfl rfl hl.1 rfl rfl (Nat.le_of_ble_eq_true rfl) d_Top_submit_5 rfl (fun H locs hW => ?_)
  have hW : Wr G A s.heap (w_All h cI cZ cJ wr se ga tw np tot gr fa re ss sc ne stt sco tim cnt ns sp sq sec rt it ans tl un nw td) H locs := hW
  refine N_if_eq_B hx hb  (tgt := 27) d_Top_submit_8 (by decide) (fun c8 => ?_) (fun c8 => ?_)
  · refine lv_iconst (v := (-1)) hx hb d_Top_submit_27 (by decide +kernel) ?_
    exact R_iret X Y hW rfl rfl d_Top_submit_28
  · refine lv_aload_n hx hb d_Top_submit_11 rfl (lv_at hl 0 rfl) ?_
    refine R_get X hW i_Top rfl 0 (by decide) kf_Top_10 0 rfl rfl d_Top_submit_12 ?_
    refine lv_iload_n hx hb d_Top_submit_15 rfl (lv_at hl 2 rfl) ?_
    refine R_callV (q0 := 5) (c_Puzzles_has l G cI cZ cJ h np tot gr fa re ss sc y (by omega)) X rfl hW cw_Top_87 ki_Puzzles_has ks_Puzzles_has rfl rfl ⟨rfl, rfl⟩ ⟨by decide, by decide⟩ ⟨Nat.zero_le _, Nat.zero_le _⟩ [false, false, false, false, false, true, true, true, true, true, true, false, false, false, false, false, false, false, false, false, false, false, false, false, false, false, false, false] rfl (Nat.le_of_ble_eq_true rfl) rfl rfl hl.1 rfl rfl (Nat.le_of_ble_eq_true rfl) d_Top_submit_16 rfl (fun H locs hW => ?_)
    have hW : Wr G A s.heap (w_All h cI cZ cJ wr se ga tw np tot gr fa re ss sc ne stt sco tim cnt ns sp sq sec rt it ans tl un nw td) H locs := hW
    refine N_if_eq_B hx hb  (tgt := 27) d_Top_submit_19 (by decide) (fun c19 => ?_) (fun c19 => ?_)
    · refine lv_iconst (v := (-1)) hx hb d_Top_submit_27 (by decide +kernel) ?_
      exact R_iret X Y hW rfl rfl d_Top_submit_28
    · refine lv_iload hx hb d_Top_submit_22 (lv_at hl 4 rfl) ?_
      refine N_if_ge_R hx hb  (tgt := 29) d_Top_submit_24 (by decide) (fun c24 => ?_) (fun c24 => ?_)
      · exact absurd ⟨c8, c19, by omega⟩ hbad
      · refine lv_iconst (v := (-1)) hx hb d_Top_submit_27 (by decide +kernel) ?_
        exact R_iret X Y hW rfl rfl d_Top_submit_28

set_option maxHeartbeats 4000000 in
set_option maxRecDepth 100000 in
theorem c_Top_submit_none (l : Launch) (G : va_G) (cI cZ cJ : ClassId) (h : Nat → Nat) (wr : Nat → Nat) (se : Nat → Bool) (ga : Nat → Option Nat) (tw : Nat → Option Nat) (np : Nat) (tot : Nat) (gr : Nat → Nat) (fa : Nat → Nat) (re : Nat → Bool) (ss : Nat → Nat) (sc : Nat → Nat) (ne : Nat) (stt : Nat → Option Nat) (sco : Nat → Nat) (tim : Nat → Nat) (cnt : Nat → Nat) (ns : Nat) (sp : Nat → Nat) (sq : Nat → Nat) (sec : Nat → Nat) (rt : Nat → Bool) (it : Nat → Nat) (ans : Nat → Nat) (tl : Nat) (un : Nat → Nat) (nw : Nat → Nat) (td : Nat → Nat) (x : Nat) (y : Nat) (t : Int32) (w : Nat) (b : Bool) (hx0 : x < ne) (hy0 : y < np) (hw0 : w < 2 ^ 31) (hs0 : stt x = none) (hI : IS np ne ns gr nw sp sq sec it ans stt) : Ct l G (tyL cI cZ cJ) y_Top_submit b_Top_submit 7 (some .int) (rmL 2) [.ref (h 0), .int (nI x), .int (nI y), .int t, .int (nI w), .int (bI b)] (w_All h cI cZ cJ wr se ga tw np tot gr fa re ss sc ne stt sco tim cnt ns sp sq sec rt it ans tl un nw td) (some (.int (-1))) (w_All h cI cZ cJ wr se ga tw np tot gr fa re ss sc ne stt sco tim cnt ns sp sq sec rt it ans tl un nw td) := by
  refine M_start (by decide) (Nat.le_of_ble_eq_true rfl) ?_
  intro p e s m args below meth c A Q ls X Y hW hl
  have hx := X.1.1
  have hb := X.1.2.1
  have hl : lv_has ls 7 [(0, .ref (h 0)), (1, .int (nI x)), (2, .int (nI y)), (3, .int t), (4, .int (nI w)), (5, .int (bI b))] := hl
  obtain ⟨z1, z2, z3, z4, z5, z6, z7, z8, z9, z10, z11, z12, z13⟩ := id hI
  refine lv_aload_n hx hb d_Top_submit_0 rfl (lv_at hl 0 rfl) ?_
  refine R_get X hW i_Top rfl 1 (by decide) kf_Top_19 0 rfl rfl d_Top_submit_1 ?_
  refine lv_iload_n hx hb d_Top_submit_4 rfl (lv_at hl 1 rfl) ?_
  refine R_callV (q0 := 11) (c_Persons_has l G cI cZ cJ h ne stt sco tim cnt (nI x) (by omega)) X rfl hW cw_Top_76 ki_Persons_has ks_Persons_has rfl rfl ⟨rfl, rfl⟩ ⟨by decide, by decide⟩ ⟨Nat.zero_le _, Nat.zero_le _⟩ [false, false, false, false, false, false, false, false, false, false, false, true, true, true, true, true, false, false, false, false, false, false, false, false, false, false, false, false] rfl (Nat.le_of_ble_eq_true rfl) rfl rfl hl.1 rfl rfl (Nat.le_of_ble_eq_true rfl) d_Top_submit_5 rfl (fun H locs hW => ?_)
  have hW : Wr G A s.heap (w_All h cI cZ cJ wr se ga tw np tot gr fa re ss sc ne stt sco tim cnt ns sp sq sec rt it ans tl un nw td) H locs := hW
  refine N_if_eq_B hx hb  (tgt := 27) d_Top_submit_8 (by decide) (fun c8 => ?_) (fun c8 => ?_)
  · exfalso; rw [inB_nI (by omega) (by omega)] at c8; cases c8
  · refine lv_aload_n hx hb d_Top_submit_11 rfl (lv_at hl 0 rfl) ?_
    refine R_get X hW i_Top rfl 0 (by decide) kf_Top_10 0 rfl rfl d_Top_submit_12 ?_
    refine lv_iload_n hx hb d_Top_submit_15 rfl (lv_at hl 2 rfl) ?_
    refine R_callV (q0 := 5) (c_Puzzles_has l G cI cZ cJ h np tot gr fa re ss sc (nI y) (by omega)) X rfl hW cw_Top_87 ki_Puzzles_has ks_Puzzles_has rfl rfl ⟨rfl, rfl⟩ ⟨by decide, by decide⟩ ⟨Nat.zero_le _, Nat.zero_le _⟩ [false, false, false, false, false, true, true, true, true, true, true, false, false, false, false, false, false, false, false, false, false, false, false, false, false, false, false, false] rfl (Nat.le_of_ble_eq_true rfl) rfl rfl hl.1 rfl rfl (Nat.le_of_ble_eq_true rfl) d_Top_submit_16 rfl (fun H locs hW => ?_)
    have hW : Wr G A s.heap (w_All h cI cZ cJ wr se ga tw np tot gr fa re ss sc ne stt sco tim cnt ns sp sq sec rt it ans tl un nw td) H locs := hW
    refine N_if_eq_B hx hb  (tgt := 27) d_Top_submit_19 (by decide) (fun c19 => ?_) (fun c19 => ?_)
    · exfalso; rw [inB_nI (by omega) (by omega)] at c19; cases c19
    · refine lv_iload hx hb d_Top_submit_22 (lv_at hl 4 rfl) ?_
      refine N_if_ge_N hx hb (by omega) (tgt := 29) d_Top_submit_24 (by decide) (fun c24 => ?_) (fun c24 => ?_)
      · refine lv_aload_n hx hb d_Top_submit_29 rfl (lv_at hl 0 rfl) ?_
        refine R_get X hW i_Top rfl 1 (by decide) kf_Top_19 0 rfl rfl d_Top_submit_30 ?_
        refine R_get X hW i_Persons rfl 0 (by decide) kf_Top_84 11 rfl rfl d_Top_submit_33 ?_
        refine lv_iload_n hx hb d_Top_submit_36 rfl (lv_at hl 1 rfl) ?_
        refine R_iald X hW (t0 := 0) rfl 12 rfl (k := x) (by omega) (by decide) d_Top_submit_37 ?_
        refine lv_istore (lv' := [(6, .int (oI (stt x))), (0, .ref (h 0)), (1, .int (nI x)), (2, .int (nI y)), (3, .int t), (4, .int (nI w)), (5, .int (bI b))]) hx hb d_Top_submit_38 hl (by decide) rfl (fun ls hl => ?_)
        refine lv_iload hx hb d_Top_submit_40 (lv_at hl 0 rfl) ?_
        refine lv_iconst (v := (-1)) hx hb d_Top_submit_42 (by decide +kernel) ?_
        refine N_icmp_eq_Om hx hb (fun n hn => by have := z12 x n (by omega) hn; omega) (tgt := 58) d_Top_submit_43 (by decide) (fun c43 => ?_) (fun c43 => ?_)
        · refine lv_iconst (v := (-1)) hx hb d_Top_submit_58 (by decide +kernel) ?_
          exact R_iret X Y hW rfl rfl d_Top_submit_59
        · exact absurd hs0 c43
      · exfalso; omega

set_option maxHeartbeats 4000000 in
set_option maxRecDepth 100000 in
theorem c_Top_submit_off (l : Launch) (G : va_G) (cI cZ cJ : ClassId) (h : Nat → Nat) (wr : Nat → Nat) (se : Nat → Bool) (ga : Nat → Option Nat) (tw : Nat → Option Nat) (np : Nat) (tot : Nat) (gr : Nat → Nat) (fa : Nat → Nat) (re : Nat → Bool) (ss : Nat → Nat) (sc : Nat → Nat) (ne : Nat) (stt : Nat → Option Nat) (sco : Nat → Nat) (tim : Nat → Nat) (cnt : Nat → Nat) (ns : Nat) (sp : Nat → Nat) (sq : Nat → Nat) (sec : Nat → Nat) (rt : Nat → Bool) (it : Nat → Nat) (ans : Nat → Nat) (tl : Nat) (un : Nat → Nat) (nw : Nat → Nat) (td : Nat → Nat) (x : Nat) (y : Nat) (t : Int32) (w : Nat) (b : Bool) (s0 : Nat) (hx0 : x < ne) (hy0 : y < np) (hw0 : w < 2 ^ 31) (hs0 : stt x = some s0) (hbad : ¬ ((s0 : Int) ≤ t.toInt ∧ t.toInt ≤ 1000000)) (hI : IS np ne ns gr nw sp sq sec it ans stt) : Ct l G (tyL cI cZ cJ) y_Top_submit b_Top_submit 7 (some .int) (rmL 2) [.ref (h 0), .int (nI x), .int (nI y), .int t, .int (nI w), .int (bI b)] (w_All h cI cZ cJ wr se ga tw np tot gr fa re ss sc ne stt sco tim cnt ns sp sq sec rt it ans tl un nw td) (some (.int (-1))) (w_All h cI cZ cJ wr se ga tw np tot gr fa re ss sc ne stt sco tim cnt ns sp sq sec rt it ans tl un nw td) := by
  refine M_start (by decide) (Nat.le_of_ble_eq_true rfl) ?_
  intro p e s m args below meth c A Q ls X Y hW hl
  have hx := X.1.1
  have hb := X.1.2.1
  have hl : lv_has ls 7 [(0, .ref (h 0)), (1, .int (nI x)), (2, .int (nI y)), (3, .int t), (4, .int (nI w)), (5, .int (bI b))] := hl
  obtain ⟨z1, z2, z3, z4, z5, z6, z7, z8, z9, z10, z11, z12, z13⟩ := id hI
  have z0 := z12 x s0 (by omega) hs0
  refine lv_aload_n hx hb d_Top_submit_0 rfl (lv_at hl 0 rfl) ?_
  refine R_get X hW i_Top rfl 1 (by decide) kf_Top_19 0 rfl rfl d_Top_submit_1 ?_
  refine lv_iload_n hx hb d_Top_submit_4 rfl (lv_at hl 1 rfl) ?_
  refine R_callV (q0 := 11) (c_Persons_has l G cI cZ cJ h ne stt sco tim cnt (nI x) (by omega)) X rfl hW cw_Top_76 ki_Persons_has ks_Persons_has rfl rfl ⟨rfl, rfl⟩ ⟨by decide, by decide⟩ ⟨Nat.zero_le _, Nat.zero_le _⟩ [false, false, false, false, false, false, false, false, false, false, false, true, true, true, true, true, false, false, false, false, false, false, false, false, false, false, false, false] rfl (Nat.le_of_ble_eq_true rfl) rfl rfl hl.1 rfl rfl (Nat.le_of_ble_eq_true rfl) d_Top_submit_5 rfl (fun H locs hW => ?_)
  have hW : Wr G A s.heap (w_All h cI cZ cJ wr se ga tw np tot gr fa re ss sc ne stt sco tim cnt ns sp sq sec rt it ans tl un nw td) H locs := hW
  refine N_if_eq_B hx hb  (tgt := 27) d_Top_submit_8 (by decide) (fun c8 => ?_) (fun c8 => ?_)
  · exfalso; rw [inB_nI (by omega) (by omega)] at c8; cases c8
  · refine lv_aload_n hx hb d_Top_submit_11 rfl (lv_at hl 0 rfl) ?_
    refine R_get X hW i_Top rfl 0 (by decide) kf_Top_10 0 rfl rfl d_Top_submit_12 ?_
    refine lv_iload_n hx hb d_Top_submit_15 rfl (lv_at hl 2 rfl) ?_
    refine R_callV (q0 := 5) (c_Puzzles_has l G cI cZ cJ h np tot gr fa re ss sc (nI y) (by omega)) X rfl hW cw_Top_87 ki_Puzzles_has ks_Puzzles_has rfl rfl ⟨rfl, rfl⟩ ⟨by decide, by decide⟩ ⟨Nat.zero_le _, Nat.zero_le _⟩ [false, false, false, false, false, true, true, true, true, true, true, false, false, false, false, false, false, false, false, false, false, false, false, false, false, false, false, false] rfl (Nat.le_of_ble_eq_true rfl) rfl rfl hl.1 rfl rfl (Nat.le_of_ble_eq_true rfl) d_Top_submit_16 rfl (fun H locs hW => ?_)
    have hW : Wr G A s.heap (w_All h cI cZ cJ wr se ga tw np tot gr fa re ss sc ne stt sco tim cnt ns sp sq sec rt it ans tl un nw td) H locs := hW
    refine N_if_eq_B hx hb  (tgt := 27) d_Top_submit_19 (by decide) (fun c19 => ?_) (fun c19 => ?_)
    · exfalso; rw [inB_nI (by omega) (by omega)] at c19; cases c19
    · refine lv_iload hx hb d_Top_submit_22 (lv_at hl 4 rfl) ?_
      refine N_if_ge_N hx hb (by omega) (tgt := 29) d_Top_submit_24 (by decide) (fun c24 => ?_) (fun c24 => ?_)
      · refine lv_aload_n hx hb d_Top_submit_29 rfl (lv_at hl 0 rfl) ?_
        refine R_get X hW i_Top rfl 1 (by decide) kf_Top_19 0 rfl rfl d_Top_submit_30 ?_
        refine R_get X hW i_Persons rfl 0 (by decide) kf_Top_84 11 rfl rfl d_Top_submit_33 ?_
        refine lv_iload_n hx hb d_Top_submit_36 rfl (lv_at hl 1 rfl) ?_
        refine R_iald X hW (t0 := 0) rfl 12 rfl (k := x) (by omega) (by decide) d_Top_submit_37 ?_
        refine lv_istore (lv' := [(6, .int (oI (stt x))), (0, .ref (h 0)), (1, .int (nI x)), (2, .int (nI y)), (3, .int t), (4, .int (nI w)), (5, .int (bI b))]) hx hb d_Top_submit_38 hl (by decide) rfl (fun ls hl => ?_)
        refine lv_iload hx hb d_Top_submit_40 (lv_at hl 0 rfl) ?_
        refine lv_iconst (v := (-1)) hx hb d_Top_submit_42 (by decide +kernel) ?_
        refine N_icmp_eq_Om hx hb (fun n hn => by have := z12 x n (by omega) hn; omega) (tgt := 58) d_Top_submit_43 (by decide) (fun c43 => ?_) (fun c43 => ?_)
        · exfalso; rw [hs0] at c43; cases c43
        · refine lv_iload_n hx hb d_Top_submit_46 rfl (lv_at hl 4 rfl) ?_
          refine lv_iload hx hb d_Top_submit_47 (lv_at hl 0 rfl) ?_
          refine W.eq (g2 := F0 m 49 ls (.int (nI s0) :: .int t :: [])) (by rw [hs0]; first | done | rfl) ?_
          refine N_icmp_lt_RN hx hb (by omega) (tgt := 58) d_Top_submit_49 (by decide) (fun c49 => ?_) (fun c49 => ?_)
          · refine lv_iconst (v := (-1)) hx hb d_Top_submit_58 (by decide +kernel) ?_
            exact R_iret X Y hW rfl rfl d_Top_submit_59
          · refine lv_iload_n hx hb d_Top_submit_52 rfl (lv_at hl 4 rfl) ?_
            refine lv_ldc hx hb X.1.2.2.2.1 (X.1.2.2.2.2 _ kc_Top_79) d_Top_submit_53 ?_
            refine W.eq (g2 := F0 m 55 ls (.int (nI 1000000) :: .int t :: [])) rfl ?_
            refine N_icmp_le_RN hx hb (by decide) (tgt := 60) d_Top_submit_55 (by decide) (fun c55 => ?_) (fun c55 => ?_)
            · exfalso; omega
            · refine lv_iconst (v := (-1)) hx hb d_Top_submit_58 (by decide +kernel) ?_
              exact R_iret X Y hW rfl rfl d_Top_submit_59
      · exfalso; omega

theorem kb_Submissions_add : Cond.code y_Submissions_add b_Submissions_add 6 (some .int) ∈ TBL := TBL_t (List.mem_append_right _ (List.mem_append_left _ (List.mem_of_getElem? (i := 112) rfl))) rfl
theorem km_Top_88 : Cond.methodLink "ContestRows" 88 y_Submissions_add ∈ TBL := TBL_t (List.mem_append_right _ (List.mem_append_left _ (List.mem_of_getElem? (i := 109) rfl))) rfl
theorem cw_Top_88 : Cw "ContestRows" 88 y_Submissions_add b_Submissions_add 6 (some .int) 5 := ⟨kb_Submissions_add, kn_Submissions, km_Top_88, by decide +kernel⟩
theorem ki_Submissions_add : Cond.instanceMethod y_Submissions_add ∈ TBL := TBL_t (List.mem_append_right _ (List.mem_append_left _ (List.mem_of_getElem? (i := 110) rfl))) rfl
theorem ks_Submissions_add : Cond.selects "ContestRows$Submissions" y_Submissions_add y_Submissions_add ∈ TBL := TBL_t (List.mem_append_right _ (List.mem_append_left _ (List.mem_of_getElem? (i := 111) rfl))) rfl
set_option maxHeartbeats 4000000 in
set_option maxRecDepth 100000 in
theorem c_Top_submit_ok (l : Launch) (G : va_G) (cI cZ cJ : ClassId) (h : Nat → Nat) (wr : Nat → Nat) (se : Nat → Bool) (ga : Nat → Option Nat) (tw : Nat → Option Nat) (np : Nat) (tot : Nat) (gr : Nat → Nat) (fa : Nat → Nat) (re : Nat → Bool) (ss : Nat → Nat) (sc : Nat → Nat) (ne : Nat) (stt : Nat → Option Nat) (sco : Nat → Nat) (tim : Nat → Nat) (cnt : Nat → Nat) (ns : Nat) (sp : Nat → Nat) (sq : Nat → Nat) (sec : Nat → Nat) (rt : Nat → Bool) (it : Nat → Nat) (ans : Nat → Nat) (tl : Nat) (un : Nat → Nat) (nw : Nat → Nat) (td : Nat → Nat) (x : Nat) (y : Nat) (t : Nat) (w : Nat) (b : Bool) (s0 : Nat) (hx0 : x < ne) (hy0 : y < np) (hw0 : w < 2 ^ 31) (hs0 : stt x = some s0) (hok : s0 ≤ t ∧ t ≤ 1000000) (hns : ns < 300) (hI : IS np ne ns gr nw sp sq sec it ans stt) : Ct l G (tyL cI cZ cJ) y_Top_submit b_Top_submit 7 (some .int) (rmL 2) [.ref (h 0), .int (nI x), .int (nI y), .int (nI t), .int (nI w), .int (bI b)] (w_All h cI cZ cJ wr se ga tw np tot gr fa re ss sc ne stt sco tim cnt ns sp sq sec rt it ans tl un nw td) (some (.int (nI ns))) (w_All h cI cZ cJ wr se ga tw np tot gr fa re ss sc ne stt sco tim cnt (ns + 1) (va_up sp ns x) (va_up sq ns y) (va_up sec ns t) (va_up rt ns b) (insG (ltT (va_up sec ns t)) ns ns it) (va_up ans ns w) tl un nw td) := by
  refine M_start (by decide) (Nat.le_of_ble_eq_true rfl) ?_
  intro p e s m args below meth c A Q ls X Y hW hl
  have hx := X.1.1
  have hb := X.1.2.1
  have hl : lv_has ls 7 [(0, .ref (h 0)), (1, .int (nI x)), (2, .int (nI y)), (3, .int (nI t)), (4, .int (nI w)), (5, .int (bI b))] := hl
  obtain ⟨z1, z2, z3, z4, z5, z6, z7, z8, z9, z10, z11, z12, z13⟩ := id hI
  have z0 := z12 x s0 (by omega) hs0
  refine lv_aload_n hx hb d_Top_submit_0 rfl (lv_at hl 0 rfl) ?_
  refine R_get X hW i_Top rfl 1 (by decide) kf_Top_19 0 rfl rfl d_Top_submit_1 ?_
  refine lv_iload_n hx hb d_Top_submit_4 rfl (lv_at hl 1 rfl) ?_
  refine R_callV (q0 := 11) (c_Persons_has l G cI cZ cJ h ne stt sco tim cnt (nI x) (by omega)) X rfl hW cw_Top_76 ki_Persons_has ks_Persons_has rfl rfl ⟨rfl, rfl⟩ ⟨by decide, by decide⟩ ⟨Nat.zero_le _, Nat.zero_le _⟩ [false, false, false, false, false, false, false, false, false, false, false, true, true, true, true, true, false, false, false, false, false, false, false, false, false, false, false, false] rfl (Nat.le_of_ble_eq_true rfl) rfl rfl hl.1 rfl rfl (Nat.le_of_ble_eq_true rfl) d_Top_submit_5 rfl (fun H locs hW => ?_)
  have hW : Wr G A s.heap (w_All h cI cZ cJ wr se ga tw np tot gr fa re ss sc ne stt sco tim cnt ns sp sq sec rt it ans tl un nw td) H locs := hW
  refine N_if_eq_B hx hb  (tgt := 27) d_Top_submit_8 (by decide) (fun c8 => ?_) (fun c8 => ?_)
  · exfalso; rw [inB_nI (by omega) (by omega)] at c8; cases c8
  · refine lv_aload_n hx hb d_Top_submit_11 rfl (lv_at hl 0 rfl) ?_
    refine R_get X hW i_Top rfl 0 (by decide) kf_Top_10 0 rfl rfl d_Top_submit_12 ?_
    refine lv_iload_n hx hb d_Top_submit_15 rfl (lv_at hl 2 rfl) ?_
    refine R_callV (q0 := 5) (c_Puzzles_has l G cI cZ cJ h np tot gr fa re ss sc (nI y) (by omega)) X rfl hW cw_Top_87 ki_Puzzles_has ks_Puzzles_has rfl rfl ⟨rfl, rfl⟩ ⟨by decide, by decide⟩ ⟨Nat.zero_le _, Nat.zero_le _⟩ [false, false, false, false, false, true, true, true, true, true, true, false, false, false, false, false, false, false, false, false, false, false, false, false, false, false, false, false] rfl (Nat.le_of_ble_eq_true rfl) rfl rfl hl.1 rfl rfl (Nat.le_of_ble_eq_true rfl) d_Top_submit_16 rfl (fun H locs hW => ?_)
    have hW : Wr G A s.heap (w_All h cI cZ cJ wr se ga tw np tot gr fa re ss sc ne stt sco tim cnt ns sp sq sec rt it ans tl un nw td) H locs := hW
    refine N_if_eq_B hx hb  (tgt := 27) d_Top_submit_19 (by decide) (fun c19 => ?_) (fun c19 => ?_)
    · exfalso; rw [inB_nI (by omega) (by omega)] at c19; cases c19
    · refine lv_iload hx hb d_Top_submit_22 (lv_at hl 4 rfl) ?_
      refine N_if_ge_N hx hb (by omega) (tgt := 29) d_Top_submit_24 (by decide) (fun c24 => ?_) (fun c24 => ?_)
      · refine lv_aload_n hx hb d_Top_submit_29 rfl (lv_at hl 0 rfl) ?_
        refine R_get X hW i_Top rfl 1 (by decide) kf_Top_19 0 rfl rfl d_Top_submit_30 ?_
        refine R_get X hW i_Persons rfl 0 (by decide) kf_Top_84 11 rfl rfl d_Top_submit_33 ?_
        refine lv_iload_n hx hb d_Top_submit_36 rfl (lv_at hl 1 rfl) ?_
        refine R_iald X hW (t0 := 0) rfl 12 rfl (k := x) (by omega) (by decide) d_Top_submit_37 ?_
        refine lv_istore (lv' := [(6, .int (oI (stt x))), (0, .ref (h 0)), (1, .int (nI x)), (2, .int (nI y)), (3, .int (nI t)), (4, .int (nI w)), (5, .int (bI b))]) hx hb d_Top_submit_38 hl (by decide) rfl (fun ls hl => ?_)
        refine lv_iload hx hb d_Top_submit_40 (lv_at hl 0 rfl) ?_
        refine lv_iconst (v := (-1)) hx hb d_Top_submit_42 (by decide +kernel) ?_
        refine N_icmp_eq_Om hx hb (fun n hn => by have := z12 x n (by omega) hn; omega) (tgt := 58) d_Top_submit_43 (by decide) (fun c43 => ?_) (fun c43 => ?_)
        · exfalso; rw [hs0] at c43; cases c43
        · refine lv_iload_n hx hb d_Top_submit_46 rfl (lv_at hl 4 rfl) ?_
          refine lv_iload hx hb d_Top_submit_47 (lv_at hl 0 rfl) ?_
          refine W.eq (g2 := F0 m 49 ls (.int (nI s0) :: .int (nI t) :: [])) (by rw [hs0]; first | done | rfl) ?_
          refine N_icmp_lt_NN hx hb (by omega) (by omega) (tgt := 58) d_Top_submit_49 (by decide) (fun c49 => ?_) (fun c49 => ?_)
          · exfalso; omega
          · refine lv_iload_n hx hb d_Top_submit_52 rfl (lv_at hl 4 rfl) ?_
            refine lv_ldc hx hb X.1.2.2.2.1 (X.1.2.2.2.2 _ kc_Top_79) d_Top_submit_53 ?_
            refine W.eq (g2 := F0 m 55 ls (.int (nI 1000000) :: .int (nI t) :: [])) rfl ?_
            refine N_icmp_le_NN hx hb (by omega) (by decide) (tgt := 60) d_Top_submit_55 (by decide) (fun c55 => ?_) (fun c55 => ?_)
            · refine lv_aload_n hx hb d_Top_submit_60 rfl (lv_at hl 1 rfl) ?_
              refine R_get X hW i_Top rfl 2 (by decide) kf_Top_26 0 rfl rfl d_Top_submit_61 ?_
              refine lv_iload_n hx hb d_Top_submit_64 rfl (lv_at hl 2 rfl) ?_
              refine lv_iload_n hx hb d_Top_submit_65 rfl (lv_at hl 3 rfl) ?_
              refine lv_iload_n hx hb d_Top_submit_66 rfl (lv_at hl 4 rfl) ?_
              refine lv_iload hx hb d_Top_submit_67 (lv_at hl 5 rfl) ?_
              refine lv_iload hx hb d_Top_submit_69 (lv_at hl 6 rfl) ?_
              refine R_callV (q0 := 16) (c_Submissions_add_ok l G cI cZ cJ h ns sp sq sec rt it ans x y t w b hns (fun i hi => by have := z9 i hi; omega) (fun i hi => by have := z8 i hi; omega) (by omega)) X rfl hW cw_Top_88 ki_Submissions_add ks_Submissions_add rfl rfl ⟨rfl, rfl⟩ ⟨by decide, by decide⟩ ⟨Nat.zero_le _, Nat.zero_le _⟩ [false, false, false, false, false, false, false, false, false, false, false, false, false, false, false, false, true, true, true, true, true, true, true, false, false, false, false, false] rfl (Nat.le_of_ble_eq_true rfl) rfl rfl hl.1 rfl rfl (Nat.le_of_ble_eq_true rfl) d_Top_submit_71 rfl (fun H locs hW => ?_)
              have hW : Wr G A s.heap (w_All h cI cZ cJ wr se ga tw np tot gr fa re ss sc ne stt sco tim cnt (ns + 1) (va_up sp ns x) (va_up sq ns y) (va_up sec ns t) (va_up rt ns b) (insG (ltT (va_up sec ns t)) ns ns it) (va_up ans ns w) tl un nw td) H locs := hW
              exact R_iret X Y hW rfl rfl d_Top_submit_74
            · exfalso; omega
      · exfalso; omega

set_option maxHeartbeats 4000000 in
set_option maxRecDepth 100000 in
theorem c_Top_submit_full (l : Launch) (G : va_G) (cI cZ cJ : ClassId) (h : Nat → Nat) (wr : Nat → Nat) (se : Nat → Bool) (ga : Nat → Option Nat) (tw : Nat → Option Nat) (np : Nat) (tot : Nat) (gr : Nat → Nat) (fa : Nat → Nat) (re : Nat → Bool) (ss : Nat → Nat) (sc : Nat → Nat) (ne : Nat) (stt : Nat → Option Nat) (sco : Nat → Nat) (tim : Nat → Nat) (cnt : Nat → Nat) (ns : Nat) (sp : Nat → Nat) (sq : Nat → Nat) (sec : Nat → Nat) (rt : Nat → Bool) (it : Nat → Nat) (ans : Nat → Nat) (tl : Nat) (un : Nat → Nat) (nw : Nat → Nat) (td : Nat → Nat) (x : Nat) (y : Nat) (t : Nat) (w : Nat) (b : Bool) (s0 : Nat) (hx0 : x < ne) (hy0 : y < np) (hw0 : w < 2 ^ 31) (hs0 : stt x = some s0) (hok : s0 ≤ t ∧ t ≤ 1000000) (hns : ns = 300) (hI : IS np ne ns gr nw sp sq sec it ans stt) : Ct l G (tyL cI cZ cJ) y_Top_submit b_Top_submit 7 (some .int) (rmL 2) [.ref (h 0), .int (nI x), .int (nI y), .int (nI t), .int (nI w), .int (bI b)] (w_All h cI cZ cJ wr se ga tw np tot gr fa re ss sc ne stt sco tim cnt ns sp sq sec rt it ans tl un nw td) (some (.int (-1))) (w_All h cI cZ cJ wr se ga tw np tot gr fa re ss sc ne stt sco tim cnt ns sp sq sec rt it ans tl un nw td) := by
  refine M_start (by decide) (Nat.le_of_ble_eq_true rfl) ?_
  intro p e s m args below meth c A Q ls X Y hW hl
  have hx := X.1.1
  have hb := X.1.2.1
  have hl : lv_has ls 7 [(0, .ref (h 0)), (1, .int (nI x)), (2, .int (nI y)), (3, .int (nI t)), (4, .int (nI w)), (5, .int (bI b))] := hl
  obtain ⟨z1, z2, z3, z4, z5, z6, z7, z8, z9, z10, z11, z12, z13⟩ := id hI
  have z0 := z12 x s0 (by omega) hs0
  refine lv_aload_n hx hb d_Top_submit_0 rfl (lv_at hl 0 rfl) ?_
  refine R_get X hW i_Top rfl 1 (by decide) kf_Top_19 0 rfl rfl d_Top_submit_1 ?_
  refine lv_iload_n hx hb d_Top_submit_4 rfl (lv_at hl 1 rfl) ?_
  refine R_callV (q0 := 11) (c_Persons_has l G cI cZ cJ h ne stt sco tim cnt (nI x) (by omega)) X rfl hW cw_Top_76 ki_Persons_has ks_Persons_has rfl rfl ⟨rfl, rfl⟩ ⟨by decide, by decide⟩ ⟨Nat.zero_le _, Nat.zero_le _⟩ [false, false, false, false, false, false, false, false, false, false, false, true, true, true, true, true, false, false, false, false, false, false, false, false, false, false, false, false] rfl (Nat.le_of_ble_eq_true rfl) rfl rfl hl.1 rfl rfl (Nat.le_of_ble_eq_true rfl) d_Top_submit_5 rfl (fun H locs hW => ?_)
  have hW : Wr G A s.heap (w_All h cI cZ cJ wr se ga tw np tot gr fa re ss sc ne stt sco tim cnt ns sp sq sec rt it ans tl un nw td) H locs := hW
  refine N_if_eq_B hx hb  (tgt := 27) d_Top_submit_8 (by decide) (fun c8 => ?_) (fun c8 => ?_)
  · exfalso; rw [inB_nI (by omega) (by omega)] at c8; cases c8
  · refine lv_aload_n hx hb d_Top_submit_11 rfl (lv_at hl 0 rfl) ?_
    refine R_get X hW i_Top rfl 0 (by decide) kf_Top_10 0 rfl rfl d_Top_submit_12 ?_
    refine lv_iload_n hx hb d_Top_submit_15 rfl (lv_at hl 2 rfl) ?_
    refine R_callV (q0 := 5) (c_Puzzles_has l G cI cZ cJ h np tot gr fa re ss sc (nI y) (by omega)) X rfl hW cw_Top_87 ki_Puzzles_has ks_Puzzles_has rfl rfl ⟨rfl, rfl⟩ ⟨by decide, by decide⟩ ⟨Nat.zero_le _, Nat.zero_le _⟩ [false, false, false, false, false, true, true, true, true, true, true, false, false, false, false, false, false, false, false, false, false, false, false, false, false, false, false, false] rfl (Nat.le_of_ble_eq_true rfl) rfl rfl hl.1 rfl rfl (Nat.le_of_ble_eq_true rfl) d_Top_submit_16 rfl (fun H locs hW => ?_)
    have hW : Wr G A s.heap (w_All h cI cZ cJ wr se ga tw np tot gr fa re ss sc ne stt sco tim cnt ns sp sq sec rt it ans tl un nw td) H locs := hW
    refine N_if_eq_B hx hb  (tgt := 27) d_Top_submit_19 (by decide) (fun c19 => ?_) (fun c19 => ?_)
    · exfalso; rw [inB_nI (by omega) (by omega)] at c19; cases c19
    · refine lv_iload hx hb d_Top_submit_22 (lv_at hl 4 rfl) ?_
      refine N_if_ge_N hx hb (by omega) (tgt := 29) d_Top_submit_24 (by decide) (fun c24 => ?_) (fun c24 => ?_)
      · refine lv_aload_n hx hb d_Top_submit_29 rfl (lv_at hl 0 rfl) ?_
        refine R_get X hW i_Top rfl 1 (by decide) kf_Top_19 0 rfl rfl d_Top_submit_30 ?_
        refine R_get X hW i_Persons rfl 0 (by decide) kf_Top_84 11 rfl rfl d_Top_submit_33 ?_
        refine lv_iload_n hx hb d_Top_submit_36 rfl (lv_at hl 1 rfl) ?_
        refine R_iald X hW (t0 := 0) rfl 12 rfl (k := x) (by omega) (by decide) d_Top_submit_37 ?_
        refine lv_istore (lv' := [(6, .int (oI (stt x))), (0, .ref (h 0)), (1, .int (nI x)), (2, .int (nI y)), (3, .int (nI t)), (4, .int (nI w)), (5, .int (bI b))]) hx hb d_Top_submit_38 hl (by decide) rfl (fun ls hl => ?_)
        refine lv_iload hx hb d_Top_submit_40 (lv_at hl 0 rfl) ?_
        refine lv_iconst (v := (-1)) hx hb d_Top_submit_42 (by decide +kernel) ?_
        refine N_icmp_eq_Om hx hb (fun n hn => by have := z12 x n (by omega) hn; omega) (tgt := 58) d_Top_submit_43 (by decide) (fun c43 => ?_) (fun c43 => ?_)
        · exfalso; rw [hs0] at c43; cases c43
        · refine lv_iload_n hx hb d_Top_submit_46 rfl (lv_at hl 4 rfl) ?_
          refine lv_iload hx hb d_Top_submit_47 (lv_at hl 0 rfl) ?_
          refine W.eq (g2 := F0 m 49 ls (.int (nI s0) :: .int (nI t) :: [])) (by rw [hs0]; first | done | rfl) ?_
          refine N_icmp_lt_NN hx hb (by omega) (by omega) (tgt := 58) d_Top_submit_49 (by decide) (fun c49 => ?_) (fun c49 => ?_)
          · exfalso; omega
          · refine lv_iload_n hx hb d_Top_submit_52 rfl (lv_at hl 4 rfl) ?_
            refine lv_ldc hx hb X.1.2.2.2.1 (X.1.2.2.2.2 _ kc_Top_79) d_Top_submit_53 ?_
            refine W.eq (g2 := F0 m 55 ls (.int (nI 1000000) :: .int (nI t) :: [])) rfl ?_
            refine N_icmp_le_NN hx hb (by omega) (by decide) (tgt := 60) d_Top_submit_55 (by decide) (fun c55 => ?_) (fun c55 => ?_)
            · refine lv_aload_n hx hb d_Top_submit_60 rfl (lv_at hl 1 rfl) ?_
              refine R_get X hW i_Top rfl 2 (by decide) kf_Top_26 0 rfl rfl d_Top_submit_61 ?_
              refine lv_iload_n hx hb d_Top_submit_64 rfl (lv_at hl 2 rfl) ?_
              refine lv_iload_n hx hb d_Top_submit_65 rfl (lv_at hl 3 rfl) ?_
              refine lv_iload_n hx hb d_Top_submit_66 rfl (lv_at hl 4 rfl) ?_
              refine lv_iload hx hb d_Top_submit_67 (lv_at hl 5 rfl) ?_
              refine lv_iload hx hb d_Top_submit_69 (lv_at hl 6 rfl) ?_
              refine R_callV (q0 := 16) (c_Submissions_add_full l G cI cZ cJ h ns sp sq sec rt it ans x y t w b hns) X rfl hW cw_Top_88 ki_Submissions_add ks_Submissions_add rfl rfl ⟨rfl, rfl⟩ ⟨by decide, by decide⟩ ⟨Nat.zero_le _, Nat.zero_le _⟩ [false, false, false, false, false, false, false, false, false, false, false, false, false, false, false, false, true, true, true, true, true, true, true, false, false, false, false, false] rfl (Nat.le_of_ble_eq_true rfl) rfl rfl hl.1 rfl rfl (Nat.le_of_ble_eq_true rfl) d_Top_submit_71 rfl (fun H locs hW => ?_)
              have hW : Wr G A s.heap (w_All h cI cZ cJ wr se ga tw np tot gr fa re ss sc ne stt sco tim cnt ns sp sq sec rt it ans tl un nw td) H locs := hW
              exact R_iret X Y hW rfl rfl d_Top_submit_74
            · exfalso; omega
      · exfalso; omega

theorem kb_Puzzles_setOf : Cond.code y_Puzzles_setOf b_Puzzles_setOf 6 (some .int) ∈ TBL := TBL_t (List.mem_append_right _ (List.mem_append_left _ (List.mem_of_getElem? (i := 238) rfl))) rfl
theorem km_Top_153 : Cond.methodLink "ContestRows" 153 y_Puzzles_setOf ∈ TBL := TBL_t (List.mem_append_right _ (List.mem_append_left _ (List.mem_of_getElem? (i := 235) rfl))) rfl
theorem cw_Top_153 : Cw "ContestRows" 153 y_Puzzles_setOf b_Puzzles_setOf 6 (some .int) 2 := ⟨kb_Puzzles_setOf, kn_Puzzles, km_Top_153, by decide +kernel⟩
theorem ki_Puzzles_setOf : Cond.instanceMethod y_Puzzles_setOf ∈ TBL := TBL_t (List.mem_append_right _ (List.mem_append_left _ (List.mem_of_getElem? (i := 236) rfl))) rfl
theorem ks_Puzzles_setOf : Cond.selects "ContestRows$Puzzles" y_Puzzles_setOf y_Puzzles_setOf ∈ TBL := TBL_t (List.mem_append_right _ (List.mem_append_left _ (List.mem_of_getElem? (i := 237) rfl))) rfl
set_option maxHeartbeats 4000000 in
set_option maxRecDepth 100000 in
theorem c_Top_even_ok (l : Launch) (G : va_G) (cI cZ cJ : ClassId) (h : Nat → Nat) (wr : Nat → Nat) (se : Nat → Bool) (ga : Nat → Option Nat) (tw : Nat → Option Nat) (np : Nat) (tot : Nat) (gr : Nat → Nat) (fa : Nat → Nat) (re : Nat → Bool) (ss : Nat → Nat) (sc : Nat → Nat) (ne : Nat) (stt : Nat → Option Nat) (sco : Nat → Nat) (tim : Nat → Nat) (cnt : Nat → Nat) (ns : Nat) (sp : Nat → Nat) (sq : Nat → Nat) (sec : Nat → Nat) (rt : Nat → Bool) (it : Nat → Nat) (ans : Nat → Nat) (tl : Nat) (un : Nat → Nat) (nw : Nat → Nat) (td : Nat → Nat) (k : Nat) (q : Nat) (hk : 1 ≤ k ∧ k ≤ 6) (hq : q < np) (hn : np ≤ 20) (hfa : ∀ i, i < np → fa i < 20) (hgr : ∀ i, i < 20 → gr i ≤ 100) : Ct l G (tyL cI cZ cJ) y_Top_even b_Top_even 3 (some .int) (rmL 2) [.ref (h 0), .int (nI k), .int (nI q)] (w_All h cI cZ cJ wr se ga tw np tot gr fa re ss sc ne stt sco tim cnt ns sp sq sec rt it ans tl un nw td) (some (.int (oI ((setF gr fa ss sc np k q).1)))) (w_All h cI cZ cJ wr se ga tw np tot gr fa re ((setF gr fa ss sc np k q).2.1) ((setF gr fa ss sc np k q).2.2) ne stt sco tim cnt ns sp sq sec rt it ans tl un nw td) := by
  refine M_start (by decide) (Nat.le_of_ble_eq_true rfl) ?_
  intro p e s m args below meth c A Q ls X Y hW hl
  have hx := X.1.1
  have hb := X.1.2.1
  have hl : lv_has ls 3 [(0, .ref (h 0)), (1, .int (nI k)), (2, .int (nI q))] := hl
  refine lv_iload_n hx hb d_Top_even_0 rfl (lv_at hl 1 rfl) ?_
  refine lv_iconst (v := (nI 1)) hx hb d_Top_even_1 (by decide +kernel) ?_
  refine N_icmp_lt_NN hx hb (by omega) (by decide) (tgt := 22) d_Top_even_2 (by decide) (fun c2 => ?_) (fun c2 => ?_)
  · exfalso; omega
  · refine lv_iload_n hx hb d_Top_even_5 rfl (lv_at hl 1 rfl) ?_
    refine lv_bipush (v := (nI 6)) hx hb d_Top_even_6 (by decide +kernel) ?_
    refine N_icmp_gt_NN hx hb (by omega) (by decide) (tgt := 22) d_Top_even_8 (by decide) (fun c8 => ?_) (fun c8 => ?_)
    · exfalso; omega
    · refine lv_aload_n hx hb d_Top_even_11 rfl (lv_at hl 0 rfl) ?_
      refine R_get X hW i_Top rfl 0 (by decide) kf_Top_10 0 rfl rfl d_Top_even_12 ?_
      refine lv_iload_n hx hb d_Top_even_15 rfl (lv_at hl 2 rfl) ?_
      refine R_callV (q0 := 5) (c_Puzzles_has l G cI cZ cJ h np tot gr fa re ss sc (nI q) (by omega)) X rfl hW cw_Top_87 ki_Puzzles_has ks_Puzzles_has rfl rfl ⟨rfl, rfl⟩ ⟨by decide, by decide⟩ ⟨Nat.zero_le _, Nat.zero_le _⟩ [false, false, false, false, false, true, true, true, true, true, true, false, false, false, false, false, false, false, false, false, false, false, false, false, false, false, false, false] rfl (Nat.le_of_ble_eq_true rfl) rfl rfl hl.1 rfl rfl (Nat.le_of_ble_eq_true rfl) d_Top_even_16 rfl (fun H locs hW => ?_)
      have hW : Wr G A s.heap (w_All h cI cZ cJ wr se ga tw np tot gr fa re ss sc ne stt sco tim cnt ns sp sq sec rt it ans tl un nw td) H locs := hW
      refine N_if_ne_B hx hb  (tgt := 24) d_Top_even_19 (by decide) (fun c19 => ?_) (fun c19 => ?_)
      · refine lv_aload_n hx hb d_Top_even_24 rfl (lv_at hl 0 rfl) ?_
        refine R_get X hW i_Top rfl 0 (by decide) kf_Top_10 0 rfl rfl d_Top_even_25 ?_
        refine lv_iload_n hx hb d_Top_even_28 rfl (lv_at hl 2 rfl) ?_
        refine lv_iload_n hx hb d_Top_even_29 rfl (lv_at hl 1 rfl) ?_
        refine R_callV (q0 := 5) (c_Puzzles_setOf l G cI cZ cJ h np tot gr fa re ss sc q k hk hn (by omega) hfa hgr) X rfl hW cw_Top_153 ki_Puzzles_setOf ks_Puzzles_setOf rfl rfl ⟨rfl, rfl⟩ ⟨by decide, by decide⟩ ⟨Nat.zero_le _, Nat.zero_le _⟩ [false, false, false, false, false, true, true, true, true, true, true, false, false, false, false, false, false, false, false, false, false, false, false, false, false, false, false, false] rfl (Nat.le_of_ble_eq_true rfl) rfl rfl hl.1 rfl rfl (Nat.le_of_ble_eq_true rfl) d_Top_even_30 rfl (fun H locs hW => ?_)
        have hW : Wr G A s.heap (w_All h cI cZ cJ wr se ga tw np tot gr fa re ((setF gr fa ss sc np k q).2.1) ((setF gr fa ss sc np k q).2.2) ne stt sco tim cnt ns sp sq sec rt it ans tl un nw td) H locs := hW
        exact R_iret X Y hW rfl rfl d_Top_even_33
      · exfalso; rw [inB_nI (by omega) (by omega)] at c19; cases c19
end
section
set_option maxHeartbeats 4000000 in
set_option maxRecDepth 100000 in
theorem c_Top_points_bad (l : Launch) (G : va_G) (cI cZ cJ : ClassId) (h : Nat → Nat) (wr : Nat → Nat) (se : Nat → Bool) (ga : Nat → Option Nat) (tw : Nat → Option Nat) (np : Nat) (tot : Nat) (gr : Nat → Nat) (fa : Nat → Nat) (re : Nat → Bool) (ss : Nat → Nat) (sc : Nat → Nat) (ne : Nat) (stt : Nat → Option Nat) (sco : Nat → Nat) (tim : Nat → Nat) (cnt : Nat → Nat) (ns : Nat) (sp : Nat → Nat) (sq : Nat → Nat) (sec : Nat → Nat) (rt : Nat → Bool) (it : Nat → Nat) (ans : Nat → Nat) (tl : Nat) (un : Nat → Nat) (nw : Nat → Nat) (td : Nat → Nat) (x : Int32) (y : Int32) (hbad : ¬ (inB x ne = true ∧ inB y np = true)) (hn : ne ≤ 20 ∧ np ≤ 20) : Ct l G (tyL cI cZ cJ) y_Top_points b_Top_points 3 (some .long) (rmL 1) [.ref (h 0), .int x, .int y] (w_All h cI cZ cJ wr se ga tw np tot gr fa re ss sc ne stt sco tim cnt ns sp sq sec rt it ans tl un nw td) (some (.long (oL none))) (w_All h cI cZ cJ wr se ga tw np tot gr fa re ss sc ne stt sco tim cnt ns sp sq sec rt it ans tl un nw td) := by
  refine M_start (by decide) (Nat.le_of_ble_eq_true rfl) ?_
  intro p e s m args below meth c A Q ls X Y hW hl
  have hx := X.1.1
  have hb := X.1.2.1
  have hl : lv_has ls 3 [(0, .ref (h 0)), (1, .int x), (2, .int y)] := hl
  refine lv_aload_n hx hb d_Top_points_0 rfl (lv_at hl 0 rfl) ?_
  refine R_get X hW i_Top rfl 1 (by decide) kf_Top_19 0 rfl rfl d_Top_points_1 ?_
  refine lv_iload_n hx hb d_Top_points_4 rfl (lv_at hl 1 rfl) ?_
  refine R_callV (q0 := 11) (c_Persons_has l G cI cZ cJ h ne stt sco tim cnt x (by omega)) X rfl hW cw_Top_76 ki_Persons_has ks_Persons_has rfl rfl ⟨rfl, rfl⟩ ⟨by decide, by decide⟩ ⟨Nat.zero_le _, Nat.zero_le _⟩ [false, false, false, false, false, false, false, false, false, false, false, true, true, true, true, true, false, false, false, false, false, false, false, false, false, false, false, false] rfl (Nat.le_of_ble_eq_true rfl) rfl rfl hl.1 rfl rfl (Nat.le_of_ble_eq_true rfl) d_Top_points_5 rfl (fun H locs hW => ?_)
  have hW : Wr G A s.heap (w_All h cI cZ cJ wr se ga tw np tot gr fa re ss sc ne stt sco tim cnt ns sp sq sec rt it ans tl un nw td) H locs := hW
  refine N_if_eq_B hx hb  (tgt := 22) d_Top_points_8 (by decide) (fun c8 => ?_) (fun c8 => ?_)
  · refine lv_ldc2 hx hb X.1.2.2.2.1 (X.1.2.2.2.2 _ kl_Top_101) d_Top_points_22 ?_
    exact R_lret X Y hW rfl rfl d_Top_points_25
  · refine lv_aload_n hx hb d_Top_points_11 rfl (lv_at hl 0 rfl) ?_
    refine R_get X hW i_Top rfl 0 (by decide) kf_Top_10 0 rfl rfl d_Top_points_12 ?_
    refine lv_iload_n hx hb d_Top_points_15 rfl (lv_at hl 2 rfl) ?_
    refine R_callV (q0 := 5) (c_Puzzles_has l G cI cZ cJ h np tot gr fa re ss sc y (by omega)) X rfl hW cw_Top_87 ki_Puzzles_has ks_Puzzles_has rfl rfl ⟨rfl, rfl⟩ ⟨by decide, by decide⟩ ⟨Nat.zero_le _, Nat.zero_le _⟩ [false, false, false, false, false, true, true, true, true, true, true, false, false, false, false, false, false, false, false, false, false, false, false, false, false, false, false, false] rfl (Nat.le_of_ble_eq_true rfl) rfl rfl hl.1 rfl rfl (Nat.le_of_ble_eq_true rfl) d_Top_points_16 rfl (fun H locs hW => ?_)
    have hW : Wr G A s.heap (w_All h cI cZ cJ wr se ga tw np tot gr fa re ss sc ne stt sco tim cnt ns sp sq sec rt it ans tl un nw td) H locs := hW
    refine N_if_ne_B hx hb  (tgt := 26) d_Top_points_19 (by decide) (fun c19 => ?_) (fun c19 => ?_)
    · exact absurd ⟨c8, c19⟩ hbad
    · refine lv_ldc2 hx hb X.1.2.2.2.1 (X.1.2.2.2.2 _ kl_Top_101) d_Top_points_22 ?_
      exact R_lret X Y hW rfl rfl d_Top_points_25

set_option maxHeartbeats 4000000 in
set_option maxRecDepth 100000 in
theorem c_Top_score_bad (l : Launch) (G : va_G) (cI cZ cJ : ClassId) (h : Nat → Nat) (wr : Nat → Nat) (se : Nat → Bool) (ga : Nat → Option Nat) (tw : Nat → Option Nat) (np : Nat) (tot : Nat) (gr : Nat → Nat) (fa : Nat → Nat) (re : Nat → Bool) (ss : Nat → Nat) (sc : Nat → Nat) (ne : Nat) (stt : Nat → Option Nat) (sco : Nat → Nat) (tim : Nat → Nat) (cnt : Nat → Nat) (ns : Nat) (sp : Nat → Nat) (sq : Nat → Nat) (sec : Nat → Nat) (rt : Nat → Bool) (it : Nat → Nat) (ans : Nat → Nat) (tl : Nat) (un : Nat → Nat) (nw : Nat → Nat) (td : Nat → Nat) (x : Int32) (w : Int32) (hbad : ¬ (inB x ne = true ∧ 0 ≤ w.toInt ∧ w.toInt ≤ 3)) (hn : ne ≤ 20) : Ct l G (tyL cI cZ cJ) y_Top_score b_Top_score 3 (some .long) (rmL 1) [.ref (h 0), .int x, .int w] (w_All h cI cZ cJ wr se ga tw np tot gr fa re ss sc ne stt sco tim cnt ns sp sq sec rt it ans tl un nw td) (some (.long (oL none))) (w_All h cI cZ cJ wr se ga tw np tot gr fa re ss sc ne stt sco tim cnt ns sp sq sec rt it ans tl un nw td) := by
  refine M_start (by decide) (Nat.le_of_ble_eq_true rfl) ?_
  intro p e s m args below meth c A Q ls X Y hW hl
  have hx := X.1.1
  have hb := X.1.2.1
  have hl : lv_has ls 3 [(0, .ref (h 0)), (1, .int x), (2, .int w)] := hl
  refine lv_aload_n hx hb d_Top_score_0 rfl (lv_at hl 0 rfl) ?_
  refine R_get X hW i_Top rfl 1 (by decide) kf_Top_19 0 rfl rfl d_Top_score_1 ?_
  refine lv_iload_n hx hb d_Top_score_4 rfl (lv_at hl 1 rfl) ?_
  refine R_callV (q0 := 11) (c_Persons_has l G cI cZ cJ h ne stt sco tim cnt x (by omega)) X rfl hW cw_Top_76 ki_Persons_has ks_Persons_has rfl rfl ⟨rfl, rfl⟩ ⟨by decide, by decide⟩ ⟨Nat.zero_le _, Nat.zero_le _⟩ [false, false, false, false, false, false, false, false, false, false, false, true, true, true, true, true, false, false, false, false, false, false, false, false, false, false, false, false] rfl (Nat.le_of_ble_eq_true rfl) rfl rfl hl.1 rfl rfl (Nat.le_of_ble_eq_true rfl) d_Top_score_5 rfl (fun H locs hW => ?_)
  have hW : Wr G A s.heap (w_All h cI cZ cJ wr se ga tw np tot gr fa re ss sc ne stt sco tim cnt ns sp sq sec rt it ans tl un nw td) H locs := hW
  refine N_if_eq_B hx hb  (tgt := 20) d_Top_score_8 (by decide) (fun c8 => ?_) (fun c8 => ?_)
  · refine lv_ldc2 hx hb X.1.2.2.2.1 (X.1.2.2.2.2 _ kl_Top_101) d_Top_score_20 ?_
    exact R_lret X Y hW rfl rfl d_Top_score_23
  · refine lv_iload_n hx hb d_Top_score_11 rfl (lv_at hl 2 rfl) ?_
    refine N_if_lt_R hx hb  (tgt := 20) d_Top_score_12 (by decide) (fun c12 => ?_) (fun c12 => ?_)
    · refine lv_ldc2 hx hb X.1.2.2.2.1 (X.1.2.2.2.2 _ kl_Top_101) d_Top_score_20 ?_
      exact R_lret X Y hW rfl rfl d_Top_score_23
    · refine lv_iload_n hx hb d_Top_score_15 rfl (lv_at hl 2 rfl) ?_
      refine lv_iconst (v := (nI 3)) hx hb d_Top_score_16 (by decide +kernel) ?_
      refine N_icmp_le_RN hx hb (by decide) (tgt := 24) d_Top_score_17 (by decide) (fun c17 => ?_) (fun c17 => ?_)
      · exact absurd ⟨c8, by omega, by omega⟩ hbad
      · refine lv_ldc2 hx hb X.1.2.2.2.1 (X.1.2.2.2.2 _ kl_Top_101) d_Top_score_20 ?_
        exact R_lret X Y hW rfl rfl d_Top_score_23

set_option maxHeartbeats 4000000 in
set_option maxRecDepth 100000 in
theorem c_Top_place_bad (l : Launch) (G : va_G) (cI cZ cJ : ClassId) (h : Nat → Nat) (wr : Nat → Nat) (se : Nat → Bool) (ga : Nat → Option Nat) (tw : Nat → Option Nat) (np : Nat) (tot : Nat) (gr : Nat → Nat) (fa : Nat → Nat) (re : Nat → Bool) (ss : Nat → Nat) (sc : Nat → Nat) (ne : Nat) (stt : Nat → Option Nat) (sco : Nat → Nat) (tim : Nat → Nat) (cnt : Nat → Nat) (ns : Nat) (sp : Nat → Nat) (sq : Nat → Nat) (sec : Nat → Nat) (rt : Nat → Bool) (it : Nat → Nat) (ans : Nat → Nat) (tl : Nat) (un : Nat → Nat) (nw : Nat → Nat) (td : Nat → Nat) (x : Int32) (hbad : inB x ne = false) (hn : ne ≤ 20) : Ct l G (tyL cI cZ cJ) y_Top_place b_Top_place 2 (some .int) (rmL 1) [.ref (h 0), .int x] (w_All h cI cZ cJ wr se ga tw np tot gr fa re ss sc ne stt sco tim cnt ns sp sq sec rt it ans tl un nw td) (some (.int (-1))) (w_All h cI cZ cJ wr se ga tw np tot gr fa re ss sc ne stt sco tim cnt ns sp sq sec rt it ans tl un nw td) := by
  refine M_start (by decide) (Nat.le_of_ble_eq_true rfl) ?_
  intro p e s m args below meth c A Q ls X Y hW hl
  have hx := X.1.1
  have hb := X.1.2.1
  have hl : lv_has ls 2 [(0, .ref (h 0)), (1, .int x)] := hl
  refine lv_aload_n hx hb d_Top_place_0 rfl (lv_at hl 0 rfl) ?_
  refine R_get X hW i_Top rfl 1 (by decide) kf_Top_19 0 rfl rfl d_Top_place_1 ?_
  refine lv_iload_n hx hb d_Top_place_4 rfl (lv_at hl 1 rfl) ?_
  refine R_callV (q0 := 11) (c_Persons_has l G cI cZ cJ h ne stt sco tim cnt x (by omega)) X rfl hW cw_Top_76 ki_Persons_has ks_Persons_has rfl rfl ⟨rfl, rfl⟩ ⟨by decide, by decide⟩ ⟨Nat.zero_le _, Nat.zero_le _⟩ [false, false, false, false, false, false, false, false, false, false, false, true, true, true, true, true, false, false, false, false, false, false, false, false, false, false, false, false] rfl (Nat.le_of_ble_eq_true rfl) rfl rfl hl.1 rfl rfl (Nat.le_of_ble_eq_true rfl) d_Top_place_5 rfl (fun H locs hW => ?_)
  have hW : Wr G A s.heap (w_All h cI cZ cJ wr se ga tw np tot gr fa re ss sc ne stt sco tim cnt ns sp sq sec rt it ans tl un nw td) H locs := hW
  refine N_if_ne_B hx hb  (tgt := 13) d_Top_place_8 (by decide) (fun c8 => ?_) (fun c8 => ?_)
  · exfalso; rw [hbad] at c8; cases c8
  · refine lv_iconst (v := (-1)) hx hb d_Top_place_11 (by decide +kernel) ?_
    exact R_iret X Y hW rfl rfl d_Top_place_12

set_option maxHeartbeats 4000000 in
set_option maxRecDepth 100000 in
theorem c_Top_shared_bad (l : Launch) (G : va_G) (cI cZ cJ : ClassId) (h : Nat → Nat) (wr : Nat → Nat) (se : Nat → Bool) (ga : Nat → Option Nat) (tw : Nat → Option Nat) (np : Nat) (tot : Nat) (gr : Nat → Nat) (fa : Nat → Nat) (re : Nat → Bool) (ss : Nat → Nat) (sc : Nat → Nat) (ne : Nat) (stt : Nat → Option Nat) (sco : Nat → Nat) (tim : Nat → Nat) (cnt : Nat → Nat) (ns : Nat) (sp : Nat → Nat) (sq : Nat → Nat) (sec : Nat → Nat) (rt : Nat → Bool) (it : Nat → Nat) (ans : Nat → Nat) (tl : Nat) (un : Nat → Nat) (nw : Nat → Nat) (td : Nat → Nat) (x : Int32) (y : Int32) (hbad : ¬ (inB x ne = true ∧ inB y ne = true)) (hn : ne ≤ 20) : Ct l G (tyL cI cZ cJ) y_Top_shared b_Top_shared 3 (some .boolean) (rmL 1) [.ref (h 0), .int x, .int y] (w_All h cI cZ cJ wr se ga tw np tot gr fa re ss sc ne stt sco tim cnt ns sp sq sec rt it ans tl un nw td) (some (.int (bI false))) (w_All h cI cZ cJ wr se ga tw np tot gr fa re ss sc ne stt sco tim cnt ns sp sq sec rt it ans tl un nw td) := by
  refine M_start (by decide) (Nat.le_of_ble_eq_true rfl) ?_
  intro p e s m args below meth c A Q ls X Y hW hl
  have hx := X.1.1
  have hb := X.1.2.1
  have hl : lv_has ls 3 [(0, .ref (h 0)), (1, .int x), (2, .int y)] := hl
  refine lv_aload_n hx hb d_Top_shared_0 rfl (lv_at hl 0 rfl) ?_
  refine R_get X hW i_Top rfl 1 (by decide) kf_Top_19 0 rfl rfl d_Top_shared_1 ?_
  refine lv_iload_n hx hb d_Top_shared_4 rfl (lv_at hl 1 rfl) ?_
  refine R_callV (q0 := 11) (c_Persons_has l G cI cZ cJ h ne stt sco tim cnt x (by omega)) X rfl hW cw_Top_76 ki_Persons_has ks_Persons_has rfl rfl ⟨rfl, rfl⟩ ⟨by decide, by decide⟩ ⟨Nat.zero_le _, Nat.zero_le _⟩ [false, false, false, false, false, false, false, false, false, false, false, true, true, true, true, true, false, false, false, false, false, false, false, false, false, false, false, false] rfl (Nat.le_of_ble_eq_true rfl) rfl rfl hl.1 rfl rfl (Nat.le_of_ble_eq_true rfl) d_Top_shared_5 rfl (fun H locs hW => ?_)
  have hW : Wr G A s.heap (w_All h cI cZ cJ wr se ga tw np tot gr fa re ss sc ne stt sco tim cnt ns sp sq sec rt it ans tl un nw td) H locs := hW
  refine N_if_eq_B hx hb  (tgt := 22) d_Top_shared_8 (by decide) (fun c8 => ?_) (fun c8 => ?_)
  · refine lv_iconst (v := (nI 0)) hx hb d_Top_shared_22 (by decide +kernel) ?_
    exact R_zret X Y hW rfl false (by decide +kernel) rfl d_Top_shared_23
  · refine lv_aload_n hx hb d_Top_shared_11 rfl (lv_at hl 0 rfl) ?_
    refine R_get X hW i_Top rfl 1 (by decide) kf_Top_19 0 rfl rfl d_Top_shared_12 ?_
    refine lv_iload_n hx hb d_Top_shared_15 rfl (lv_at hl 2 rfl) ?_
    refine R_callV (q0 := 11) (c_Persons_has l G cI cZ cJ h ne stt sco tim cnt y (by omega)) X rfl hW cw_Top_76 ki_Persons_has ks_Persons_has rfl rfl ⟨rfl, rfl⟩ ⟨by decide, by decide⟩ ⟨Nat.zero_le _, Nat.zero_le _⟩ [false, false, false, false, false, false, false, false, false, false, false, true, true, true, true, true, false, false, false, false, false, false, false, false, false, false, false, false] rfl (Nat.le_of_ble_eq_true rfl) rfl rfl hl.1 rfl rfl (Nat.le_of_ble_eq_true rfl) d_Top_shared_16 rfl (fun H locs hW => ?_)
    have hW : Wr G A s.heap (w_All h cI cZ cJ wr se ga tw np tot gr fa re ss sc ne stt sco tim cnt ns sp sq sec rt it ans tl un nw td) H locs := hW
    refine N_if_ne_B hx hb  (tgt := 24) d_Top_shared_19 (by decide) (fun c19 => ?_) (fun c19 => ?_)
    · exact absurd ⟨c8, c19⟩ hbad
    · refine lv_iconst (v := (nI 0)) hx hb d_Top_shared_22 (by decide +kernel) ?_
      exact R_zret X Y hW rfl false (by decide +kernel) rfl d_Top_shared_23

set_option maxHeartbeats 4000000 in
set_option maxRecDepth 100000 in
theorem c_Top_points_ok (l : Launch) (G : va_G) (cI cZ cJ : ClassId) (h : Nat → Nat) (wr : Nat → Nat) (se : Nat → Bool) (ga : Nat → Option Nat) (tw : Nat → Option Nat) (np : Nat) (tot : Nat) (gr : Nat → Nat) (fa : Nat → Nat) (re : Nat → Bool) (ss : Nat → Nat) (sc : Nat → Nat) (ne : Nat) (stt : Nat → Option Nat) (sco : Nat → Nat) (tim : Nat → Nat) (cnt : Nat → Nat) (ns : Nat) (sp : Nat → Nat) (sq : Nat → Nat) (sec : Nat → Nat) (rt : Nat → Bool) (it : Nat → Nat) (ans : Nat → Nat) (tl : Nat) (un : Nat → Nat) (nw : Nat → Nat) (td : Nat → Nat) (x : Nat) (y : Nat) (hx0 : x < ne) (hy0 : y < np) (hI : IS np ne ns gr nw sp sq sec it ans stt) : Ct l G (tyL cI cZ cJ) y_Top_points b_Top_points 3 (some .long) (rmL 4) [.ref (h 0), .int (nI x), .int (nI y)] (w_All h cI cZ cJ wr se ga tw np tot gr fa re ss sc ne stt sco tim cnt ns sp sq sec rt it ans tl un nw td) (some (.long (oL ((woF gr nw sp sq sec it rt stt ns x (wr, se, ga, sco, tim, cnt)).2.2.1 y)))) (w_All h cI cZ cJ ((woF gr nw sp sq sec it rt stt ns x (wr, se, ga, sco, tim, cnt)).1) ((woF gr nw sp sq sec it rt stt ns x (wr, se, ga, sco, tim, cnt)).2.1) ((woF gr nw sp sq sec it rt stt ns x (wr, se, ga, sco, tim, cnt)).2.2.1) tw np tot gr fa re ss sc ne stt ((woF gr nw sp sq sec it rt stt ns x (wr, se, ga, sco, tim, cnt)).2.2.2.1) ((woF gr nw sp sq sec it rt stt ns x (wr, se, ga, sco, tim, cnt)).2.2.2.2.1) ((woF gr nw sp sq sec it rt stt ns x (wr, se, ga, sco, tim, cnt)).2.2.2.2.2) ns sp sq sec rt it ans tl un nw td) := by
  refine M_start (by decide) (Nat.le_of_ble_eq_true rfl) ?_
  intro p e s m args below meth c A Q ls X Y hW hl
  have hx := X.1.1
  have hb := X.1.2.1
  have hl : lv_has ls 3 [(0, .ref (h 0)), (1, .int (nI x)), (2, .int (nI y))] := hl
  obtain ⟨z1, z2, z3, z4, z5, z6, z7, z8, z9, z10, z11, z12, z13⟩ := id hI
  refine lv_aload_n hx hb d_Top_points_0 rfl (lv_at hl 0 rfl) ?_
  refine R_get X hW i_Top rfl 1 (by decide) kf_Top_19 0 rfl rfl d_Top_points_1 ?_
  refine lv_iload_n hx hb d_Top_points_4 rfl (lv_at hl 1 rfl) ?_
  refine R_callV (q0 := 11) (c_Persons_has l G cI cZ cJ h ne stt sco tim cnt (nI x) (by omega)) X rfl hW cw_Top_76 ki_Persons_has ks_Persons_has rfl rfl ⟨rfl, rfl⟩ ⟨by decide, by decide⟩ ⟨Nat.zero_le _, Nat.zero_le _⟩ [false, false, false, false, false, false, false, false, false, false, false, true, true, true, true, true, false, false, false, false, false, false, false, false, false, false, false, false] rfl (Nat.le_of_ble_eq_true rfl) rfl rfl hl.1 rfl rfl (Nat.le_of_ble_eq_true rfl) d_Top_points_5 rfl (fun H locs hW => ?_)
  have hW : Wr G A s.heap (w_All h cI cZ cJ wr se ga tw np tot gr fa re ss sc ne stt sco tim cnt ns sp sq sec rt it ans tl un nw td) H locs := hW
  refine N_if_eq_B hx hb  (tgt := 22) d_Top_points_8 (by decide) (fun c8 => ?_) (fun c8 => ?_)
  · exfalso; rw [inB_nI (by omega) (by omega)] at c8; cases c8
  · refine lv_aload_n hx hb d_Top_points_11 rfl (lv_at hl 0 rfl) ?_
    refine R_get X hW i_Top rfl 0 (by decide) kf_Top_10 0 rfl rfl d_Top_points_12 ?_
    refine lv_iload_n hx hb d_Top_points_15 rfl (lv_at hl 2 rfl) ?_
    refine R_callV (q0 := 5) (c_Puzzles_has l G cI cZ cJ h np tot gr fa re ss sc (nI y) (by omega)) X rfl hW cw_Top_87 ki_Puzzles_has ks_Puzzles_has rfl rfl ⟨rfl, rfl⟩ ⟨by decide, by decide⟩ ⟨Nat.zero_le _, Nat.zero_le _⟩ [false, false, false, false, false, true, true, true, true, true, true, false, false, false, false, false, false, false, false, false, false, false, false, false, false, false, false, false] rfl (Nat.le_of_ble_eq_true rfl) rfl rfl hl.1 rfl rfl (Nat.le_of_ble_eq_true rfl) d_Top_points_16 rfl (fun H locs hW => ?_)
    have hW : Wr G A s.heap (w_All h cI cZ cJ wr se ga tw np tot gr fa re ss sc ne stt sco tim cnt ns sp sq sec rt it ans tl un nw td) H locs := hW
    refine N_if_ne_B hx hb  (tgt := 26) d_Top_points_19 (by decide) (fun c19 => ?_) (fun c19 => ?_)
    · refine lv_aload_n hx hb d_Top_points_26 rfl (lv_at hl 0 rfl) ?_
      refine lv_iload_n hx hb d_Top_points_27 rfl (lv_at hl 1 rfl) ?_
      refine R_callV (q0 := 0) (c_Top_workOut l G cI cZ cJ h wr se ga tw np tot gr fa re ss sc ne stt sco tim cnt ns sp sq sec rt it ans tl un nw td x (by omega) hI) X rfl hW cw_Top_114 ki_Top_workOut ks_Top_workOut rfl rfl ⟨rfl, rfl⟩ ⟨by decide, by decide⟩ ⟨Nat.zero_le _, Nat.zero_le _⟩ [true, true, true, true, true, true, true, true, true, true, true, true, true, true, true, true, true, true, true, true, true, true, true, true, true, true, true, true] rfl (Nat.le_of_ble_eq_true rfl) rfl rfl hl.1 rfl rfl (Nat.le_of_ble_eq_true rfl) d_Top_points_28 rfl (fun H locs hW => ?_)
      have hW : Wr G A s.heap (w_All h cI cZ cJ ((woF gr nw sp sq sec it rt stt ns x (wr, se, ga, sco, tim, cnt)).1) ((woF gr nw sp sq sec it rt stt ns x (wr, se, ga, sco, tim, cnt)).2.1) ((woF gr nw sp sq sec it rt stt ns x (wr, se, ga, sco, tim, cnt)).2.2.1) tw np tot gr fa re ss sc ne stt ((woF gr nw sp sq sec it rt stt ns x (wr, se, ga, sco, tim, cnt)).2.2.2.1) ((woF gr nw sp sq sec it rt stt ns x (wr, se, ga, sco, tim, cnt)).2.2.2.2.1) ((woF gr nw sp sq sec it rt stt ns x (wr, se, ga, sco, tim, cnt)).2.2.2.2.2) ns sp sq sec rt it ans tl un nw td) H locs := hW
      refine lv_aload_n hx hb d_Top_points_31 rfl (lv_at hl 0 rfl) ?_
      refine R_get X hW i_Top rfl 7 (by decide) kf_Top_52 0 rfl rfl d_Top_points_32 ?_
      refine lv_iload_n hx hb d_Top_points_35 rfl (lv_at hl 2 rfl) ?_
      refine R_lald X hW (t0 := 2) rfl 3 rfl (k := y) (by omega) (by decide) d_Top_points_36 ?_
      exact R_lret X Y hW rfl rfl d_Top_points_37
    · exfalso; rw [inB_nI (by omega) (by omega)] at c19; cases c19

theorem kf_Top_118 : Cond.fieldLink "ContestRows" 118 "ContestRows$Persons" "scores" "[J" ∈ TBL := TBL_t (List.mem_append_left _ (List.mem_of_getElem? (i := 63) rfl)) rfl
set_option maxHeartbeats 4000000 in
set_option maxRecDepth 100000 in
theorem c_Top_score_0 (l : Launch) (G : va_G) (cI cZ cJ : ClassId) (h : Nat → Nat) (wr : Nat → Nat) (se : Nat → Bool) (ga : Nat → Option Nat) (tw : Nat → Option Nat) (np : Nat) (tot : Nat) (gr : Nat → Nat) (fa : Nat → Nat) (re : Nat → Bool) (ss : Nat → Nat) (sc : Nat → Nat) (ne : Nat) (stt : Nat → Option Nat) (sco : Nat → Nat) (tim : Nat → Nat) (cnt : Nat → Nat) (ns : Nat) (sp : Nat → Nat) (sq : Nat → Nat) (sec : Nat → Nat) (rt : Nat → Bool) (it : Nat → Nat) (ans : Nat → Nat) (tl : Nat) (un : Nat → Nat) (nw : Nat → Nat) (td : Nat → Nat) (x : Nat) (w : Nat) (hx0 : x < ne) (hw0 : w = 0) (hI : IS np ne ns gr nw sp sq sec it ans stt) : Ct l G (tyL cI cZ cJ) y_Top_score b_Top_score 3 (some .long) (rmL 4) [.ref (h 0), .int (nI x), .int (nI w)] (w_All h cI cZ cJ wr se ga tw np tot gr fa re ss sc ne stt sco tim cnt ns sp sq sec rt it ans tl un nw td) (some (.long (lN ((woF gr nw sp sq sec it rt stt ns x (wr, se, ga, sco, tim, cnt)).2.2.2.1 x)))) (w_All h cI cZ cJ ((woF gr nw sp sq sec it rt stt ns x (wr, se, ga, sco, tim, cnt)).1) ((woF gr nw sp sq sec it rt stt ns x (wr, se, ga, sco, tim, cnt)).2.1) ((woF gr nw sp sq sec it rt stt ns x (wr, se, ga, sco, tim, cnt)).2.2.1) tw np tot gr fa re ss sc ne stt ((woF gr nw sp sq sec it rt stt ns x (wr, se, ga, sco, tim, cnt)).2.2.2.1) ((woF gr nw sp sq sec it rt stt ns x (wr, se, ga, sco, tim, cnt)).2.2.2.2.1) ((woF gr nw sp sq sec it rt stt ns x (wr, se, ga, sco, tim, cnt)).2.2.2.2.2) ns sp sq sec rt it ans tl un nw td) := by
  refine M_start (by decide) (Nat.le_of_ble_eq_true rfl) ?_
  intro p e s m args below meth c A Q ls X Y hW hl
  have hx := X.1.1
  have hb := X.1.2.1
  have hl : lv_has ls 3 [(0, .ref (h 0)), (1, .int (nI x)), (2, .int (nI w))] := hl
  obtain ⟨z1, z2, z3, z4, z5, z6, z7, z8, z9, z10, z11, z12, z13⟩ := id hI
  refine lv_aload_n hx hb d_Top_score_0 rfl (lv_at hl 0 rfl) ?_
  refine R_get X hW i_Top rfl 1 (by decide) kf_Top_19 0 rfl rfl d_Top_score_1 ?_
  refine lv_iload_n hx hb d_Top_score_4 rfl (lv_at hl 1 rfl) ?_
  refine R_callV (q0 := 11) (c_Persons_has l G cI cZ cJ h ne stt sco tim cnt (nI x) (by omega)) X rfl hW cw_Top_76 ki_Persons_has ks_Persons_has rfl rfl ⟨rfl, rfl⟩ ⟨by decide, by decide⟩ ⟨Nat.zero_le _, Nat.zero_le _⟩ [false, false, false, false, false, false, false, false, false, false, false, true, true, true, true, true, false, false, false, false, false, false, false, false, false, false, false, false] rfl (Nat.le_of_ble_eq_true rfl) rfl rfl hl.1 rfl rfl (Nat.le_of_ble_eq_true rfl) d_Top_score_5 rfl (fun H locs hW => ?_)
  have hW : Wr G A s.heap (w_All h cI cZ cJ wr se ga tw np tot gr fa re ss sc ne stt sco tim cnt ns sp sq sec rt it ans tl un nw td) H locs := hW
  refine N_if_eq_B hx hb  (tgt := 20) d_Top_score_8 (by decide) (fun c8 => ?_) (fun c8 => ?_)
  · exfalso; rw [inB_nI (by omega) (by omega)] at c8; cases c8
  · refine lv_iload_n hx hb d_Top_score_11 rfl (lv_at hl 2 rfl) ?_
    refine N_if_lt_N hx hb (by omega) (tgt := 20) d_Top_score_12 (by decide) (fun c12 => ?_) (fun c12 => ?_)
    · exfalso; omega
    · refine lv_iload_n hx hb d_Top_score_15 rfl (lv_at hl 2 rfl) ?_
      refine lv_iconst (v := (nI 3)) hx hb d_Top_score_16 (by decide +kernel) ?_
      refine N_icmp_le_NN hx hb (by omega) (by decide) (tgt := 24) d_Top_score_17 (by decide) (fun c17 => ?_) (fun c17 => ?_)
      · refine lv_iload_n hx hb d_Top_score_24 rfl (lv_at hl 2 rfl) ?_
        refine lv_iconst (v := (nI 3)) hx hb d_Top_score_25 (by decide +kernel) ?_
        refine N_icmp_ne_NN hx hb (by omega) (by decide) (tgt := 50) d_Top_score_26 (by decide) (fun c26 => ?_) (fun c26 => ?_)
        · refine lv_aload_n hx hb d_Top_score_50 rfl (lv_at hl 0 rfl) ?_
          refine lv_iload_n hx hb d_Top_score_51 rfl (lv_at hl 1 rfl) ?_
          refine R_callV (q0 := 0) (c_Top_workOut l G cI cZ cJ h wr se ga tw np tot gr fa re ss sc ne stt sco tim cnt ns sp sq sec rt it ans tl un nw td x (by omega) hI) X rfl hW cw_Top_114 ki_Top_workOut ks_Top_workOut rfl rfl ⟨rfl, rfl⟩ ⟨by decide, by decide⟩ ⟨Nat.zero_le _, Nat.zero_le _⟩ [true, true, true, true, true, true, true, true, true, true, true, true, true, true, true, true, true, true, true, true, true, true, true, true, true, true, true, true] rfl (Nat.le_of_ble_eq_true rfl) rfl rfl hl.1 rfl rfl (Nat.le_of_ble_eq_true rfl) d_Top_score_52 rfl (fun H locs hW => ?_)
          have hW : Wr G A s.heap (w_All h cI cZ cJ ((woF gr nw sp sq sec it rt stt ns x (wr, se, ga, sco, tim, cnt)).1) ((woF gr nw sp sq sec it rt stt ns x (wr, se, ga, sco, tim, cnt)).2.1) ((woF gr nw sp sq sec it rt stt ns x (wr, se, ga, sco, tim, cnt)).2.2.1) tw np tot gr fa re ss sc ne stt ((woF gr nw sp sq sec it rt stt ns x (wr, se, ga, sco, tim, cnt)).2.2.2.1) ((woF gr nw sp sq sec it rt stt ns x (wr, se, ga, sco, tim, cnt)).2.2.2.2.1) ((woF gr nw sp sq sec it rt stt ns x (wr, se, ga, sco, tim, cnt)).2.2.2.2.2) ns sp sq sec rt it ans tl un nw td) H locs := hW
          refine lv_iload_n hx hb d_Top_score_55 rfl (lv_at hl 2 rfl) ?_
          refine N_if_ne_N hx hb (by omega) (tgt := 69) d_Top_score_56 (by decide) (fun c56 => ?_) (fun c56 => ?_)
          · exfalso; omega
          · refine lv_aload_n hx hb d_Top_score_59 rfl (lv_at hl 0 rfl) ?_
            refine R_get X hW i_Top rfl 1 (by decide) kf_Top_19 0 rfl rfl d_Top_score_60 ?_
            refine R_get X hW i_Persons rfl 1 (by decide) kf_Top_118 11 rfl rfl d_Top_score_63 ?_
            refine lv_iload_n hx hb d_Top_score_66 rfl (lv_at hl 1 rfl) ?_
            refine R_lald X hW (t0 := 2) rfl 13 rfl (k := x) (by omega) (by decide) d_Top_score_67 ?_
            exact R_lret X Y hW rfl rfl d_Top_score_68
        · exfalso; omega
      · exfalso; omega

theorem kf_Top_121 : Cond.fieldLink "ContestRows" 121 "ContestRows$Persons" "times" "[J" ∈ TBL := TBL_t (List.mem_append_left _ (List.mem_of_getElem? (i := 65) rfl)) rfl
set_option maxHeartbeats 4000000 in
set_option maxRecDepth 100000 in
theorem c_Top_score_1 (l : Launch) (G : va_G) (cI cZ cJ : ClassId) (h : Nat → Nat) (wr : Nat → Nat) (se : Nat → Bool) (ga : Nat → Option Nat) (tw : Nat → Option Nat) (np : Nat) (tot : Nat) (gr : Nat → Nat) (fa : Nat → Nat) (re : Nat → Bool) (ss : Nat → Nat) (sc : Nat → Nat) (ne : Nat) (stt : Nat → Option Nat) (sco : Nat → Nat) (tim : Nat → Nat) (cnt : Nat → Nat) (ns : Nat) (sp : Nat → Nat) (sq : Nat → Nat) (sec : Nat → Nat) (rt : Nat → Bool) (it : Nat → Nat) (ans : Nat → Nat) (tl : Nat) (un : Nat → Nat) (nw : Nat → Nat) (td : Nat → Nat) (x : Nat) (w : Nat) (hx0 : x < ne) (hw0 : w = 1) (hI : IS np ne ns gr nw sp sq sec it ans stt) : Ct l G (tyL cI cZ cJ) y_Top_score b_Top_score 3 (some .long) (rmL 4) [.ref (h 0), .int (nI x), .int (nI w)] (w_All h cI cZ cJ wr se ga tw np tot gr fa re ss sc ne stt sco tim cnt ns sp sq sec rt it ans tl un nw td) (some (.long (lN ((woF gr nw sp sq sec it rt stt ns x (wr, se, ga, sco, tim, cnt)).2.2.2.2.1 x)))) (w_All h cI cZ cJ ((woF gr nw sp sq sec it rt stt ns x (wr, se, ga, sco, tim, cnt)).1) ((woF gr nw sp sq sec it rt stt ns x (wr, se, ga, sco, tim, cnt)).2.1) ((woF gr nw sp sq sec it rt stt ns x (wr, se, ga, sco, tim, cnt)).2.2.1) tw np tot gr fa re ss sc ne stt ((woF gr nw sp sq sec it rt stt ns x (wr, se, ga, sco, tim, cnt)).2.2.2.1) ((woF gr nw sp sq sec it rt stt ns x (wr, se, ga, sco, tim, cnt)).2.2.2.2.1) ((woF gr nw sp sq sec it rt stt ns x (wr, se, ga, sco, tim, cnt)).2.2.2.2.2) ns sp sq sec rt it ans tl un nw td) := by
  refine M_start (by decide) (Nat.le_of_ble_eq_true rfl) ?_
  intro p e s m args below meth c A Q ls X Y hW hl
  have hx := X.1.1
  have hb := X.1.2.1
  have hl : lv_has ls 3 [(0, .ref (h 0)), (1, .int (nI x)), (2, .int (nI w))] := hl
  obtain ⟨z1, z2, z3, z4, z5, z6, z7, z8, z9, z10, z11, z12, z13⟩ := id hI
  refine lv_aload_n hx hb d_Top_score_0 rfl (lv_at hl 0 rfl) ?_
  refine R_get X hW i_Top rfl 1 (by decide) kf_Top_19 0 rfl rfl d_Top_score_1 ?_
  refine lv_iload_n hx hb d_Top_score_4 rfl (lv_at hl 1 rfl) ?_
  refine R_callV (q0 := 11) (c_Persons_has l G cI cZ cJ h ne stt sco tim cnt (nI x) (by omega)) X rfl hW cw_Top_76 ki_Persons_has ks_Persons_has rfl rfl ⟨rfl, rfl⟩ ⟨by decide, by decide⟩ ⟨Nat.zero_le _, Nat.zero_le _⟩ [false, false, false, false, false, false, false, false, false, false, false, true, true, true, true, true, false, false, false, false, false, false, false, false, false, false, false, false] rfl (Nat.le_of_ble_eq_true rfl) rfl rfl hl.1 rfl rfl (Nat.le_of_ble_eq_true rfl) d_Top_score_5 rfl (fun H locs hW => ?_)
  have hW : Wr G A s.heap (w_All h cI cZ cJ wr se ga tw np tot gr fa re ss sc ne stt sco tim cnt ns sp sq sec rt it ans tl un nw td) H locs := hW
  refine N_if_eq_B hx hb  (tgt := 20) d_Top_score_8 (by decide) (fun c8 => ?_) (fun c8 => ?_)
  · exfalso; rw [inB_nI (by omega) (by omega)] at c8; cases c8
  · refine lv_iload_n hx hb d_Top_score_11 rfl (lv_at hl 2 rfl) ?_
    refine N_if_lt_N hx hb (by omega) (tgt := 20) d_Top_score_12 (by decide) (fun c12 => ?_) (fun c12 => ?_)
    · exfalso; omega
    · refine lv_iload_n hx hb d_Top_score_15 rfl (lv_at hl 2 rfl) ?_
      refine lv_iconst (v := (nI 3)) hx hb d_Top_score_16 (by decide +kernel) ?_
      refine N_icmp_le_NN hx hb (by omega) (by decide) (tgt := 24) d_Top_score_17 (by decide) (fun c17 => ?_) (fun c17 => ?_)
      · refine lv_iload_n hx hb d_Top_score_24 rfl (lv_at hl 2 rfl) ?_
        refine lv_iconst (v := (nI 3)) hx hb d_Top_score_25 (by decide +kernel) ?_
        refine N_icmp_ne_NN hx hb (by omega) (by decide) (tgt := 50) d_Top_score_26 (by decide) (fun c26 => ?_) (fun c26 => ?_)
        · refine lv_aload_n hx hb d_Top_score_50 rfl (lv_at hl 0 rfl) ?_
          refine lv_iload_n hx hb d_Top_score_51 rfl (lv_at hl 1 rfl) ?_
          refine R_callV (q0 := 0) (c_Top_workOut l G cI cZ cJ h wr se ga tw np tot gr fa re ss sc ne stt sco tim cnt ns sp sq sec rt it ans tl un nw td x (by omega) hI) X rfl hW cw_Top_114 ki_Top_workOut ks_Top_workOut rfl rfl ⟨rfl, rfl⟩ ⟨by decide, by decide⟩ ⟨Nat.zero_le _, Nat.zero_le _⟩ [true, true, true, true, true, true, true, true, true, true, true, true, true, true, true, true, true, true, true, true, true, true, true, true, true, true, true, true] rfl (Nat.le_of_ble_eq_true rfl) rfl rfl hl.1 rfl rfl (Nat.le_of_ble_eq_true rfl) d_Top_score_52 rfl (fun H locs hW => ?_)
          have hW : Wr G A s.heap (w_All h cI cZ cJ ((woF gr nw sp sq sec it rt stt ns x (wr, se, ga, sco, tim, cnt)).1) ((woF gr nw sp sq sec it rt stt ns x (wr, se, ga, sco, tim, cnt)).2.1) ((woF gr nw sp sq sec it rt stt ns x (wr, se, ga, sco, tim, cnt)).2.2.1) tw np tot gr fa re ss sc ne stt ((woF gr nw sp sq sec it rt stt ns x (wr, se, ga, sco, tim, cnt)).2.2.2.1) ((woF gr nw sp sq sec it rt stt ns x (wr, se, ga, sco, tim, cnt)).2.2.2.2.1) ((woF gr nw sp sq sec it rt stt ns x (wr, se, ga, sco, tim, cnt)).2.2.2.2.2) ns sp sq sec rt it ans tl un nw td) H locs := hW
          refine lv_iload_n hx hb d_Top_score_55 rfl (lv_at hl 2 rfl) ?_
          refine N_if_ne_N hx hb (by omega) (tgt := 69) d_Top_score_56 (by decide) (fun c56 => ?_) (fun c56 => ?_)
          · refine lv_iload_n hx hb d_Top_score_69 rfl (lv_at hl 2 rfl) ?_
            refine lv_iconst (v := (nI 1)) hx hb d_Top_score_70 (by decide +kernel) ?_
            refine N_icmp_ne_NN hx hb (by omega) (by decide) (tgt := 86) d_Top_score_71 (by decide) (fun c71 => ?_) (fun c71 => ?_)
            · exfalso; omega
            · refine lv_aload_n hx hb d_Top_score_74 rfl (lv_at hl 0 rfl) ?_
              refine R_get X hW i_Top rfl 1 (by decide) kf_Top_19 0 rfl rfl d_Top_score_75 ?_
              refine R_get X hW i_Persons rfl 2 (by decide) kf_Top_121 11 rfl rfl d_Top_score_78 ?_
              refine lv_iload_n hx hb d_Top_score_81 rfl (lv_at hl 1 rfl) ?_
              refine R_lald X hW (t0 := 2) rfl 14 rfl (k := x) (by omega) (by decide) d_Top_score_82 ?_
              refine lv_goto (tgt := 96) hx hb d_Top_score_83 (by decide) ?_
              exact R_lret X Y hW rfl rfl d_Top_score_96
          · exfalso; omega
        · exfalso; omega
      · exfalso; omega

theorem kf_Top_124 : Cond.fieldLink "ContestRows" 124 "ContestRows$Persons" "counts" "[I" ∈ TBL := TBL_t (List.mem_append_left _ (List.mem_of_getElem? (i := 67) rfl)) rfl
set_option maxHeartbeats 4000000 in
set_option maxRecDepth 100000 in
theorem c_Top_score_2 (l : Launch) (G : va_G) (cI cZ cJ : ClassId) (h : Nat → Nat) (wr : Nat → Nat) (se : Nat → Bool) (ga : Nat → Option Nat) (tw : Nat → Option Nat) (np : Nat) (tot : Nat) (gr : Nat → Nat) (fa : Nat → Nat) (re : Nat → Bool) (ss : Nat → Nat) (sc : Nat → Nat) (ne : Nat) (stt : Nat → Option Nat) (sco : Nat → Nat) (tim : Nat → Nat) (cnt : Nat → Nat) (ns : Nat) (sp : Nat → Nat) (sq : Nat → Nat) (sec : Nat → Nat) (rt : Nat → Bool) (it : Nat → Nat) (ans : Nat → Nat) (tl : Nat) (un : Nat → Nat) (nw : Nat → Nat) (td : Nat → Nat) (x : Nat) (w : Nat) (hx0 : x < ne) (hw0 : w = 2) (hI : IS np ne ns gr nw sp sq sec it ans stt) (hc0 : (woF gr nw sp sq sec it rt stt ns x (wr, se, ga, sco, tim, cnt)).2.2.2.2.2 x < 2 ^ 31) : Ct l G (tyL cI cZ cJ) y_Top_score b_Top_score 3 (some .long) (rmL 4) [.ref (h 0), .int (nI x), .int (nI w)] (w_All h cI cZ cJ wr se ga tw np tot gr fa re ss sc ne stt sco tim cnt ns sp sq sec rt it ans tl un nw td) (some (.long (lN ((woF gr nw sp sq sec it rt stt ns x (wr, se, ga, sco, tim, cnt)).2.2.2.2.2 x)))) (w_All h cI cZ cJ ((woF gr nw sp sq sec it rt stt ns x (wr, se, ga, sco, tim, cnt)).1) ((woF gr nw sp sq sec it rt stt ns x (wr, se, ga, sco, tim, cnt)).2.1) ((woF gr nw sp sq sec it rt stt ns x (wr, se, ga, sco, tim, cnt)).2.2.1) tw np tot gr fa re ss sc ne stt ((woF gr nw sp sq sec it rt stt ns x (wr, se, ga, sco, tim, cnt)).2.2.2.1) ((woF gr nw sp sq sec it rt stt ns x (wr, se, ga, sco, tim, cnt)).2.2.2.2.1) ((woF gr nw sp sq sec it rt stt ns x (wr, se, ga, sco, tim, cnt)).2.2.2.2.2) ns sp sq sec rt it ans tl un nw td) := by
  refine M_start (by decide) (Nat.le_of_ble_eq_true rfl) ?_
  intro p e s m args below meth c A Q ls X Y hW hl
  have hx := X.1.1
  have hb := X.1.2.1
  have hl : lv_has ls 3 [(0, .ref (h 0)), (1, .int (nI x)), (2, .int (nI w))] := hl
  obtain ⟨z1, z2, z3, z4, z5, z6, z7, z8, z9, z10, z11, z12, z13⟩ := id hI
  refine lv_aload_n hx hb d_Top_score_0 rfl (lv_at hl 0 rfl) ?_
  refine R_get X hW i_Top rfl 1 (by decide) kf_Top_19 0 rfl rfl d_Top_score_1 ?_
  refine lv_iload_n hx hb d_Top_score_4 rfl (lv_at hl 1 rfl) ?_
  refine R_callV (q0 := 11) (c_Persons_has l G cI cZ cJ h ne stt sco tim cnt (nI x) (by omega)) X rfl hW cw_Top_76 ki_Persons_has ks_Persons_has rfl rfl ⟨rfl, rfl⟩ ⟨by decide, by decide⟩ ⟨Nat.zero_le _, Nat.zero_le _⟩ [false, false, false, false, false, false, false, false, false, false, false, true, true, true, true, true, false, false, false, false, false, false, false, false, false, false, false, false] rfl (Nat.le_of_ble_eq_true rfl) rfl rfl hl.1 rfl rfl (Nat.le_of_ble_eq_true rfl) d_Top_score_5 rfl (fun H locs hW => ?_)
  have hW : Wr G A s.heap (w_All h cI cZ cJ wr se ga tw np tot gr fa re ss sc ne stt sco tim cnt ns sp sq sec rt it ans tl un nw td) H locs := hW
  refine N_if_eq_B hx hb  (tgt := 20) d_Top_score_8 (by decide) (fun c8 => ?_) (fun c8 => ?_)
  · exfalso; rw [inB_nI (by omega) (by omega)] at c8; cases c8
  · refine lv_iload_n hx hb d_Top_score_11 rfl (lv_at hl 2 rfl) ?_
    refine N_if_lt_N hx hb (by omega) (tgt := 20) d_Top_score_12 (by decide) (fun c12 => ?_) (fun c12 => ?_)
    · exfalso; omega
    · refine lv_iload_n hx hb d_Top_score_15 rfl (lv_at hl 2 rfl) ?_
      refine lv_iconst (v := (nI 3)) hx hb d_Top_score_16 (by decide +kernel) ?_
      refine N_icmp_le_NN hx hb (by omega) (by decide) (tgt := 24) d_Top_score_17 (by decide) (fun c17 => ?_) (fun c17 => ?_)
      · refine lv_iload_n hx hb d_Top_score_24 rfl (lv_at hl 2 rfl) ?_
        refine lv_iconst (v := (nI 3)) hx hb d_Top_score_25 (by decide +kernel) ?_
        refine N_icmp_ne_NN hx hb (by omega) (by decide) (tgt := 50) d_Top_score_26 (by decide) (fun c26 => ?_) (fun c26 => ?_)
        · refine lv_aload_n hx hb d_Top_score_50 rfl (lv_at hl 0 rfl) ?_
          refine lv_iload_n hx hb d_Top_score_51 rfl (lv_at hl 1 rfl) ?_
          refine R_callV (q0 := 0) (c_Top_workOut l G cI cZ cJ h wr se ga tw np tot gr fa re ss sc ne stt sco tim cnt ns sp sq sec rt it ans tl un nw td x (by omega) hI) X rfl hW cw_Top_114 ki_Top_workOut ks_Top_workOut rfl rfl ⟨rfl, rfl⟩ ⟨by decide, by decide⟩ ⟨Nat.zero_le _, Nat.zero_le _⟩ [true, true, true, true, true, true, true, true, true, true, true, true, true, true, true, true, true, true, true, true, true, true, true, true, true, true, true, true] rfl (Nat.le_of_ble_eq_true rfl) rfl rfl hl.1 rfl rfl (Nat.le_of_ble_eq_true rfl) d_Top_score_52 rfl (fun H locs hW => ?_)
          have hW : Wr G A s.heap (w_All h cI cZ cJ ((woF gr nw sp sq sec it rt stt ns x (wr, se, ga, sco, tim, cnt)).1) ((woF gr nw sp sq sec it rt stt ns x (wr, se, ga, sco, tim, cnt)).2.1) ((woF gr nw sp sq sec it rt stt ns x (wr, se, ga, sco, tim, cnt)).2.2.1) tw np tot gr fa re ss sc ne stt ((woF gr nw sp sq sec it rt stt ns x (wr, se, ga, sco, tim, cnt)).2.2.2.1) ((woF gr nw sp sq sec it rt stt ns x (wr, se, ga, sco, tim, cnt)).2.2.2.2.1) ((woF gr nw sp sq sec it rt stt ns x (wr, se, ga, sco, tim, cnt)).2.2.2.2.2) ns sp sq sec rt it ans tl un nw td) H locs := hW
          refine lv_iload_n hx hb d_Top_score_55 rfl (lv_at hl 2 rfl) ?_
          refine N_if_ne_N hx hb (by omega) (tgt := 69) d_Top_score_56 (by decide) (fun c56 => ?_) (fun c56 => ?_)
          · refine lv_iload_n hx hb d_Top_score_69 rfl (lv_at hl 2 rfl) ?_
            refine lv_iconst (v := (nI 1)) hx hb d_Top_score_70 (by decide +kernel) ?_
            refine N_icmp_ne_NN hx hb (by omega) (by decide) (tgt := 86) d_Top_score_71 (by decide) (fun c71 => ?_) (fun c71 => ?_)
            · refine lv_aload_n hx hb d_Top_score_86 rfl (lv_at hl 0 rfl) ?_
              refine R_get X hW i_Top rfl 1 (by decide) kf_Top_19 0 rfl rfl d_Top_score_87 ?_
              refine R_get X hW i_Persons rfl 3 (by decide) kf_Top_124 11 rfl rfl d_Top_score_90 ?_
              refine lv_iload_n hx hb d_Top_score_93 rfl (lv_at hl 1 rfl) ?_
              refine R_iald X hW (t0 := 0) rfl 15 rfl (k := x) (by omega) (by decide) d_Top_score_94 ?_
              refine N_i2l hx hb hc0 d_Top_score_95 ?_
              exact R_lret X Y hW rfl rfl d_Top_score_96
            · exfalso; omega
          · exfalso; omega
        · exfalso; omega
      · exfalso; omega

theorem kb_Rules_timesPart : Cond.code y_Rules_timesPart b_Rules_timesPart 1 (some .boolean) ∈ TBL := TBL_t (List.mem_append_right _ (List.mem_append_left _ (List.mem_of_getElem? (i := 172) rfl))) rfl
theorem km_Top_106 : Cond.methodLink "ContestRows" 106 y_Rules_timesPart ∈ TBL := TBL_t (List.mem_append_right _ (List.mem_append_left _ (List.mem_of_getElem? (i := 169) rfl))) rfl
theorem cw_Top_106 : Cw "ContestRows" 106 y_Rules_timesPart b_Rules_timesPart 1 (some .boolean) 0 := ⟨kb_Rules_timesPart, kn_Rules, km_Top_106, by decide +kernel⟩
theorem ki_Rules_timesPart : Cond.instanceMethod y_Rules_timesPart ∈ TBL := TBL_t (List.mem_append_right _ (List.mem_append_left _ (List.mem_of_getElem? (i := 170) rfl))) rfl
theorem ks_Rules_timesPart : Cond.selects "ContestRows$Rules" y_Rules_timesPart y_Rules_timesPart ∈ TBL := TBL_t (List.mem_append_right _ (List.mem_append_left _ (List.mem_of_getElem? (i := 171) rfl))) rfl
theorem km_Top_130 : Cond.methodLink "ContestRows" 130 y_Persons_alike ∈ TBL := TBL_t (List.mem_append_right _ (List.mem_append_left _ (List.mem_of_getElem? (i := 206) rfl))) rfl
theorem cw_Top_130 : Cw "ContestRows" 130 y_Persons_alike b_Persons_alike 4 (some .boolean) 3 := ⟨kb_Persons_alike, kn_Persons, km_Top_130, by decide +kernel⟩
set_option maxHeartbeats 4000000 in
set_option maxRecDepth 100000 in
theorem c_Top_shared_ok (l : Launch) (G : va_G) (cI cZ cJ : ClassId) (h : Nat → Nat) (wr : Nat → Nat) (se : Nat → Bool) (ga : Nat → Option Nat) (tw : Nat → Option Nat) (np : Nat) (tot : Nat) (gr : Nat → Nat) (fa : Nat → Nat) (re : Nat → Bool) (ss : Nat → Nat) (sc : Nat → Nat) (ne : Nat) (stt : Nat → Option Nat) (sco : Nat → Nat) (tim : Nat → Nat) (cnt : Nat → Nat) (ns : Nat) (sp : Nat → Nat) (sq : Nat → Nat) (sec : Nat → Nat) (rt : Nat → Bool) (it : Nat → Nat) (ans : Nat → Nat) (tl : Nat) (un : Nat → Nat) (nw : Nat → Nat) (td : Nat → Nat) (x : Nat) (y : Nat) (hx0 : x < ne) (hy0 : y < ne) (hI : IS np ne ns gr nw sp sq sec it ans stt) (hsc : ∀ i, i < 20 → (woF gr nw sp sq sec it rt stt ns y (woF gr nw sp sq sec it rt stt ns x (wr, se, ga, sco, tim, cnt))).2.2.2.1 i < 2 ^ 63) (htm : ∀ i, i < 20 → (woF gr nw sp sq sec it rt stt ns y (woF gr nw sp sq sec it rt stt ns x (wr, se, ga, sco, tim, cnt))).2.2.2.2.1 i < 2 ^ 63) : Ct l G (tyL cI cZ cJ) y_Top_shared b_Top_shared 3 (some .boolean) (rmL 4) [.ref (h 0), .int (nI x), .int (nI y)] (w_All h cI cZ cJ wr se ga tw np tot gr fa re ss sc ne stt sco tim cnt ns sp sq sec rt it ans tl un nw td) (some (.int (bI (alk (woF gr nw sp sq sec it rt stt ns y (woF gr nw sp sq sec it rt stt ns x (wr, se, ga, sco, tim, cnt))).2.2.2.1 (woF gr nw sp sq sec it rt stt ns y (woF gr nw sp sq sec it rt stt ns x (wr, se, ga, sco, tim, cnt))).2.2.2.2.1 (decide (nw 4 = 1)) x y)))) (w_All h cI cZ cJ ((woF gr nw sp sq sec it rt stt ns y (woF gr nw sp sq sec it rt stt ns x (wr, se, ga, sco, tim, cnt))).1) ((woF gr nw sp sq sec it rt stt ns y (woF gr nw sp sq sec it rt stt ns x (wr, se, ga, sco, tim, cnt))).2.1) ((woF gr nw sp sq sec it rt stt ns y (woF gr nw sp sq sec it rt stt ns x (wr, se, ga, sco, tim, cnt))).2.2.1) tw np tot gr fa re ss sc ne stt ((woF gr nw sp sq sec it rt stt ns y (woF gr nw sp sq sec it rt stt ns x (wr, se, ga, sco, tim, cnt))).2.2.2.1) ((woF gr nw sp sq sec it rt stt ns y (woF gr nw sp sq sec it rt stt ns x (wr, se, ga, sco, tim, cnt))).2.2.2.2.1) ((woF gr nw sp sq sec it rt stt ns y (woF gr nw sp sq sec it rt stt ns x (wr, se, ga, sco, tim, cnt))).2.2.2.2.2) ns sp sq sec rt it ans tl un nw td) := by
  refine M_start (by decide) (Nat.le_of_ble_eq_true rfl) ?_
  intro p e s m args below meth c A Q ls X Y hW hl
  have hx := X.1.1
  have hb := X.1.2.1
  have hl : lv_has ls 3 [(0, .ref (h 0)), (1, .int (nI x)), (2, .int (nI y))] := hl
  obtain ⟨z1, z2, z3, z4, z5, z6, z7, z8, z9, z10, z11, z12, z13⟩ := id hI
  refine lv_aload_n hx hb d_Top_shared_0 rfl (lv_at hl 0 rfl) ?_
  refine R_get X hW i_Top rfl 1 (by decide) kf_Top_19 0 rfl rfl d_Top_shared_1 ?_
  refine lv_iload_n hx hb d_Top_shared_4 rfl (lv_at hl 1 rfl) ?_
  refine R_callV (q0 := 11) (c_Persons_has l G cI cZ cJ h ne stt sco tim cnt (nI x) (by omega)) X rfl hW cw_Top_76 ki_Persons_has ks_Persons_has rfl rfl ⟨rfl, rfl⟩ ⟨by decide, by decide⟩ ⟨Nat.zero_le _, Nat.zero_le _⟩ [false, false, false, false, false, false, false, false, false, false, false, true, true, true, true, true, false, false, false, false, false, false, false, false, false, false, false, false] rfl (Nat.le_of_ble_eq_true rfl) rfl rfl hl.1 rfl rfl (Nat.le_of_ble_eq_true rfl) d_Top_shared_5 rfl (fun H locs hW => ?_)
  have hW : Wr G A s.heap (w_All h cI cZ cJ wr se ga tw np tot gr fa re ss sc ne stt sco tim cnt ns sp sq sec rt it ans tl un nw td) H locs := hW
  refine N_if_eq_B hx hb  (tgt := 22) d_Top_shared_8 (by decide) (fun c8 => ?_) (fun c8 => ?_)
  · exfalso; rw [inB_nI (by omega) (by omega)] at c8; cases c8
  · refine lv_aload_n hx hb d_Top_shared_11 rfl (lv_at hl 0 rfl) ?_
    refine R_get X hW i_Top rfl 1 (by decide) kf_Top_19 0 rfl rfl d_Top_shared_12 ?_
    refine lv_iload_n hx hb d_Top_shared_15 rfl (lv_at hl 2 rfl) ?_
    refine R_callV (q0 := 11) (c_Persons_has l G cI cZ cJ h ne stt sco tim cnt (nI y) (by omega)) X rfl hW cw_Top_76 ki_Persons_has ks_Persons_has rfl rfl ⟨rfl, rfl⟩ ⟨by decide, by decide⟩ ⟨Nat.zero_le _, Nat.zero_le _⟩ [false, false, false, false, false, false, false, false, false, false, false, true, true, true, true, true, false, false, false, false, false, false, false, false, false, false, false, false] rfl (Nat.le_of_ble_eq_true rfl) rfl rfl hl.1 rfl rfl (Nat.le_of_ble_eq_true rfl) d_Top_shared_16 rfl (fun H locs hW => ?_)
    have hW : Wr G A s.heap (w_All h cI cZ cJ wr se ga tw np tot gr fa re ss sc ne stt sco tim cnt ns sp sq sec rt it ans tl un nw td) H locs := hW
    refine N_if_ne_B hx hb  (tgt := 24) d_Top_shared_19 (by decide) (fun c19 => ?_) (fun c19 => ?_)
    · refine lv_aload_n hx hb d_Top_shared_24 rfl (lv_at hl 0 rfl) ?_
      refine lv_iload_n hx hb d_Top_shared_25 rfl (lv_at hl 1 rfl) ?_
      refine R_callV (q0 := 0) (c_Top_workOut l G cI cZ cJ h wr se ga tw np tot gr fa re ss sc ne stt sco tim cnt ns sp sq sec rt it ans tl un nw td x (by omega) hI) X rfl hW cw_Top_114 ki_Top_workOut ks_Top_workOut rfl rfl ⟨rfl, rfl⟩ ⟨by decide, by decide⟩ ⟨Nat.zero_le _, Nat.zero_le _⟩ [true, true, true, true, true, true, true, true, true, true, true, true, true, true, true, true, true, true, true, true, true, true, true, true, true, true, true, true] rfl (Nat.le_of_ble_eq_true rfl) rfl rfl hl.1 rfl rfl (Nat.le_of_ble_eq_true rfl) d_Top_shared_26 rfl (fun H locs hW => ?_)
      have hW : Wr G A s.heap (w_All h cI cZ cJ ((woF gr nw sp sq sec it rt stt ns x (wr, se, ga, sco, tim, cnt)).1) ((woF gr nw sp sq sec it rt stt ns x (wr, se, ga, sco, tim, cnt)).2.1) ((woF gr nw sp sq sec it rt stt ns x (wr, se, ga, sco, tim, cnt)).2.2.1) tw np tot gr fa re ss sc ne stt ((woF gr nw sp sq sec it rt stt ns x (wr, se, ga, sco, tim, cnt)).2.2.2.1) ((woF gr nw sp sq sec it rt stt ns x (wr, se, ga, sco, tim, cnt)).2.2.2.2.1) ((woF gr nw sp sq sec it rt stt ns x (wr, se, ga, sco, tim, cnt)).2.2.2.2.2) ns sp sq sec rt it ans tl un nw td) H locs := hW
      obtain ⟨u1, hu1⟩ : ∃ u, u = woF gr nw sp sq sec it rt stt ns x (wr, se, ga, sco, tim, cnt) := ⟨_, rfl⟩
      rw [← hu1] at hW hsc htm
      have hW : Wr G A s.heap (w_All h cI cZ cJ u1.1 u1.2.1 u1.2.2.1 tw np tot gr fa re ss sc ne stt u1.2.2.2.1 u1.2.2.2.2.1 u1.2.2.2.2.2 ns sp sq sec rt it ans tl un nw td) H locs := hW
      refine lv_aload_n hx hb d_Top_shared_29 rfl (lv_at hl 0 rfl) ?_
      refine lv_iload_n hx hb d_Top_shared_30 rfl (lv_at hl 2 rfl) ?_
      refine R_callV (q0 := 0) (c_Top_workOut l G cI cZ cJ h u1.1 u1.2.1 u1.2.2.1 tw np tot gr fa re ss sc ne stt u1.2.2.2.1 u1.2.2.2.2.1 u1.2.2.2.2.2 ns sp sq sec rt it ans tl un nw td y (by omega) hI) X rfl hW cw_Top_114 ki_Top_workOut ks_Top_workOut rfl rfl ⟨rfl, rfl⟩ ⟨by decide, by decide⟩ ⟨Nat.zero_le _, Nat.zero_le _⟩ [true, true, true, true, true, true, true, true, true, true, true, true, true, true, true, true, true, true, true, true, true, true, true, true, true, true, true, true] rfl (Nat.le_of_ble_eq_true rfl) rfl rfl hl.1 rfl rfl (Nat.le_of_ble_eq_true rfl) d_Top_shared_31 rfl (fun H locs hW => ?_)
      have hW : Wr G A s.heap (w_All h cI cZ cJ ((woF gr nw sp sq sec it rt stt ns y (u1.1, u1.2.1, u1.2.2.1, u1.2.2.2.1, u1.2.2.2.2.1, u1.2.2.2.2.2)).1) ((woF gr nw sp sq sec it rt stt ns y (u1.1, u1.2.1, u1.2.2.1, u1.2.2.2.1, u1.2.2.2.2.1, u1.2.2.2.2.2)).2.1) ((woF gr nw sp sq sec it rt stt ns y (u1.1, u1.2.1, u1.2.2.1, u1.2.2.2.1, u1.2.2.2.2.1, u1.2.2.2.2.2)).2.2.1) tw np tot gr fa re ss sc ne stt ((woF gr nw sp sq sec it rt stt ns y (u1.1, u1.2.1, u1.2.2.1, u1.2.2.2.1, u1.2.2.2.2.1, u1.2.2.2.2.2)).2.2.2.1) ((woF gr nw sp sq sec it rt stt ns y (u1.1, u1.2.1, u1.2.2.1, u1.2.2.2.1, u1.2.2.2.2.1, u1.2.2.2.2.2)).2.2.2.2.1) ((woF gr nw sp sq sec it rt stt ns y (u1.1, u1.2.1, u1.2.2.1, u1.2.2.2.1, u1.2.2.2.2.1, u1.2.2.2.2.2)).2.2.2.2.2) ns sp sq sec rt it ans tl un nw td) H locs := hW
      rw [tk_eta] at hW
      obtain ⟨u2, hu2⟩ : ∃ u, u = woF gr nw sp sq sec it rt stt ns y u1 := ⟨_, rfl⟩
      rw [← hu2] at hW hsc htm
      have hW : Wr G A s.heap (w_All h cI cZ cJ u2.1 u2.2.1 u2.2.2.1 tw np tot gr fa re ss sc ne stt u2.2.2.2.1 u2.2.2.2.2.1 u2.2.2.2.2.2 ns sp sq sec rt it ans tl un nw td) H locs := hW
      refine lv_aload_n hx hb d_Top_shared_34 rfl (lv_at hl 0 rfl) ?_
      refine R_get X hW i_Top rfl 1 (by decide) kf_Top_19 0 rfl rfl d_Top_shared_35 ?_
      refine lv_iload_n hx hb d_Top_shared_38 rfl (lv_at hl 1 rfl) ?_
      refine lv_iload_n hx hb d_Top_shared_39 rfl (lv_at hl 2 rfl) ?_
      refine lv_aload_n hx hb d_Top_shared_40 rfl (lv_at hl 0 rfl) ?_
      refine R_get X hW i_Top rfl 4 (by decide) kf_Top_40 0 rfl rfl d_Top_shared_41 ?_
      refine R_callV (q0 := 25) (c_Rules_timesPart l G cI cZ cJ h nw td z5) X rfl hW cw_Top_106 ki_Rules_timesPart ks_Rules_timesPart rfl rfl ⟨rfl, rfl⟩ ⟨by decide, by decide⟩ ⟨Nat.zero_le _, Nat.zero_le _⟩ [false, false, false, false, false, false, false, false, false, false, false, false, false, false, false, false, false, false, false, false, false, false, false, false, false, true, true, true] rfl (Nat.le_of_ble_eq_true rfl) rfl rfl hl.1 rfl rfl (Nat.le_of_ble_eq_true rfl) d_Top_shared_44 rfl (fun H locs hW => ?_)
      have hW : Wr G A s.heap (w_All h cI cZ cJ u2.1 u2.2.1 u2.2.2.1 tw np tot gr fa re ss sc ne stt u2.2.2.2.1 u2.2.2.2.2.1 u2.2.2.2.2.2 ns sp sq sec rt it ans tl un nw td) H locs := hW
      refine R_callV (q0 := 11) (c_Persons_alike l G cI cZ cJ h ne stt u2.2.2.2.1 u2.2.2.2.2.1 u2.2.2.2.2.2 x y (decide (nw 4 = 1)) (by omega) (by omega) hsc htm) X rfl hW cw_Top_130 ki_Persons_alike ks_Persons_alike rfl rfl ⟨rfl, rfl⟩ ⟨by decide, by decide⟩ ⟨Nat.zero_le _, Nat.zero_le _⟩ [false, false, false, false, false, false, false, false, false, false, false, true, true, true, true, true, false, false, false, false, false, false, false, false, false, false, false, false] rfl (Nat.le_of_ble_eq_true rfl) rfl rfl hl.1 rfl rfl (Nat.le_of_ble_eq_true rfl) d_Top_shared_47 rfl (fun H locs hW => ?_)
      have hW : Wr G A s.heap (w_All h cI cZ cJ u2.1 u2.2.1 u2.2.2.1 tw np tot gr fa re ss sc ne stt u2.2.2.2.1 u2.2.2.2.2.1 u2.2.2.2.2.2 ns sp sq sec rt it ans tl un nw td) H locs := hW
      exact R_zret X Y hW (by rw [hu2, hu1]) (alk u2.2.2.2.1 u2.2.2.2.2.1 (decide (nw 4 = 1)) x y) rfl (by rw [hu2, hu1]) d_Top_shared_50
    · exfalso; rw [inB_nI (by omega) (by omega)] at c19; cases c19

theorem kb_Top_workOutAll : Cond.code y_Top_workOutAll b_Top_workOutAll 2 none ∈ TBL := TBL_t (List.mem_append_right _ (List.mem_append_left _ (List.mem_of_getElem? (i := 145) rfl))) rfl
theorem km_Top_103 : Cond.methodLink "ContestRows" 103 y_Top_workOutAll ∈ TBL := TBL_t (List.mem_append_right _ (List.mem_append_left _ (List.mem_of_getElem? (i := 142) rfl))) rfl
theorem cw_Top_103 : Cw "ContestRows" 103 y_Top_workOutAll b_Top_workOutAll 2 none 0 := ⟨kb_Top_workOutAll, kn_Top, km_Top_103, by decide +kernel⟩
theorem ki_Top_workOutAll : Cond.instanceMethod y_Top_workOutAll ∈ TBL := TBL_t (List.mem_append_right _ (List.mem_append_left _ (List.mem_of_getElem? (i := 144) rfl))) rfl
theorem ks_Top_workOutAll : Cond.selects "ContestRows" y_Top_workOutAll y_Top_workOutAll ∈ TBL := TBL_in (List.mem_append_left _ (List.mem_map.mpr ⟨(y_Top_workOutAll, 9), by decide +kernel, rfl⟩)) rfl
theorem km_Top_110 : Cond.methodLink "ContestRows" 110 y_Persons_rankOf ∈ TBL := TBL_t (List.mem_append_right _ (List.mem_append_left _ (List.mem_of_getElem? (i := 173) rfl))) rfl
theorem cw_Top_110 : Cw "ContestRows" 110 y_Persons_rankOf b_Persons_rankOf 5 (some .int) 2 := ⟨kb_Persons_rankOf, kn_Persons, km_Top_110, by decide +kernel⟩
set_option maxHeartbeats 4000000 in
set_option maxRecDepth 100000 in
theorem c_Top_score_3 (l : Launch) (G : va_G) (cI cZ cJ : ClassId) (h : Nat → Nat) (wr : Nat → Nat) (se : Nat → Bool) (ga : Nat → Option Nat) (tw : Nat → Option Nat) (np : Nat) (tot : Nat) (gr : Nat → Nat) (fa : Nat → Nat) (re : Nat → Bool) (ss : Nat → Nat) (sc : Nat → Nat) (ne : Nat) (stt : Nat → Option Nat) (sco : Nat → Nat) (tim : Nat → Nat) (cnt : Nat → Nat) (ns : Nat) (sp : Nat → Nat) (sq : Nat → Nat) (sec : Nat → Nat) (rt : Nat → Bool) (it : Nat → Nat) (ans : Nat → Nat) (tl : Nat) (un : Nat → Nat) (nw : Nat → Nat) (td : Nat → Nat) (x : Nat) (w : Nat) (hx0 : x < ne) (hw0 : w = 3) (hI : IS np ne ns gr nw sp sq sec it ans stt) (hsc : ∀ i, i < 20 → (waF gr nw sp sq sec it rt stt ns ne (wr, se, ga, sco, tim, cnt)).2.2.2.1 i < 2 ^ 63) (htm : ∀ i, i < 20 → (waF gr nw sp sq sec it rt stt ns ne (wr, se, ga, sco, tim, cnt)).2.2.2.2.1 i < 2 ^ 63) : Ct l G (tyL cI cZ cJ) y_Top_score b_Top_score 3 (some .long) (rmL 5) [.ref (h 0), .int (nI x), .int (nI w)] (w_All h cI cZ cJ wr se ga tw np tot gr fa re ss sc ne stt sco tim cnt ns sp sq sec rt it ans tl un nw td) (some (.long (lN (1 + cntF (fun k => ahd (waF gr nw sp sq sec it rt stt ns ne (wr, se, ga, sco, tim, cnt)).2.2.2.1 (waF gr nw sp sq sec it rt stt ns ne (wr, se, ga, sco, tim, cnt)).2.2.2.2.1 (decide (nw 4 = 1)) k x) ne)))) (w_All h cI cZ cJ ((waF gr nw sp sq sec it rt stt ns ne (wr, se, ga, sco, tim, cnt)).1) ((waF gr nw sp sq sec it rt stt ns ne (wr, se, ga, sco, tim, cnt)).2.1) ((waF gr nw sp sq sec it rt stt ns ne (wr, se, ga, sco, tim, cnt)).2.2.1) tw np tot gr fa re ss sc ne stt ((waF gr nw sp sq sec it rt stt ns ne (wr, se, ga, sco, tim, cnt)).2.2.2.1) ((waF gr nw sp sq sec it rt stt ns ne (wr, se, ga, sco, tim, cnt)).2.2.2.2.1) ((waF gr nw sp sq sec it rt stt ns ne (wr, se, ga, sco, tim, cnt)).2.2.2.2.2) ns sp sq sec rt it ans tl un nw td) := by
  refine M_start (by decide) (Nat.le_of_ble_eq_true rfl) ?_
  intro p e s m args below meth c A Q ls X Y hW hl
  have hx := X.1.1
  have hb := X.1.2.1
  have hl : lv_has ls 3 [(0, .ref (h 0)), (1, .int (nI x)), (2, .int (nI w))] := hl
  obtain ⟨z1, z2, z3, z4, z5, z6, z7, z8, z9, z10, z11, z12, z13⟩ := id hI
  refine lv_aload_n hx hb d_Top_score_0 rfl (lv_at hl 0 rfl) ?_
  refine R_get X hW i_Top rfl 1 (by decide) kf_Top_19 0 rfl rfl d_Top_score_1 ?_
  refine lv_iload_n hx hb d_Top_score_4 rfl (lv_at hl 1 rfl) ?_
  refine R_callV (q0 := 11) (c_Persons_has l G cI cZ cJ h ne stt sco tim cnt (nI x) (by omega)) X rfl hW cw_Top_76 ki_Persons_has ks_Persons_has rfl rfl ⟨rfl, rfl⟩ ⟨by decide, by decide⟩ ⟨Nat.zero_le _, Nat.zero_le _⟩ [false, false, false, false, false, false, false, false, false, false, false, true, true, true, true, true, false, false, false, false, false, false, false, false, false, false, false, false] rfl (Nat.le_of_ble_eq_true rfl) rfl rfl hl.1 rfl rfl (Nat.le_of_ble_eq_true rfl) d_Top_score_5 rfl (fun H locs hW => ?_)
  have hW : Wr G A s.heap (w_All h cI cZ cJ wr se ga tw np tot gr fa re ss sc ne stt sco tim cnt ns sp sq sec rt it ans tl un nw td) H locs := hW
  refine N_if_eq_B hx hb  (tgt := 20) d_Top_score_8 (by decide) (fun c8 => ?_) (fun c8 => ?_)
  · exfalso; rw [inB_nI (by omega) (by omega)] at c8; cases c8
  · refine lv_iload_n hx hb d_Top_score_11 rfl (lv_at hl 2 rfl) ?_
    refine N_if_lt_N hx hb (by omega) (tgt := 20) d_Top_score_12 (by decide) (fun c12 => ?_) (fun c12 => ?_)
    · exfalso; omega
    · refine lv_iload_n hx hb d_Top_score_15 rfl (lv_at hl 2 rfl) ?_
      refine lv_iconst (v := (nI 3)) hx hb d_Top_score_16 (by decide +kernel) ?_
      refine N_icmp_le_NN hx hb (by omega) (by decide) (tgt := 24) d_Top_score_17 (by decide) (fun c17 => ?_) (fun c17 => ?_)
      · refine lv_iload_n hx hb d_Top_score_24 rfl (lv_at hl 2 rfl) ?_
        refine lv_iconst (v := (nI 3)) hx hb d_Top_score_25 (by decide +kernel) ?_
        refine N_icmp_ne_NN hx hb (by omega) (by decide) (tgt := 50) d_Top_score_26 (by decide) (fun c26 => ?_) (fun c26 => ?_)
        · exfalso; omega
        · refine lv_aload_n hx hb d_Top_score_29 rfl (lv_at hl 0 rfl) ?_
          refine R_callV (q0 := 0) (c_Top_workOutAll l G cI cZ cJ h wr se ga tw np tot gr fa re ss sc ne stt sco tim cnt ns sp sq sec rt it ans tl un nw td hI) X rfl hW cw_Top_103 ki_Top_workOutAll ks_Top_workOutAll rfl rfl ⟨rfl, rfl⟩ ⟨by decide, by decide⟩ ⟨Nat.zero_le _, Nat.zero_le _⟩ [true, true, true, true, true, true, true, true, true, true, true, true, true, true, true, true, true, true, true, true, true, true, true, true, true, true, true, true] rfl (Nat.le_of_ble_eq_true rfl) rfl rfl hl.1 rfl rfl (Nat.le_of_ble_eq_true rfl) d_Top_score_30 rfl (fun H locs hW => ?_)
          have hW : Wr G A s.heap (w_All h cI cZ cJ ((waF gr nw sp sq sec it rt stt ns ne (wr, se, ga, sco, tim, cnt)).1) ((waF gr nw sp sq sec it rt stt ns ne (wr, se, ga, sco, tim, cnt)).2.1) ((waF gr nw sp sq sec it rt stt ns ne (wr, se, ga, sco, tim, cnt)).2.2.1) tw np tot gr fa re ss sc ne stt ((waF gr nw sp sq sec it rt stt ns ne (wr, se, ga, sco, tim, cnt)).2.2.2.1) ((waF gr nw sp sq sec it rt stt ns ne (wr, se, ga, sco, tim, cnt)).2.2.2.2.1) ((waF gr nw sp sq sec it rt stt ns ne (wr, se, ga, sco, tim, cnt)).2.2.2.2.2) ns sp sq sec rt it ans tl un nw td) H locs := hW
          refine lv_aload_n hx hb d_Top_score_33 rfl (lv_at hl 0 rfl) ?_
          refine R_get X hW i_Top rfl 1 (by decide) kf_Top_19 0 rfl rfl d_Top_score_34 ?_
          refine lv_iload_n hx hb d_Top_score_37 rfl (lv_at hl 1 rfl) ?_
          refine lv_aload_n hx hb d_Top_score_38 rfl (lv_at hl 0 rfl) ?_
          refine R_get X hW i_Top rfl 4 (by decide) kf_Top_40 0 rfl rfl d_Top_score_39 ?_
          refine R_callV (q0 := 25) (c_Rules_timesPart l G cI cZ cJ h nw td z5) X rfl hW cw_Top_106 ki_Rules_timesPart ks_Rules_timesPart rfl rfl ⟨rfl, rfl⟩ ⟨by decide, by decide⟩ ⟨Nat.zero_le _, Nat.zero_le _⟩ [false, false, false, false, false, false, false, false, false, false, false, false, false, false, false, false, false, false, false, false, false, false, false, false, false, true, true, true] rfl (Nat.le_of_ble_eq_true rfl) rfl rfl hl.1 rfl rfl (Nat.le_of_ble_eq_true rfl) d_Top_score_42 rfl (fun H locs hW => ?_)
          have hW : Wr G A s.heap (w_All h cI cZ cJ ((waF gr nw sp sq sec it rt stt ns ne (wr, se, ga, sco, tim, cnt)).1) ((waF gr nw sp sq sec it rt stt ns ne (wr, se, ga, sco, tim, cnt)).2.1) ((waF gr nw sp sq sec it rt stt ns ne (wr, se, ga, sco, tim, cnt)).2.2.1) tw np tot gr fa re ss sc ne stt ((waF gr nw sp sq sec it rt stt ns ne (wr, se, ga, sco, tim, cnt)).2.2.2.1) ((waF gr nw sp sq sec it rt stt ns ne (wr, se, ga, sco, tim, cnt)).2.2.2.2.1) ((waF gr nw sp sq sec it rt stt ns ne (wr, se, ga, sco, tim, cnt)).2.2.2.2.2) ns sp sq sec rt it ans tl un nw td) H locs := hW
          refine R_callV (q0 := 11) (c_Persons_rankOf l G cI cZ cJ h ne stt ((waF gr nw sp sq sec it rt stt ns ne (wr, se, ga, sco, tim, cnt)).2.2.2.1) ((waF gr nw sp sq sec it rt stt ns ne (wr, se, ga, sco, tim, cnt)).2.2.2.2.1) ((waF gr nw sp sq sec it rt stt ns ne (wr, se, ga, sco, tim, cnt)).2.2.2.2.2) x (decide (nw 4 = 1)) (by omega) z2 hsc htm) X rfl hW cw_Top_110 ki_Persons_rankOf ks_Persons_rankOf rfl rfl ⟨rfl, rfl⟩ ⟨by decide, by decide⟩ ⟨Nat.zero_le _, Nat.zero_le _⟩ [false, false, false, false, false, false, false, false, false, false, false, true, true, true, true, true, false, false, false, false, false, false, false, false, false, false, false, false] rfl (Nat.le_of_ble_eq_true rfl) rfl rfl hl.1 rfl rfl (Nat.le_of_ble_eq_true rfl) d_Top_score_45 rfl (fun H locs hW => ?_)
          have hW : Wr G A s.heap (w_All h cI cZ cJ ((waF gr nw sp sq sec it rt stt ns ne (wr, se, ga, sco, tim, cnt)).1) ((waF gr nw sp sq sec it rt stt ns ne (wr, se, ga, sco, tim, cnt)).2.1) ((waF gr nw sp sq sec it rt stt ns ne (wr, se, ga, sco, tim, cnt)).2.2.1) tw np tot gr fa re ss sc ne stt ((waF gr nw sp sq sec it rt stt ns ne (wr, se, ga, sco, tim, cnt)).2.2.2.1) ((waF gr nw sp sq sec it rt stt ns ne (wr, se, ga, sco, tim, cnt)).2.2.2.2.1) ((waF gr nw sp sq sec it rt stt ns ne (wr, se, ga, sco, tim, cnt)).2.2.2.2.2) ns sp sq sec rt it ans tl un nw td) H locs := hW
          have y9 := cntF_le (fun k => ahd (waF gr nw sp sq sec it rt stt ns ne (wr, se, ga, sco, tim, cnt)).2.2.2.1 (waF gr nw sp sq sec it rt stt ns ne (wr, se, ga, sco, tim, cnt)).2.2.2.2.1 (decide (nw 4 = 1)) k x) ne
          refine N_i2l hx hb (by omega) d_Top_score_48 ?_
          exact R_lret X Y hW rfl rfl d_Top_score_49
      · exfalso; omega

theorem kb_Persons_inPlace : Cond.code y_Persons_inPlace b_Persons_inPlace 4 (some .int) ∈ TBL := TBL_t (List.mem_append_right _ (List.mem_append_left _ (List.mem_of_getElem? (i := 192) rfl))) rfl
theorem km_Top_127 : Cond.methodLink "ContestRows" 127 y_Persons_inPlace ∈ TBL := TBL_t (List.mem_append_right _ (List.mem_append_left _ (List.mem_of_getElem? (i := 189) rfl))) rfl
theorem cw_Top_127 : Cw "ContestRows" 127 y_Persons_inPlace b_Persons_inPlace 4 (some .int) 2 := ⟨kb_Persons_inPlace, kn_Persons, km_Top_127, by decide +kernel⟩
theorem ki_Persons_inPlace : Cond.instanceMethod y_Persons_inPlace ∈ TBL := TBL_t (List.mem_append_right _ (List.mem_append_left _ (List.mem_of_getElem? (i := 190) rfl))) rfl
theorem ks_Persons_inPlace : Cond.selects "ContestRows$Persons" y_Persons_inPlace y_Persons_inPlace ∈ TBL := TBL_t (List.mem_append_right _ (List.mem_append_left _ (List.mem_of_getElem? (i := 191) rfl))) rfl
set_option maxHeartbeats 4000000 in
set_option maxRecDepth 100000 in
theorem c_Top_place_ok (l : Launch) (G : va_G) (cI cZ cJ : ClassId) (h : Nat → Nat) (wr : Nat → Nat) (se : Nat → Bool) (ga : Nat → Option Nat) (tw : Nat → Option Nat) (np : Nat) (tot : Nat) (gr : Nat → Nat) (fa : Nat → Nat) (re : Nat → Bool) (ss : Nat → Nat) (sc : Nat → Nat) (ne : Nat) (stt : Nat → Option Nat) (sco : Nat → Nat) (tim : Nat → Nat) (cnt : Nat → Nat) (ns : Nat) (sp : Nat → Nat) (sq : Nat → Nat) (sec : Nat → Nat) (rt : Nat → Bool) (it : Nat → Nat) (ans : Nat → Nat) (tl : Nat) (un : Nat → Nat) (nw : Nat → Nat) (td : Nat → Nat) (x : Nat) (hx0 : x < ne) (hI : IS np ne ns gr nw sp sq sec it ans stt) (hsc : ∀ i, i < 20 → (waF gr nw sp sq sec it rt stt ns ne (wr, se, ga, sco, tim, cnt)).2.2.2.1 i < 2 ^ 63) (htm : ∀ i, i < 20 → (waF gr nw sp sq sec it rt stt ns ne (wr, se, ga, sco, tim, cnt)).2.2.2.2.1 i < 2 ^ 63) : Ct l G (tyL cI cZ cJ) y_Top_place b_Top_place 2 (some .int) (rmL 5) [.ref (h 0), .int (nI x)] (w_All h cI cZ cJ wr se ga tw np tot gr fa re ss sc ne stt sco tim cnt ns sp sq sec rt it ans tl un nw td) (some (.int (oI (fstG (fun q => decide (hmb (waF gr nw sp sq sec it rt stt ns ne (wr, se, ga, sco, tim, cnt)).2.2.2.1 (waF gr nw sp sq sec it rt stt ns ne (wr, se, ga, sco, tim, cnt)).2.2.2.2.1 ne (decide (nw 4 = 1)) q = x)) ne 0)))) (w_All h cI cZ cJ ((waF gr nw sp sq sec it rt stt ns ne (wr, se, ga, sco, tim, cnt)).1) ((waF gr nw sp sq sec it rt stt ns ne (wr, se, ga, sco, tim, cnt)).2.1) ((waF gr nw sp sq sec it rt stt ns ne (wr, se, ga, sco, tim, cnt)).2.2.1) tw np tot gr fa re ss sc ne stt ((waF gr nw sp sq sec it rt stt ns ne (wr, se, ga, sco, tim, cnt)).2.2.2.1) ((waF gr nw sp sq sec it rt stt ns ne (wr, se, ga, sco, tim, cnt)).2.2.2.2.1) ((waF gr nw sp sq sec it rt stt ns ne (wr, se, ga, sco, tim, cnt)).2.2.2.2.2) ns sp sq sec rt it ans tl un nw td) := by
  refine M_start (by decide) (Nat.le_of_ble_eq_true rfl) ?_
  intro p e s m args below meth c A Q ls X Y hW hl
  have hx := X.1.1
  have hb := X.1.2.1
  have hl : lv_has ls 2 [(0, .ref (h 0)), (1, .int (nI x))] := hl
  obtain ⟨z1, z2, z3, z4, z5, z6, z7, z8, z9, z10, z11, z12, z13⟩ := id hI
  refine lv_aload_n hx hb d_Top_place_0 rfl (lv_at hl 0 rfl) ?_
  refine R_get X hW i_Top rfl 1 (by decide) kf_Top_19 0 rfl rfl d_Top_place_1 ?_
  refine lv_iload_n hx hb d_Top_place_4 rfl (lv_at hl 1 rfl) ?_
  refine R_callV (q0 := 11) (c_Persons_has l G cI cZ cJ h ne stt sco tim cnt (nI x) (by omega)) X rfl hW cw_Top_76 ki_Persons_has ks_Persons_has rfl rfl ⟨rfl, rfl⟩ ⟨by decide, by decide⟩ ⟨Nat.zero_le _, Nat.zero_le _⟩ [false, false, false, false, false, false, false, false, false, false, false, true, true, true, true, true, false, false, false, false, false, false, false, false, false, false, false, false] rfl (Nat.le_of_ble_eq_true rfl) rfl rfl hl.1 rfl rfl (Nat.le_of_ble_eq_true rfl) d_Top_place_5 rfl (fun H locs hW => ?_)
  have hW : Wr G A s.heap (w_All h cI cZ cJ wr se ga tw np tot gr fa re ss sc ne stt sco tim cnt ns sp sq sec rt it ans tl un nw td) H locs := hW
  refine N_if_ne_B hx hb  (tgt := 13) d_Top_place_8 (by decide) (fun c8 => ?_) (fun c8 => ?_)
  · refine lv_aload_n hx hb d_Top_place_13 rfl (lv_at hl 0 rfl) ?_
    refine R_callV (q0 := 0) (c_Top_workOutAll l G cI cZ cJ h wr se ga tw np tot gr fa re ss sc ne stt sco tim cnt ns sp sq sec rt it ans tl un nw td hI) X rfl hW cw_Top_103 ki_Top_workOutAll ks_Top_workOutAll rfl rfl ⟨rfl, rfl⟩ ⟨by decide, by decide⟩ ⟨Nat.zero_le _, Nat.zero_le _⟩ [true, true, true, true, true, true, true, true, true, true, true, true, true, true, true, true, true, true, true, true, true, true, true, true, true, true, true, true] rfl (Nat.le_of_ble_eq_true rfl) rfl rfl hl.1 rfl rfl (Nat.le_of_ble_eq_true rfl) d_Top_place_14 rfl (fun H locs hW => ?_)
    have hW : Wr G A s.heap (w_All h cI cZ cJ ((waF gr nw sp sq sec it rt stt ns ne (wr, se, ga, sco, tim, cnt)).1) ((waF gr nw sp sq sec it rt stt ns ne (wr, se, ga, sco, tim, cnt)).2.1) ((waF gr nw sp sq sec it rt stt ns ne (wr, se, ga, sco, tim, cnt)).2.2.1) tw np tot gr fa re ss sc ne stt ((waF gr nw sp sq sec it rt stt ns ne (wr, se, ga, sco, tim, cnt)).2.2.2.1) ((waF gr nw sp sq sec it rt stt ns ne (wr, se, ga, sco, tim, cnt)).2.2.2.2.1) ((waF gr nw sp sq sec it rt stt ns ne (wr, se, ga, sco, tim, cnt)).2.2.2.2.2) ns sp sq sec rt it ans tl un nw td) H locs := hW
    refine lv_aload_n hx hb d_Top_place_17 rfl (lv_at hl 0 rfl) ?_
    refine R_get X hW i_Top rfl 1 (by decide) kf_Top_19 0 rfl rfl d_Top_place_18 ?_
    refine lv_iload_n hx hb d_Top_place_21 rfl (lv_at hl 1 rfl) ?_
    refine lv_aload_n hx hb d_Top_place_22 rfl (lv_at hl 0 rfl) ?_
    refine R_get X hW i_Top rfl 4 (by decide) kf_Top_40 0 rfl rfl d_Top_place_23 ?_
    refine R_callV (q0 := 25) (c_Rules_timesPart l G cI cZ cJ h nw td z5) X rfl hW cw_Top_106 ki_Rules_timesPart ks_Rules_timesPart rfl rfl ⟨rfl, rfl⟩ ⟨by decide, by decide⟩ ⟨Nat.zero_le _, Nat.zero_le _⟩ [false, false, false, false, false, false, false, false, false, false, false, false, false, false, false, false, false, false, false, false, false, false, false, false, false, true, true, true] rfl (Nat.le_of_ble_eq_true rfl) rfl rfl hl.1 rfl rfl (Nat.le_of_ble_eq_true rfl) d_Top_place_26 rfl (fun H locs hW => ?_)
    have hW : Wr G A s.heap (w_All h cI cZ cJ ((waF gr nw sp sq sec it rt stt ns ne (wr, se, ga, sco, tim, cnt)).1) ((waF gr nw sp sq sec it rt stt ns ne (wr, se, ga, sco, tim, cnt)).2.1) ((waF gr nw sp sq sec it rt stt ns ne (wr, se, ga, sco, tim, cnt)).2.2.1) tw np tot gr fa re ss sc ne stt ((waF gr nw sp sq sec it rt stt ns ne (wr, se, ga, sco, tim, cnt)).2.2.2.1) ((waF gr nw sp sq sec it rt stt ns ne (wr, se, ga, sco, tim, cnt)).2.2.2.2.1) ((waF gr nw sp sq sec it rt stt ns ne (wr, se, ga, sco, tim, cnt)).2.2.2.2.2) ns sp sq sec rt it ans tl un nw td) H locs := hW
    refine R_callV (q0 := 11) (c_Persons_inPlace l G cI cZ cJ h ne stt ((waF gr nw sp sq sec it rt stt ns ne (wr, se, ga, sco, tim, cnt)).2.2.2.1) ((waF gr nw sp sq sec it rt stt ns ne (wr, se, ga, sco, tim, cnt)).2.2.2.2.1) ((waF gr nw sp sq sec it rt stt ns ne (wr, se, ga, sco, tim, cnt)).2.2.2.2.2) x (decide (nw 4 = 1)) (by omega) z2 hsc htm) X rfl hW cw_Top_127 ki_Persons_inPlace ks_Persons_inPlace rfl rfl ⟨rfl, rfl⟩ ⟨by decide, by decide⟩ ⟨Nat.zero_le _, Nat.zero_le _⟩ [false, false, false, false, false, false, false, false, false, false, false, true, true, true, true, true, false, false, false, false, false, false, false, false, false, false, false, false] rfl (Nat.le_of_ble_eq_true rfl) rfl rfl hl.1 rfl rfl (Nat.le_of_ble_eq_true rfl) d_Top_place_29 rfl (fun H locs hW => ?_)
    have hW : Wr G A s.heap (w_All h cI cZ cJ ((waF gr nw sp sq sec it rt stt ns ne (wr, se, ga, sco, tim, cnt)).1) ((waF gr nw sp sq sec it rt stt ns ne (wr, se, ga, sco, tim, cnt)).2.1) ((waF gr nw sp sq sec it rt stt ns ne (wr, se, ga, sco, tim, cnt)).2.2.1) tw np tot gr fa re ss sc ne stt ((waF gr nw sp sq sec it rt stt ns ne (wr, se, ga, sco, tim, cnt)).2.2.2.1) ((waF gr nw sp sq sec it rt stt ns ne (wr, se, ga, sco, tim, cnt)).2.2.2.2.1) ((waF gr nw sp sq sec it rt stt ns ne (wr, se, ga, sco, tim, cnt)).2.2.2.2.2) ns sp sq sec rt it ans tl un nw td) H locs := hW
    exact R_iret X Y hW rfl rfl d_Top_place_32
  · exfalso; rw [inB_nI (by omega) (by omega)] at c8; cases c8
end
section
set_option maxHeartbeats 4000000 in
set_option maxRecDepth 100000 in
theorem c_Top_suspicious_bad (l : Launch) (G : va_G) (cI cZ cJ : ClassId) (h : Nat → Nat) (wr : Nat → Nat) (se : Nat → Bool) (ga : Nat → Option Nat) (tw : Nat → Option Nat) (np : Nat) (tot : Nat) (gr : Nat → Nat) (fa : Nat → Nat) (re : Nat → Bool) (ss : Nat → Nat) (sc : Nat → Nat) (ne : Nat) (stt : Nat → Option Nat) (sco : Nat → Nat) (tim : Nat → Nat) (cnt : Nat → Nat) (ns : Nat) (sp : Nat → Nat) (sq : Nat → Nat) (sec : Nat → Nat) (rt : Nat → Bool) (it : Nat → Nat) (ans : Nat → Nat) (tl : Nat) (un : Nat → Nat) (nw : Nat → Nat) (td : Nat → Nat) (k : Int32) (w : Int32) (hbad : ¬ (0 ≤ k.toInt ∧ 0 ≤ w.toInt ∧ w.toInt ≤ 3)) : Ct l G (tyL cI cZ cJ) y_Top_suspicious b_Top_suspicious 6 (some .int) (rmL 0) [.ref (h 0), .int k, .int w] (w_All h cI cZ cJ wr se ga tw np tot gr fa re ss sc ne stt sco tim cnt ns sp sq sec rt it ans tl un nw td) (some (.int (-1))) (w_All h cI cZ cJ wr se ga tw np tot gr fa re ss sc ne stt sco tim cnt ns sp sq sec rt it ans tl un nw td) := by
  refine M_start (by decide) (Nat.le_of_ble_eq_true rfl) ?_
  intro p e s m args below meth c A Q ls X Y hW hl
  have hx := X.1.1
  have hb := X.1.2.1
  have hl : lv_has ls 6 [(0, .ref (h 0)), (1, .int k), (2, .int w)] := hl
  refine lv_iload_n hx hb d_Top_suspicious_0 rfl (lv_at hl 1 rfl) ?_
  refine N_if_lt_R hx hb  (tgt := 13) d_Top_suspicious_1 (by decide) (fun c1 => ?_) (fun c1 => ?_)
  · refine lv_iconst (v := (-1)) hx hb d_Top_suspicious_13 (by decide +kernel) ?_
    exact R_iret X Y hW rfl rfl d_Top_suspicious_14
  · refine lv_iload_n hx hb d_Top_suspicious_4 rfl (lv_at hl 2 rfl) ?_
    refine N_if_lt_R hx hb  (tgt := 13) d_Top_suspicious_5 (by decide) (fun c5 => ?_) (fun c5 => ?_)
    · refine lv_iconst (v := (-1)) hx hb d_Top_suspicious_13 (by decide +kernel) ?_
      exact R_iret X Y hW rfl rfl d_Top_suspicious_14
    · refine lv_iload_n hx hb d_Top_suspicious_8 rfl (lv_at hl 2 rfl) ?_
      refine lv_iconst (v := (nI 3)) hx hb d_Top_suspicious_9 (by decide +kernel) ?_
      refine N_icmp_le_RN hx hb (by decide) (tgt := 15) d_Top_suspicious_10 (by decide) (fun c10 => ?_) (fun c10 => ?_)
      · exfalso; omega
      · refine lv_iconst (v := (-1)) hx hb d_Top_suspicious_13 (by decide +kernel) ?_
        exact R_iret X Y hW rfl rfl d_Top_suspicious_14

theorem kf_Top_56 : Cond.fieldLink "ContestRows" 56 "ContestRows" "twins" "[I" ∈ TBL := TBL_t (List.mem_append_left _ (List.mem_of_getElem? (i := 150) rfl)) rfl
theorem kb_Submissions_findTwins : Cond.code y_Submissions_findTwins b_Submissions_findTwins 4 none ∈ TBL := TBL_t (List.mem_append_right _ (List.mem_append_left _ (List.mem_of_getElem? (i := 214) rfl))) rfl
theorem km_Top_138 : Cond.methodLink "ContestRows" 138 y_Submissions_findTwins ∈ TBL := TBL_t (List.mem_append_right _ (List.mem_append_left _ (List.mem_of_getElem? (i := 211) rfl))) rfl
theorem cw_Top_138 : Cw "ContestRows" 138 y_Submissions_findTwins b_Submissions_findTwins 4 none 2 := ⟨kb_Submissions_findTwins, kn_Submissions, km_Top_138, by decide +kernel⟩
theorem ki_Submissions_findTwins : Cond.instanceMethod y_Submissions_findTwins ∈ TBL := TBL_t (List.mem_append_right _ (List.mem_append_left _ (List.mem_of_getElem? (i := 212) rfl))) rfl
theorem ks_Submissions_findTwins : Cond.selects "ContestRows$Submissions" y_Submissions_findTwins y_Submissions_findTwins ∈ TBL := TBL_t (List.mem_append_right _ (List.mem_append_left _ (List.mem_of_getElem? (i := 213) rfl))) rfl
theorem km_Top_145 : Cond.methodLink "ContestRows" 145 y_Submissions_secondsBetween ∈ TBL := TBL_t (List.mem_append_right _ (List.mem_append_left _ (List.mem_of_getElem? (i := 219) rfl))) rfl
theorem cw_Top_145 : Cw "ContestRows" 145 y_Submissions_secondsBetween b_Submissions_secondsBetween 3 (some .int) 2 := ⟨kb_Submissions_secondsBetween, kn_Submissions, km_Top_145, by decide +kernel⟩
theorem kb_Submissions_tellPair : Cond.code y_Submissions_tellPair b_Submissions_tellPair 4 (some .int) ∈ TBL := TBL_t (List.mem_append_right _ (List.mem_append_left _ (List.mem_of_getElem? (i := 229) rfl))) rfl
theorem km_Top_149 : Cond.methodLink "ContestRows" 149 y_Submissions_tellPair ∈ TBL := TBL_t (List.mem_append_right _ (List.mem_append_left _ (List.mem_of_getElem? (i := 226) rfl))) rfl
theorem cw_Top_149 : Cw "ContestRows" 149 y_Submissions_tellPair b_Submissions_tellPair 4 (some .int) 3 := ⟨kb_Submissions_tellPair, kn_Submissions, km_Top_149, by decide +kernel⟩
theorem ki_Submissions_tellPair : Cond.instanceMethod y_Submissions_tellPair ∈ TBL := TBL_t (List.mem_append_right _ (List.mem_append_left _ (List.mem_of_getElem? (i := 227) rfl))) rfl
theorem ks_Submissions_tellPair : Cond.selects "ContestRows$Submissions" y_Submissions_tellPair y_Submissions_tellPair ∈ TBL := TBL_t (List.mem_append_right _ (List.mem_append_left _ (List.mem_of_getElem? (i := 228) rfl))) rfl
set_option maxHeartbeats 4000000 in
set_option maxRecDepth 100000 in
theorem c_Top_suspicious_ok (l : Launch) (G : va_G) (cI cZ cJ : ClassId) (h : Nat → Nat) (wr : Nat → Nat) (se : Nat → Bool) (ga : Nat → Option Nat) (tw : Nat → Option Nat) (np : Nat) (tot : Nat) (gr : Nat → Nat) (fa : Nat → Nat) (re : Nat → Bool) (ss : Nat → Nat) (sc : Nat → Nat) (ne : Nat) (stt : Nat → Option Nat) (sco : Nat → Nat) (tim : Nat → Nat) (cnt : Nat → Nat) (ns : Nat) (sp : Nat → Nat) (sq : Nat → Nat) (sec : Nat → Nat) (rt : Nat → Bool) (it : Nat → Nat) (ans : Nat → Nat) (tl : Nat) (un : Nat → Nat) (nw : Nat → Nat) (td : Nat → Nat) (k : Nat) (w : Nat) (hk : k < 2 ^ 31) (hw0 : w ≤ 3) (hI : IS np ne ns gr nw sp sq sec it ans stt) : Ct l G (tyL cI cZ cJ) y_Top_suspicious b_Top_suspicious 6 (some .int) (rmL 3) [.ref (h 0), .int (nI k), .int (nI w)] (w_All h cI cZ cJ wr se ga tw np tot gr fa re ss sc ne stt sco tim cnt ns sp sq sec rt it ans tl un nw td) (some (.int (oI ((suG sp sq sec ans rt ne ns k ns 0 0 tw).1.map (fun q => tlF sp sq sec q.1 q.2 w))))) (w_All h cI cZ cJ wr se ga ((suG sp sq sec ans rt ne ns k ns 0 0 tw).2) np tot gr fa re ss sc ne stt sco tim cnt ns sp sq sec rt it ans tl un nw td) := by
  refine M_start (by decide) (Nat.le_of_ble_eq_true rfl) ?_
  intro p e s m args below meth c A Q ls X Y hW hl
  have hx := X.1.1
  have hb := X.1.2.1
  have hl : lv_has ls 6 [(0, .ref (h 0)), (1, .int (nI k)), (2, .int (nI w))] := hl
  obtain ⟨z1, z2, z3, z4, z5, z6, z7, z8, z9, z10, z11, z12, z13⟩ := id hI
  refine lv_iload_n hx hb d_Top_suspicious_0 rfl (lv_at hl 1 rfl) ?_
  refine N_if_lt_N hx hb (by omega) (tgt := 13) d_Top_suspicious_1 (by decide) (fun c1 => ?_) (fun c1 => ?_)
  · exfalso; omega
  · refine lv_iload_n hx hb d_Top_suspicious_4 rfl (lv_at hl 2 rfl) ?_
    refine N_if_lt_N hx hb (by omega) (tgt := 13) d_Top_suspicious_5 (by decide) (fun c5 => ?_) (fun c5 => ?_)
    · exfalso; omega
    · refine lv_iload_n hx hb d_Top_suspicious_8 rfl (lv_at hl 2 rfl) ?_
      refine lv_iconst (v := (nI 3)) hx hb d_Top_suspicious_9 (by decide +kernel) ?_
      refine N_icmp_le_NN hx hb (by omega) (by decide) (tgt := 15) d_Top_suspicious_10 (by decide) (fun c10 => ?_) (fun c10 => ?_)
      · refine lv_iconst (v := (nI 0)) hx hb d_Top_suspicious_15 (by decide +kernel) ?_
        refine lv_istore_n (lv' := [(3, .int (nI 0)), (0, .ref (h 0)), (1, .int (nI k)), (2, .int (nI w))]) hx hb d_Top_suspicious_16 rfl hl (by decide) rfl (fun ls hl => ?_)
        refine lv_iconst (v := (nI 0)) hx hb d_Top_suspicious_17 (by decide +kernel) ?_
        refine lv_istore (lv' := [(4, .int (nI 0)), (3, .int (nI 0)), (0, .ref (h 0)), (1, .int (nI k)), (2, .int (nI w))]) hx hb d_Top_suspicious_18 hl (by decide) rfl (fun ls hl => ?_)
        have L20 : ∀ (n : Nat) (a : Nat) (cn : Nat) (f : Nat → Option Nat) (hi : a + n = ns) (hcn : cn ≤ 20 * a) (he : suG sp sq sec ans rt ne ns k n a cn f = suG sp sq sec ans rt ne ns k ns 0 0 tw) (H : Heap) (locs : List Loc) (hW : Wr G A s.heap (w_All h cI cZ cJ wr se ga f np tot gr fa re ss sc ne stt sco tim cnt ns sp sq sec rt it ans tl un nw td) H locs) (ls : Array Slot) (hl : lv_has ls 6 [(0, .ref (h 0)), (1, .int (nI k)), (2, .int (nI w)), (3, .int (nI cn)), (4, .int (nI a))]), W p l e (rmL 3) s m args below meth c H locs 0 0 Q (F0 m 20 ls []) := by
          intro n
          induction n with
          | zero =>
            intro a cn f hi hcn he H locs hW ls hl
            refine lv_iload hx hb d_Top_suspicious_20 (lv_at hl 4 rfl) ?_
            refine lv_aload_n hx hb d_Top_suspicious_22 rfl (lv_at hl 0 rfl) ?_
            refine R_get X hW i_Top rfl 2 (by decide) kf_Top_26 0 rfl rfl d_Top_suspicious_23 ?_
            refine R_get X hW i_Submissions rfl 5 (by decide) kf_Top_134 16 rfl rfl d_Top_suspicious_26 ?_
            refine N_icmp_ge_NN hx hb (by omega) (by omega) (tgt := 160) d_Top_suspicious_29 (by decide) (fun c29 => ?_) (fun c29 => ?_)
            · refine lv_iconst (v := (-1)) hx hb d_Top_suspicious_160 (by decide +kernel) ?_
              exact R_iret X Y hW (by rw [← he]; rfl) (by rw [← he]; rfl) d_Top_suspicious_161
            · exfalso; omega
          | succ n ih20 =>
            intro a cn f hi hcn he H locs hW ls hl
            refine lv_iload hx hb d_Top_suspicious_20 (lv_at hl 4 rfl) ?_
            refine lv_aload_n hx hb d_Top_suspicious_22 rfl (lv_at hl 0 rfl) ?_
            refine R_get X hW i_Top rfl 2 (by decide) kf_Top_26 0 rfl rfl d_Top_suspicious_23 ?_
            refine R_get X hW i_Submissions rfl 5 (by decide) kf_Top_134 16 rfl rfl d_Top_suspicious_26 ?_
            refine N_icmp_ge_NN hx hb (by omega) (by omega) (tgt := 160) d_Top_suspicious_29 (by decide) (fun c29 => ?_) (fun c29 => ?_)
            · exfalso; omega
            · refine lv_aload_n hx hb d_Top_suspicious_32 rfl (lv_at hl 0 rfl) ?_
              refine R_get X hW i_Top rfl 2 (by decide) kf_Top_26 0 rfl rfl d_Top_suspicious_33 ?_
              refine R_get X hW i_Submissions rfl 3 (by decide) kf_Top_92 16 rfl rfl d_Top_suspicious_36 ?_
              refine lv_iload hx hb d_Top_suspicious_39 (lv_at hl 4 rfl) ?_
              refine R_zald X hW (t0 := 1) rfl 20 rfl (k := a) (by omega) (by decide) d_Top_suspicious_41 ?_
              refine N_if_eq_B hx hb  (tgt := 48) d_Top_suspicious_42 (by decide) (fun c42 => ?_) (fun c42 => ?_)
              · have y1 := z6 a (by omega)
                refine lv_aload_n hx hb d_Top_suspicious_48 rfl (lv_at hl 0 rfl) ?_
                refine R_get X hW i_Top rfl 2 (by decide) kf_Top_26 0 rfl rfl d_Top_suspicious_49 ?_
                refine lv_iload hx hb d_Top_suspicious_52 (lv_at hl 4 rfl) ?_
                refine lv_aload_n hx hb d_Top_suspicious_54 rfl (lv_at hl 0 rfl) ?_
                refine R_get X hW i_Top rfl 8 (by decide) kf_Top_56 0 rfl rfl d_Top_suspicious_55 ?_
                refine R_callV (q0 := 16) (c_Submissions_findTwins l G cI cZ cJ h f ns sp sq sec rt it ans a (by omega) z3 (fun i hi => (z13 i (by omega)).1) (fun i hi => by have := (z13 i hi).2; omega) z10) X rfl hW cw_Top_138 ki_Submissions_findTwins ks_Submissions_findTwins rfl rfl ⟨rfl, rfl⟩ ⟨by decide, by decide⟩ ⟨Nat.zero_le _, Nat.zero_le _⟩ [false, false, false, false, true, false, false, false, false, false, false, false, false, false, false, false, true, true, true, true, true, true, true, false, false, false, false, false] rfl (Nat.le_of_ble_eq_true rfl) rfl rfl hl.1 rfl rfl (Nat.le_of_ble_eq_true rfl) d_Top_suspicious_58 rfl (fun H locs hW => ?_)
                have hW : Wr G A s.heap (w_All h cI cZ cJ wr se ga (twG sp sq ans rt a ns 0 (upK none 20 f)) np tot gr fa re ss sc ne stt sco tim cnt ns sp sq sec rt it ans tl un nw td) H locs := hW
                have htw := twG_lt sp sq ans rt a ns 0 (upK none 20 f) ns (by omega) (fun x z hx1 hz1 => by rw [upK_lt _ _ _ _ hx1] at hz1; cases hz1)
                refine lv_aload_n hx hb d_Top_suspicious_61 rfl (lv_at hl 0 rfl) ?_
                refine R_get X hW i_Top rfl 2 (by decide) kf_Top_26 0 rfl rfl d_Top_suspicious_62 ?_
                refine R_get X hW i_Submissions rfl 0 (by decide) kf_Top_142 16 rfl rfl d_Top_suspicious_65 ?_
                refine lv_iload hx hb d_Top_suspicious_68 (lv_at hl 4 rfl) ?_
                refine R_iald X hW (t0 := 0) rfl 17 rfl (k := a) (by omega) (by decide) d_Top_suspicious_70 ?_
                refine lv_iconst (v := (nI 1)) hx hb d_Top_suspicious_71 (by decide +kernel) ?_
                refine N_iadd hx hb d_Top_suspicious_72 ?_
                refine lv_istore (lv' := [(5, .int (nI ((sp a) + 1))), (0, .ref (h 0)), (1, .int (nI k)), (2, .int (nI w)), (3, .int (nI cn)), (4, .int (nI a))]) hx hb d_Top_suspicious_73 hl (by decide) rfl (fun ls hl => ?_)
                have L75 : ∀ (n3 : Nat) (b : Nat) (c2 : Nat) (hb3 : b + n3 = ne) (hc2 : c2 ≤ 20 * a + b) (he3 : inG (twG sp sq ans rt a ns 0 (upK none 20 f)) sec a k n3 b c2 = inG (twG sp sq ans rt a ns 0 (upK none 20 f)) sec a k (ne - (sp a + 1)) (sp a + 1) cn) (H : Heap) (locs : List Loc) (hW : Wr G A s.heap (w_All h cI cZ cJ wr se ga (twG sp sq ans rt a ns 0 (upK none 20 f)) np tot gr fa re ss sc ne stt sco tim cnt ns sp sq sec rt it ans tl un nw td) H locs) (ls : Array Slot) (hl : lv_has ls 6 [(0, .ref (h 0)), (1, .int (nI k)), (2, .int (nI w)), (3, .int (nI c2)), (4, .int (nI a)), (5, .int (nI b))]), W p l e (rmL 3) s m args below meth c H locs 0 0 Q (F0 m 75 ls []) := by
                  intro n3
                  induction n3 with
                  | zero =>
                    intro b c2 hb3 hc2 he3 H locs hW ls hl
                    refine lv_iload hx hb d_Top_suspicious_75 (lv_at hl 5 rfl) ?_
                    refine lv_aload_n hx hb d_Top_suspicious_77 rfl (lv_at hl 0 rfl) ?_
                    refine R_get X hW i_Top rfl 1 (by decide) kf_Top_19 0 rfl rfl d_Top_suspicious_78 ?_
                    refine R_get X hW i_Persons rfl 4 (by decide) kf_Top_144 11 rfl rfl d_Top_suspicious_81 ?_
                    refine N_icmp_ge_NN hx hb (by omega) (by omega) (tgt := 154) d_Top_suspicious_84 (by decide) (fun c84 => ?_) (fun c84 => ?_)
                    · refine lv_iinc (v := (nI (a + 1))) (lv' := [(4, .int (nI (a + 1))), (0, .ref (h 0)), (1, .int (nI k)), (2, .int (nI w)), (3, .int (nI c2)), (5, .int (nI b))]) hx hb d_Top_suspicious_154 hl (k := 4) rfl (N_inc a) (by decide) rfl (fun ls hl => ?_)
                      refine lv_goto (tgt := 20) hx hb d_Top_suspicious_157 (by decide) ?_
                      exact ih20 (a + 1) c2 (twG sp sq ans rt a ns 0 (upK none 20 f)) (by omega) (by omega) (by rw [← he, suG, if_neg (by simp [c42]), ← he3]; rfl) _ _ hW ls (lv_sub hl [1, 2, 3, 4, 0] rfl)
                    · exfalso; omega
                  | succ n3 ih75 =>
                    intro b c2 hb3 hc2 he3 H locs hW ls hl
                    refine lv_iload hx hb d_Top_suspicious_75 (lv_at hl 5 rfl) ?_
                    refine lv_aload_n hx hb d_Top_suspicious_77 rfl (lv_at hl 0 rfl) ?_
                    refine R_get X hW i_Top rfl 1 (by decide) kf_Top_19 0 rfl rfl d_Top_suspicious_78 ?_
                    refine R_get X hW i_Persons rfl 4 (by decide) kf_Top_144 11 rfl rfl d_Top_suspicious_81 ?_
                    refine N_icmp_ge_NN hx hb (by omega) (by omega) (tgt := 154) d_Top_suspicious_84 (by decide) (fun c84 => ?_) (fun c84 => ?_)
                    · exfalso; omega
                    · refine lv_aload_n hx hb d_Top_suspicious_87 rfl (lv_at hl 0 rfl) ?_
                      refine R_get X hW i_Top rfl 8 (by decide) kf_Top_56 0 rfl rfl d_Top_suspicious_88 ?_
                      refine lv_iload hx hb d_Top_suspicious_91 (lv_at hl 5 rfl) ?_
                      refine R_iald X hW (t0 := 0) rfl 4 rfl (k := b) (by omega) (by decide) d_Top_suspicious_93 ?_
                      refine lv_iconst (v := (-1)) hx hb d_Top_suspicious_94 (by decide +kernel) ?_
                      refine N_icmp_eq_Om hx hb (fun z hz => by have := htw b z (by omega) hz; omega) (tgt := 148) d_Top_suspicious_95 (by decide) (fun c95 => ?_) (fun c95 => ?_)
                      · refine lv_iinc (v := (nI (b + 1))) (lv' := [(5, .int (nI (b + 1))), (0, .ref (h 0)), (1, .int (nI k)), (2, .int (nI w)), (3, .int (nI c2)), (4, .int (nI a))]) hx hb d_Top_suspicious_148 hl (k := 5) rfl (N_inc b) (by decide) rfl (fun ls hl => ?_)
                        refine lv_goto (tgt := 75) hx hb d_Top_suspicious_151 (by decide) ?_
                        exact ih75 (b + 1) c2 (by omega) (by omega) (by rw [← he3, inG, c95]) _ _ hW ls (lv_sub hl [1, 2, 3, 4, 5, 0] rfl)
                      · obtain ⟨o, ho⟩ : ∃ o, twG sp sq ans rt a ns 0 (upK none 20 f) b = some o := by cases hz2 : twG sp sq ans rt a ns 0 (upK none 20 f) b with | none => exact absurd hz2 c95 | some o => exact ⟨o, rfl⟩
                        have y5 := htw b o (by omega) ho
                        have y6 := dst_le (z8 a (by omega)) (z8 o (by omega))
                        refine lv_aload_n hx hb d_Top_suspicious_98 rfl (lv_at hl 0 rfl) ?_
                        refine R_get X hW i_Top rfl 2 (by decide) kf_Top_26 0 rfl rfl d_Top_suspicious_99 ?_
                        refine lv_iload hx hb d_Top_suspicious_102 (lv_at hl 4 rfl) ?_
                        refine lv_aload_n hx hb d_Top_suspicious_104 rfl (lv_at hl 0 rfl) ?_
                        refine R_get X hW i_Top rfl 8 (by decide) kf_Top_56 0 rfl rfl d_Top_suspicious_105 ?_
                        refine lv_iload hx hb d_Top_suspicious_108 (lv_at hl 5 rfl) ?_
                        refine R_iald X hW (t0 := 0) rfl 4 rfl (k := b) (by omega) (by decide) d_Top_suspicious_110 ?_
                        refine W.eq (g2 := F0 m 111 ls (.int (nI o) :: .int (nI a) :: .ref (h 16) :: [])) (by rw [ho]; first | done | rfl) ?_
                        refine R_callV (q0 := 16) (c_Submissions_secondsBetween l G cI cZ cJ h ns sp sq sec rt it ans a o (by omega) (by omega) z8) X rfl hW cw_Top_145 ki_Submissions_secondsBetween ks_Submissions_secondsBetween rfl rfl ⟨rfl, rfl⟩ ⟨by decide, by decide⟩ ⟨Nat.zero_le _, Nat.zero_le _⟩ [false, false, false, false, false, false, false, false, false, false, false, false, false, false, false, false, true, true, true, true, true, true, true, false, false, false, false, false] rfl (Nat.le_of_ble_eq_true rfl) rfl rfl hl.1 rfl rfl (Nat.le_of_ble_eq_true rfl) d_Top_suspicious_111 rfl (fun H locs hW => ?_)
                        have hW : Wr G A s.heap (w_All h cI cZ cJ wr se ga (twG sp sq ans rt a ns 0 (upK none 20 f)) np tot gr fa re ss sc ne stt sco tim cnt ns sp sq sec rt it ans tl un nw td) H locs := hW
                        refine lv_bipush (v := (nI 60)) hx hb d_Top_suspicious_114 (by decide +kernel) ?_
                        refine N_icmp_le_NN hx hb (by omega) (by decide) (tgt := 122) d_Top_suspicious_116 (by decide) (fun c116 => ?_) (fun c116 => ?_)
                        · refine lv_iload_n hx hb d_Top_suspicious_122 rfl (lv_at hl 3 rfl) ?_
                          refine lv_iload_n hx hb d_Top_suspicious_123 rfl (lv_at hl 1 rfl) ?_
                          refine N_icmp_ne_NN hx hb (by omega) (by omega) (tgt := 145) d_Top_suspicious_124 (by decide) (fun c124 => ?_) (fun c124 => ?_)
                          · refine lv_iinc (v := (nI (c2 + 1))) (lv' := [(3, .int (nI (c2 + 1))), (0, .ref (h 0)), (1, .int (nI k)), (2, .int (nI w)), (4, .int (nI a)), (5, .int (nI b))]) hx hb d_Top_suspicious_145 hl (k := 3) rfl (N_inc c2) (by decide) rfl (fun ls hl => ?_)
                            refine lv_iinc (v := (nI (b + 1))) (lv' := [(5, .int (nI (b + 1))), (3, .int (nI (c2 + 1))), (0, .ref (h 0)), (1, .int (nI k)), (2, .int (nI w)), (4, .int (nI a))]) hx hb d_Top_suspicious_148 hl (k := 5) rfl (N_inc b) (by decide) rfl (fun ls hl => ?_)
                            refine lv_goto (tgt := 75) hx hb d_Top_suspicious_151 (by decide) ?_
                            exact ih75 (b + 1) (c2 + 1) (by omega) (by omega) (by rw [← he3, inG, ho]; dsimp only; rw [if_neg (by omega), if_neg c124]) _ _ hW ls (lv_sub hl [2, 3, 4, 1, 5, 0] rfl)
                          · refine lv_aload_n hx hb d_Top_suspicious_127 rfl (lv_at hl 0 rfl) ?_
                            refine R_get X hW i_Top rfl 2 (by decide) kf_Top_26 0 rfl rfl d_Top_suspicious_128 ?_
                            refine lv_iload hx hb d_Top_suspicious_131 (lv_at hl 4 rfl) ?_
                            refine lv_aload_n hx hb d_Top_suspicious_133 rfl (lv_at hl 0 rfl) ?_
                            refine R_get X hW i_Top rfl 8 (by decide) kf_Top_56 0 rfl rfl d_Top_suspicious_134 ?_
                            refine lv_iload hx hb d_Top_suspicious_137 (lv_at hl 5 rfl) ?_
                            refine R_iald X hW (t0 := 0) rfl 4 rfl (k := b) (by omega) (by decide) d_Top_suspicious_139 ?_
                            refine W.eq (g2 := F0 m 140 ls (.int (nI o) :: .int (nI a) :: .ref (h 16) :: [])) (by rw [ho]; first | done | rfl) ?_
                            refine lv_iload_n hx hb d_Top_suspicious_140 rfl (lv_at hl 2 rfl) ?_
                            refine R_callV (q0 := 16) (c_Submissions_tellPair l G cI cZ cJ h ns sp sq sec rt it ans a o w (by omega) (by omega) hw0 z8) X rfl hW cw_Top_149 ki_Submissions_tellPair ks_Submissions_tellPair rfl rfl ⟨rfl, rfl⟩ ⟨by decide, by decide⟩ ⟨Nat.zero_le _, Nat.zero_le _⟩ [false, false, false, false, false, false, false, false, false, false, false, false, false, false, false, false, true, true, true, true, true, true, true, false, false, false, false, false] rfl (Nat.le_of_ble_eq_true rfl) rfl rfl hl.1 rfl rfl (Nat.le_of_ble_eq_true rfl) d_Top_suspicious_141 rfl (fun H locs hW => ?_)
                            have hW : Wr G A s.heap (w_All h cI cZ cJ wr se ga (twG sp sq ans rt a ns 0 (upK none 20 f)) np tot gr fa re ss sc ne stt sco tim cnt ns sp sq sec rt it ans tl un nw td) H locs := hW
                            exact R_iret X Y hW (by rw [← he, suG, if_neg (by simp [c42]), ← he3, inG, ho]; dsimp only; rw [if_neg (by omega), if_pos c124]) (by rw [← he, suG, if_neg (by simp [c42]), ← he3, inG, ho]; dsimp only; rw [if_neg (by omega), if_pos c124]; rfl) d_Top_suspicious_144
                        · refine lv_goto (tgt := 148) hx hb d_Top_suspicious_119 (by decide) ?_
                          refine lv_iinc (v := (nI (b + 1))) (lv' := [(5, .int (nI (b + 1))), (0, .ref (h 0)), (1, .int (nI k)), (2, .int (nI w)), (3, .int (nI c2)), (4, .int (nI a))]) hx hb d_Top_suspicious_148 hl (k := 5) rfl (N_inc b) (by decide) rfl (fun ls hl => ?_)
                          refine lv_goto (tgt := 75) hx hb d_Top_suspicious_151 (by decide) ?_
                          exact ih75 (b + 1) c2 (by omega) (by omega) (by rw [← he3, inG, ho]; dsimp only; rw [if_pos c116]) _ _ hW ls (lv_sub hl [1, 2, 3, 4, 5, 0] rfl)
                exact L75 (ne - (sp a + 1)) (sp a + 1) cn (by omega) (by omega) rfl _ _ hW ls (lv_sub hl [1, 2, 3, 4, 5, 0] rfl)
              · refine lv_goto (tgt := 154) hx hb d_Top_suspicious_45 (by decide) ?_
                refine lv_iinc (v := (nI (a + 1))) (lv' := [(4, .int (nI (a + 1))), (0, .ref (h 0)), (1, .int (nI k)), (2, .int (nI w)), (3, .int (nI cn))]) hx hb d_Top_suspicious_154 hl (k := 4) rfl (N_inc a) (by decide) rfl (fun ls hl => ?_)
                refine lv_goto (tgt := 20) hx hb d_Top_suspicious_157 (by decide) ?_
                exact ih20 (a + 1) cn f (by omega) (by omega) (by rw [← he, suG, if_pos c42]) _ _ hW ls (lv_sub hl [1, 2, 3, 4, 0] rfl)
        exact L20 ns 0 0 tw (by omega) (by omega) rfl _ _ hW ls (lv_sub hl [2, 3, 4, 1, 0] rfl)
      · exfalso; omega
end
